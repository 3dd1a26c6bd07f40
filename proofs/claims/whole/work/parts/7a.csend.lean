/-! the class: send -/
section CN2
variable {G : Nat → Nat → Int}
def mSent (N : NT) (L : Nat → Int) (p : Nat → Nat) (n : Int) (d : Nat) (G : Nat → Nat → Int) : Option XV → XM → Prop := fun v τ => ∃ s : Nat, ∃ G', v = some (xI (s : Int)) ∧ s < d ∧ τ = (S0, G') ∧ (∀ i, i ≠ ne_free → i ≠ ne_seen → G' i = G i) ∧ (∀ e, e < 2 * N.1 → G' ne_free e = pushL L p n d e) ∧ (∀ j, j < s → L (p j) ≠ n) ∧
  (∀ j, s ≤ j → j < d → G' ne_seen (he N (p j)) = 0) ∧ (∀ x, (∀ j, s ≤ j → j < d → he N (p j) ≠ x) → G' ne_seen x = G ne_seen x) ∧ su (G' ne_seen) 338 = su (G ne_seen) 338 - ((d : Int) - s)
theorem c_send {N : NT} {L : Nat → Int} (hw : nWf N) (hK : N.1 ≤ 1024) (hn : cNet N L G) (hL : ∀ e, 0 ≤ L e ∧ L e ≤ 1000000) (p : Nat → Nat) (n : Int) (d : Nat) (hd : d ≤ 338) (hn1 : 0 ≤ n ∧ n ≤ 1000000) (hp : ∀ i, i < d → G ne_path i = p i ∧ p i < 2 * N.1) (hi : ∀ j k, j < d → k < d → p j = p k → j = k) (hr : ∀ j k, j < d → k < d → xr (p j) ≠ p k) (hx : ∃ j, j < d ∧ L (p j) = n) (hh : ∀ j k, j < d → k < d → he N (p j) = he N (p k) → j = k) (hs : ∀ j, j < d → G ne_seen (he N (p j)) = 1) :
    x_M y_Ne_send [oNe, xI (d : Int), xI n] (S0, G) (fun r τ => ∃ v, r = .inl v ∧ mSent N L p n d G v τ) := by
  refine x_of 3 rfl (Nat.le_of_ble_eq_true rfl) ?_
  show x_A y_Ne_send 0 [some oNe, some (xI (d : Int)), some (xI n), none, none, none] [] (S0, G) 0 0 _
  generalize hQ : (fun (r : XRes) (τ : XM) => ∃ v, r = .inl v ∧ mSent N L p n d G v τ) = Q
  refine x_iload_n d_Ne_send_0 rfl rfl ?_
  refine x_istore_n d_Ne_send_1 rfl (by decide) ?_
  dsimp only [x_st1, x_st2, x_kill, List.set, List.getElem?_cons_zero, List.getElem?_cons_succ]
  refine x_iload_n d_Ne_send_2 rfl rfl ?_
  refine x_iconst (1) d_Ne_send_3 rfl ⟨by decide, by decide⟩ ?_
  refine x_isubN d_Ne_send_4 (by omega) (by omega) ?_
  refine x_istore d_Ne_send_5 (by decide) ?_
  dsimp only [x_st1, x_st2, x_kill, List.set, List.getElem?_cons_zero, List.getElem?_cons_succ]
  have second : ∀ (s : Nat) G1 z, s < d → (∀ j, j < s → L (p j) ≠ n) → (∀ i, i ≠ ne_free → G1 i = G i) → (∀ e, e < 2 * N.1 → G1 ne_free e = pushL L p n d e) → x_A y_Ne_send 67 [some oNe, some (xI (d : Int)), some (xI n), some (xI (s : Int)), some (xI (s : Int)), z] [] (S0, G1) 0 0 Q := by
    intro s G1 z s1 s2 f1 f2
    have es := f1 ne_seen (by decide)
    refine x_up_to (P := fun i => ∀ G', (∀ i, i ≠ ne_free → i ≠ ne_seen → G' i = G i) → (∀ e, e < 2 * N.1 → G' ne_free e = pushL L p n d e) → (∀ j, s ≤ j → j < i → G' ne_seen (he N (p j)) = 0) → (∀ x, (∀ j, s ≤ j → j < i → he N (p j) ≠ x) → G' ne_seen x = G ne_seen x) → su (G' ne_seen) 338 = su (G ne_seen) 338 - ((i : Int) - s) → x_A y_Ne_send 67 [some oNe, some (xI (d : Int)), some (xI n), some (xI (s : Int)), some (xI (i : Int)), z] [] (S0, G') 0 0 Q) s d (by omega) (fun G' g1 g2 g3 g4 g5 => ?_) (fun i i1 i2 k G' g1 g2 g3 g4 g5 => ?_) G1 (fun i q1 _ => f1 i q1) f2 (fun j j1 j2 => by omega) (fun x _ => by rw [es]) (by rw [es]; omega)
    · refine x_iload d_Ne_send_67 rfl ?_
      refine x_iload_n d_Ne_send_69 rfl rfl ?_
      refine x_icmp_ge (97) d_Ne_send_70 (by decide) (fun g => ?_) (fun g => ?_)
      · refine x_iload_n d_Ne_send_97 rfl rfl ?_
        refine x_ireturn d_Ne_send_98 rfl ?_ (Nat.zero_le _) (Nat.zero_le _)
        rw [← hQ]
        exact ⟨_, rfl, s, G', rfl, s1, rfl, g1, g2, s2, g3, g4, g5⟩
      · omega
    · obtain ⟨p1, p2⟩ := hp i i2
      have ep : G' ne_path i = p i := by rw [g1 ne_path (by decide) (by decide)]; exact p1
      have ee : G' ne_ends (p i) = he N (p i) := by rw [g1 ne_ends (by decide) (by decide)]; exact (hn.2.1 (p i) p2).1
      have hl := (te_lt hw p2).2
      have eo : G' ne_seen (he N (p i)) = 1 := by rw [g4 _ (fun j j1 j2 z => by have := hh j i (by omega) i2 z; omega)]; exact hs i i2
      refine x_iload d_Ne_send_67 rfl ?_
      refine x_iload_n d_Ne_send_69 rfl rfl ?_
      refine x_icmp_ge (97) d_Ne_send_70 (by decide) (fun g => ?_) (fun g => ?_)
      · omega
      · refine x_aload_n d_Ne_send_73 rfl rfl ?_
        refine x_getF (kf := 3) d_Ne_send_74 rfl rfl rfl in_Ne f_Ne_21 ?_
        refine x_aload_n d_Ne_send_77 rfl rfl ?_
        refine x_getF (kf := 5) d_Ne_send_78 rfl rfl rfl in_Ne f_Ne_28 ?_
        refine x_aload_n d_Ne_send_81 rfl rfl ?_
        refine x_getF (kf := 2) d_Ne_send_82 rfl rfl rfl in_Ne f_Ne_18 ?_
        refine x_iload d_Ne_send_85 rfl ?_
        refine x_ialdN (i) d_Ne_send_87 rfl (by omega) (by omega) ?_
        rw [ep]
        refine x_ialdN (p i) d_Ne_send_88 rfl (by omega) (by omega) ?_
        rw [ee]
        refine x_iconst (0) d_Ne_send_89 rfl ⟨by decide, by decide⟩ ?_
        refine x_bastN (he N (p i)) d_Ne_send_90 rfl (by omega) (by omega) (by first | exact Or.inl rfl | exact Or.inr rfl | assumption) ?_
        refine x_iincN d_Ne_send_91 rfl (by decide) (by omega) (by omega) ?_
        dsimp only [x_st1, x_st2, x_kill, List.set, List.getElem?_cons_zero, List.getElem?_cons_succ]
        refine x_goto (67) d_Ne_send_94 (by decide) ?_
        refine k _ (fun j q1 q2 => by rw [up_cell q2]; exact g1 j q1 q2) (fun e he => by rw [up_cell (by decide)]; exact g2 e he) (fun j j1 j2 => ?_) (fun x hx => ?_) ?_
        · by_cases q : he N (p j) = he N (p i)
          · rw [q, up_same]
          · rw [up_ne q]
            exact g3 j j1 (by
              by_cases q2 : j = i
              · subst q2; exact absurd rfl q
              · omega)
        · rw [up_ne (fun z => hx i (by omega) (by omega) z.symm)]
          exact g4 x (fun j j1 j2 => hx j j1 (by omega))
        · rw [su_step (f := G' ne_seen) (g := up G' ne_seen (he N (p i)) 0 ne_seen) hl (fun x _ hx => up_ne hx), up_same, eo, g5]
          omega
  have first : ∀ i, i ≤ d → ∀ (s : Nat) G' z, i ≤ s → s ≤ d → (∀ j, i ≤ j → j < s → L (p j) ≠ n) → (s < d → L (p s) = n) → (∀ i, i ≠ ne_free → G' i = G i) → (∀ e, e < 2 * N.1 → G' ne_free e = pfr L p n d i e) → x_A y_Ne_send 7 [some oNe, some (xI (d : Int)), some (xI n), some (xI (s : Int)), some (xI ((i : Int) - 1)), z] [] (S0, G') 0 0 Q := by
    intro i
    induction i with
    | zero =>
      intro _ s G' z s1 s2 s3 s4 f1 f2
      refine x_iload d_Ne_send_7 rfl ?_
      refine x_if_lt (64) d_Ne_send_9 (by decide) (fun g => ?_) (fun g => ?_)
      · refine x_iload_n d_Ne_send_64 rfl rfl ?_
        refine x_istore d_Ne_send_65 (by decide) ?_
        dsimp only [x_st1, x_st2, x_kill, List.set, List.getElem?_cons_zero, List.getElem?_cons_succ]
        have hs' : s < d := by
          obtain ⟨j, j1, j2⟩ := hx
          by_cases q : s < d
          · exact q
          · exact absurd j2 (s3 j (Nat.zero_le _) (by omega))
        exact second s G' z hs' (fun j hj => s3 j (Nat.zero_le _) hj) f1 (fun e he => by rw [f2 e he, pfr_0])
      · omega
    | succ i ih =>
      intro hi' s G' z s1 s2 s3 s4 f1 f2
      obtain ⟨p1, p2⟩ := hp i (by omega)
      have ep : G' ne_path i = p i := by rw [f1 ne_path (by decide)]; exact p1
      have hxr := xr_lt (K := N.1) p2
      have v1 := f2 (p i) p2
      have v2 := f2 (xr (p i)) hxr
      have b1 := pfr_bd (p := p) hL hn1 hd (i + 1) (p i)
      have b2 := pfr_bd (p := p) hL hn1 hd (i + 1) (xr (p i))
      have own := pfr_own (L := L) (n := n) (k := i) (show i < d by omega) (Nat.le_refl i) (fun j hj z => hi j i hj (by omega) z) (fun j hj => hr j i hj (by omega))
      have hm := hL (p i)
      rw [show (((i + 1 : Nat) : Int) - 1) = (i : Int) by omega]
      have nf : ∀ e, e < 2 * N.1 → up (up G' ne_free (p i) (pfr L p n d (i + 1) (p i) - n)) ne_free (xr (p i)) (pfr L p n d (i + 1) (xr (p i)) + n) ne_free e = pfr L p n d i e := fun e he => by
        rw [pfr_s L p n (show i < d by omega)]
        unfold pt
        by_cases q1 : e = xr (p i)
        · subst q1
          rw [up_same, if_neg (xr_ne (p i)), if_pos rfl]; omega
        · rw [up_ne q1, if_neg q1]
          by_cases q2 : e = p i
          · subst q2
            rw [up_same, if_pos rfl]; omega
          · rw [up_ne q2, if_neg q2, f2 e he]; omega
      refine x_iload d_Ne_send_7 rfl ?_
      refine x_if_lt (64) d_Ne_send_9 (by decide) (fun g => ?_) (fun g => ?_)
      · omega
      · refine x_aload_n d_Ne_send_12 rfl rfl ?_
        refine x_getF (kf := 2) d_Ne_send_13 rfl rfl rfl in_Ne f_Ne_18 ?_
        refine x_iload d_Ne_send_16 rfl ?_
        refine x_ialdN (i) d_Ne_send_18 rfl (by omega) (by omega) ?_
        rw [ep]
        refine x_istore d_Ne_send_19 (by decide) ?_
        dsimp only [x_st1, x_st2, x_kill, List.set, List.getElem?_cons_zero, List.getElem?_cons_succ]
        refine x_aload_n d_Ne_send_21 rfl rfl ?_
        refine x_getF (kf := 6) d_Ne_send_22 rfl rfl rfl in_Ne f_Ne_31 ?_
        refine x_iload d_Ne_send_25 rfl ?_
        refine x_dup2 d_Ne_send_27 rfl rfl ?_
        refine x_ialdN (p i) d_Ne_send_28 rfl (by omega) (by omega) ?_
        rw [v1]
        refine x_iload_n d_Ne_send_29 rfl rfl ?_
        refine x_isubN d_Ne_send_30 (by omega) (by omega) ?_
        refine x_iastN (p i) d_Ne_send_31 rfl (by omega) (by omega) ?_
        refine x_aload_n d_Ne_send_32 rfl rfl ?_
        refine x_getF (kf := 6) d_Ne_send_33 rfl rfl rfl in_Ne f_Ne_31 ?_
        refine x_iload d_Ne_send_36 rfl ?_
        refine x_iconst (1) d_Ne_send_38 rfl ⟨by decide, by decide⟩ ?_
        refine x_ixor d_Ne_send_39 ?_
        rw [x_xor1 (by omega)]
        refine x_dup2 d_Ne_send_40 rfl rfl ?_
        refine x_ialdN (xr (p i)) d_Ne_send_41 rfl (by omega) (by omega) ?_
        rw [up_ne (xr_ne (p i)), v2]
        refine x_iload_n d_Ne_send_42 rfl rfl ?_
        refine x_iaddN d_Ne_send_43 (by omega) (by omega) ?_
        refine x_iastN (xr (p i)) d_Ne_send_44 rfl (by omega) (by omega) ?_
        refine x_aload_n d_Ne_send_45 rfl rfl ?_
        refine x_getF (kf := 6) d_Ne_send_46 rfl rfl rfl in_Ne f_Ne_31 ?_
        refine x_iload d_Ne_send_49 rfl ?_
        refine x_ialdN (p i) d_Ne_send_51 rfl (by omega) (by omega) ?_
        rw [nf (p i) p2, own]
        refine x_if_ne (58) d_Ne_send_52 (by decide) (fun g2 => ?_) (fun g2 => ?_)
        · refine x_iincN d_Ne_send_58 rfl (by decide) (by omega) (by omega) ?_
          dsimp only [x_st1, x_st2, x_kill, List.set, List.getElem?_cons_zero, List.getElem?_cons_succ]
          refine x_goto (7) d_Ne_send_61 (by decide) ?_
          refine ih (by omega) s _ _ (by omega) s2 (fun j j1 j2 => ?_) s4 (fun q hq => by rw [up_cell hq, up_cell hq]; exact f1 q hq) nf
          by_cases q : j = i
          · subst q; omega
          · exact s3 j (by omega) j2
        · refine x_iload d_Ne_send_55 rfl ?_
          refine x_istore_n d_Ne_send_57 rfl (by decide) ?_
          dsimp only [x_st1, x_st2, x_kill, List.set, List.getElem?_cons_zero, List.getElem?_cons_succ]
          refine x_iincN d_Ne_send_58 rfl (by decide) (by omega) (by omega) ?_
          dsimp only [x_st1, x_st2, x_kill, List.set, List.getElem?_cons_zero, List.getElem?_cons_succ]
          refine x_goto (7) d_Ne_send_61 (by decide) ?_
          exact ih (by omega) i _ _ (Nat.le_refl i) (by omega) (fun j j1 j2 => by omega) (fun _ => by omega) (fun q hq => by rw [up_cell hq, up_cell hq]; exact f1 q hq) nf
  exact first d (Nat.le_refl d) d G none (Nat.le_refl d) (Nat.le_refl d) (fun j j1 j2 => by omega) (fun z => by omega) (fun _ _ => rfl) (fun e he => by rw [pfr_d]; exact (hn.2.1 e he).2.2)
end CN2
