/-! the reference: passes -/
/-- xor with 1 -/
theorem x_xor1 {e : Nat} (h : e < 2400) : x_xor (e : Int) 1 = (xr e : Int) := by
  have key : ∀ e : Fin 2400, x_xor ((e : Nat) : Int) 1 = (xr e : Int) := by decide +kernel
  exact key ⟨e, h⟩
/-- behind passes: so much went along the path, all else is as it was -/
def mPassed (N : NT) (L : Nat → Int) (p : Nat → Nat) (n : Nat) (G : Nat → Nat → Int) : Option XV → XM → Prop := fun v τ => v = some (xI (pmin L p n)) ∧ ∃ G', τ = (S0, G') ∧ (∀ i, i ≠ m_left → G' i = G i) ∧ ∀ e, e < 2 * N.1 → G' m_left e = pushL L p (pmin L p n) n e
theorem s_passes {N : NT} {L : Nat → Int} {G : Nat → Nat → Int} (hw : nWf N) (hn : mNet N L G) (hL : ∀ e, 0 ≤ L e ∧ L e ≤ 1000000) (p : Nat → Nat) (n : Nat) (hp : ∀ i, i < n → G m_path i = p i ∧ p i < 2 * N.1) (hn8 : n ≤ 338) : x_M y_M_passes [oM, xI (n : Int)] (S0, G) (fun r τ => ∃ v, r = .inl v ∧ mPassed N L p n G v τ) := by
  obtain ⟨e1, e2, e3⟩ := hn
  have hK := hw.1
  refine x_of 2 rfl (Nat.le_of_ble_eq_true rfl) ?_
  show x_A y_M_passes 0 [some oM, some (xI (n : Int)), none, none] [] (S0, G) 0 0 _
  generalize hQ : (fun (r : XRes) (τ : XM) => ∃ v, r = .inl v ∧ mPassed N L p n G v τ) = Q
  have bm : 0 ≤ pmin L p n ∧ pmin L p n ≤ 1000000 := ⟨pmin_nn (fun i _ => (hL _).1), (pmin_le L p n).1⟩
  refine x_ldcw (1000000) d_M_passes_0 k_M_387 ⟨by decide, by decide⟩ ?_
  refine x_istore_n d_M_passes_3 rfl (by decide) ?_
  dsimp only [x_st1, x_st2, x_kill, List.set, List.getElem?_cons_zero, List.getElem?_cons_succ]
  refine x_iconst (0) d_M_passes_4 rfl ⟨by decide, by decide⟩ ?_
  refine x_istore_n d_M_passes_5 rfl (by decide) ?_
  dsimp only [x_st1, x_st2, x_kill, List.set, List.getElem?_cons_zero, List.getElem?_cons_succ]
  have second : ∀ G', (∀ i, i ≠ m_left → G' i = G i) → (∀ e, e < 2 * N.1 → G' m_left e = pushL L p (pmin L p n) 0 e) → x_A y_M_passes 35 [some oM, some (xI (n : Int)), some (xI (pmin L p n)), some (xI ((0 : Nat) : Int))] [] (S0, G') 0 0 Q := by
    refine x_up_to (P := fun i => ∀ G', (∀ j, j ≠ m_left → G' j = G j) → (∀ e, e < 2 * N.1 → G' m_left e = pushL L p (pmin L p n) i e) → x_A y_M_passes 35 [some oM, some (xI (n : Int)), some (xI (pmin L p n)), some (xI (i : Int))] [] (S0, G') 0 0 Q) 0 n (Nat.zero_le _) ?_ (fun i _ hi k => ?_)
    · intro G' f1 f2
      refine x_iload_n d_M_passes_35 rfl rfl ?_
      refine x_iload_n d_M_passes_36 rfl rfl ?_
      refine x_icmp_ge (78) d_M_passes_37 (by decide) (fun c0 => ?_) (fun c0 => ?_)
      · refine x_iload_n d_M_passes_78 rfl rfl ?_
        refine x_ireturn d_M_passes_79 rfl ?_ (Nat.zero_le _) (Nat.zero_le _)
        rw [← hQ]
        exact ⟨_, rfl, rfl, G', rfl, f1, f2⟩
      · omega
    · intro G' f1 f2
      obtain ⟨p1, p2⟩ := hp i hi
      have ep : G' m_path i = p i := by rw [f1 m_path (by decide)]; exact p1
      have b1 := push_bd (p := p) hL bm i (p i)
      have b2 := push_bd (p := p) hL bm i (xr (p i))
      have p3 : xr (p i) < 2 * N.1 := xr_lt p2
      have p4 := xr_ne (p i)
      refine x_iload_n d_M_passes_35 rfl rfl ?_
      refine x_iload_n d_M_passes_36 rfl rfl ?_
      refine x_icmp_ge (78) d_M_passes_37 (by decide) (fun c0 => ?_) (fun c0 => ?_)
      · omega
      · refine x_aload_n d_M_passes_40 rfl rfl ?_
        refine x_getF (kf := 67) d_M_passes_41 rfl rfl rfl in_M f_M_171 ?_
        refine x_aload_n d_M_passes_44 rfl rfl ?_
        refine x_getF (kf := 64) d_M_passes_45 rfl rfl rfl in_M f_M_162 ?_
        refine x_iload_n d_M_passes_48 rfl rfl ?_
        refine x_ialdN (i) d_M_passes_49 rfl (by omega) (by omega) ?_
        rw [ep]
        refine x_dup2 d_M_passes_50 rfl rfl ?_
        refine x_ialdN (p i) d_M_passes_51 rfl (by omega) (by omega) ?_
        rw [f2 _ p2]
        refine x_iload_n d_M_passes_52 rfl rfl ?_
        refine x_isubN d_M_passes_53 (by omega) (by omega) ?_
        refine x_iastN (p i) d_M_passes_54 rfl (by omega) (by omega) ?_
        refine x_aload_n d_M_passes_55 rfl rfl ?_
        refine x_getF (kf := 67) d_M_passes_56 rfl rfl rfl in_M f_M_171 ?_
        refine x_aload_n d_M_passes_59 rfl rfl ?_
        refine x_getF (kf := 64) d_M_passes_60 rfl rfl rfl in_M f_M_162 ?_
        refine x_iload_n d_M_passes_63 rfl rfl ?_
        refine x_ialdN (i) d_M_passes_64 rfl (by omega) (by omega) ?_
        rw [up_cell (by decide), ep]
        refine x_iconst (1) d_M_passes_65 rfl ⟨by decide, by decide⟩ ?_
        refine x_ixor d_M_passes_66 ?_
        rw [x_xor1 (by omega)]
        refine x_dup2 d_M_passes_67 rfl rfl ?_
        refine x_ialdN (xr (p i)) d_M_passes_68 rfl (by omega) (by omega) ?_
        rw [up_ne p4, f2 _ p3]
        refine x_iload_n d_M_passes_69 rfl rfl ?_
        refine x_iaddN d_M_passes_70 (by omega) (by omega) ?_
        refine x_iastN (xr (p i)) d_M_passes_71 rfl (by omega) (by omega) ?_
        refine x_iincN d_M_passes_72 rfl (by decide) (by omega) (by omega) ?_
        dsimp only [x_st1, x_st2, x_kill, List.set, List.getElem?_cons_zero, List.getElem?_cons_succ]
        refine x_goto (35) d_M_passes_75 (by decide) ?_
        refine k _ (fun j hj => by rw [up_cell hj, up_cell hj]; exact f1 j hj) (fun e he => ?_)
        show _ = pushL L p (pmin L p n) i e - pt (p i) (pmin L p n) e + pt (xr (p i)) (pmin L p n) e
        unfold pt
        by_cases q : e = xr (p i)
        · subst q
          rw [up_same, if_neg p4, if_pos rfl]; omega
        · rw [up_ne q, if_neg q]
          by_cases q2 : e = p i
          · subst q2; rw [up_same, if_pos rfl]; omega
          · rw [up_ne q2, if_neg q2, f2 e he]; omega
  refine x_up_to (P := fun i => x_A y_M_passes 6 [some oM, some (xI (n : Int)), some (xI (pmin L p i)), some (xI (i : Int))] [] (S0, G) 0 0 Q) 0 n (Nat.zero_le _) ?_ (fun i _ hi k => ?_)
  · refine x_iload_n d_M_passes_6 rfl rfl ?_
    refine x_iload_n d_M_passes_7 rfl rfl ?_
    refine x_icmp_ge (33) d_M_passes_8 (by decide) (fun c0 => ?_) (fun c0 => ?_)
    · refine x_iconst (0) d_M_passes_33 rfl ⟨by decide, by decide⟩ ?_
      refine x_istore_n d_M_passes_34 rfl (by decide) ?_
      dsimp only [x_st1, x_st2, x_kill, List.set, List.getElem?_cons_zero, List.getElem?_cons_succ]
      exact second G (fun _ _ => rfl) (fun e he => (e2 e he).2.2)
    · omega
  · obtain ⟨p1, p2⟩ := hp i hi
    refine x_iload_n d_M_passes_6 rfl rfl ?_
    refine x_iload_n d_M_passes_7 rfl rfl ?_
    refine x_icmp_ge (33) d_M_passes_8 (by decide) (fun c0 => ?_) (fun c0 => ?_)
    · omega
    · refine x_iload_n d_M_passes_11 rfl rfl ?_
      refine x_aload_n d_M_passes_12 rfl rfl ?_
      refine x_getF (kf := 67) d_M_passes_13 rfl rfl rfl in_M f_M_171 ?_
      refine x_aload_n d_M_passes_16 rfl rfl ?_
      refine x_getF (kf := 64) d_M_passes_17 rfl rfl rfl in_M f_M_162 ?_
      refine x_iload_n d_M_passes_20 rfl rfl ?_
      refine x_ialdN (i) d_M_passes_21 rfl (by omega) (by omega) ?_
      rw [p1]
      refine x_ialdN (p i) d_M_passes_22 rfl (by omega) (by omega) ?_
      rw [(e2 _ p2).2.2]
      refine x_S1 d_M_passes_23 e_M_passes_JM_min ⟨rfl, rfl, Nat.zero_le _, Nat.zero_le _⟩ rfl rfl (Nat.le_of_ble_eq_true rfl) (s_min _ _ _) ?_
      refine x_istore_n d_M_passes_26 rfl (by decide) ?_
      dsimp only [x_st1, x_st2, x_kill, List.set, List.getElem?_cons_zero, List.getElem?_cons_succ]
      refine x_iincN d_M_passes_27 rfl (by decide) (by omega) (by omega) ?_
      dsimp only [x_st1, x_st2, x_kill, List.set, List.getElem?_cons_zero, List.getElem?_cons_succ]
      refine x_goto (6) d_M_passes_30 (by decide) ?_
      exact k
