/-! the reference: suffices -/
noncomputable def mv (F : (Nat → Bool) → Int) : Int := Classical.epsilon (isMin F)
theorem mv_eq {F : (Nat → Bool) → Int} {V : Int} (h : isMin F V) : mv F = V := (Classical.epsilon_spec (p := isMin F) ⟨V, h⟩).uniq h
theorem isMin.cg {F F' : (Nat → Bool) → Int} {V : Int} (e : ∀ S, F S = F' S) (h : isMin F V) : isMin F' V := by
  have : F = F' := funext e
  rw [← this]
  exact h
/-- how many are out by then -/
noncomputable def f_out (h : HH) (c : CC) (by' : Nat) (set : Int) : Int := mv (cutF h (f_sh h c) by' (h.1 9 0 1).toNat set)
theorem bFrame.rf (G : Nat → Nat → Int) : bFrame G G := ⟨fun _ _ _ => rfl, fun _ _ => rfl⟩
theorem bFrame.tr {G1 G2 G3 : Nat → Nat → Int} (a : bFrame G1 G2) (b : bFrame G2 G3) : bFrame G1 G3 := ⟨fun i h1 h2 => (b.1 i h1 h2).trans (a.1 i h1 h2), fun k hk => (b.2 k hk).trans (a.2 k hk)⟩
theorem bFrame.rep {h : HH} {G G' : Nat → Nat → Int} (f : bFrame G G') (r : mRep h G) : mRep h G' :=
  r.same (fun k _ _ => f.2 k (by omega)) (fun i h1 h2 => f.1 i (by have : o_M < m_room := (by decide); omega) (Or.inl (by have : m_aIs < m_above := (by decide); omega)))
theorem f_people_bd {h : HH} (hh : Hwf h) : 0 ≤ f_people h ∧ f_people h ≤ 600 := by
  have b := hh.1
  have := su_bd (f := fun g => h.1 5 g 1) (c := 0) (d := 60) (n := h.2 5) (fun j hj => by have := hh.2.2.2.2.2.2.1 j (by omega); omega)
  unfold f_people
  omega
def f_fi (i : Nat) : Int := if i = 4 then -1 else i
def okS (h : HH) (pl : Int) (by' : Nat) (mask set : Int) (i : Nat) : Prop := xb mask i = true → f_people h ≤ f_out h (pl, pl, 0, f_fi i) by' set
def mSuff (h : HH) (pl : Int) (by' : Nat) (mask set : Int) (G : Nat → Nat → Int) : Option XV → XM → Prop := fun v τ => ∃ G', τ = (S0, G') ∧ bFrame G G' ∧ ((v = some (xI 1) ∧ ∀ i, i < 5 → okS h pl by' mask set i) ∨ (v = some (xI 0) ∧ ∃ i, i < 5 ∧ ¬ okS h pl by' mask set i))
theorem s_suffices {h : HH} {G : Nat → Nat → Int} (hh : Hwf h) (r : mRep h G) (pl : Int) (by' : Nat) (mask set : Int) (hb : by' ≤ 20) (hf : ∀ i, i < 4 → xb mask i = true → i < h.2 2) : x_M y_M_suffices [oM, xI pl, xI (by' : Int), xI mask, xI set] (S0, G) (fun r τ => ∃ v, r = .inl v ∧ mSuff h pl by' mask set G v τ) := by
  have dl := hh.2.2.2.2.2.2.2.2.2.2
  obtain ⟨t, et⟩ : ∃ t : Nat, h.1 9 0 1 = t := ⟨(h.1 9 0 1).toNat, by omega⟩
  refine x_of 2 rfl (Nat.le_of_ble_eq_true rfl) ?_
  show x_A y_M_suffices 0 [some oM, some (xI pl), some (xI (by' : Int)), some (xI mask), some (xI set), none, none] [] (S0, G) 0 0 _
  generalize hQ : (fun (r : XRes) (τ : XM) => ∃ v, r = .inl v ∧ mSuff h pl by' mask set G v τ) = Q
  refine x_aload_n d_M_suffices_0 rfl rfl ?_
  refine x_V1 d_M_suffices_1 e_M_suffices_M_people ⟨rfl, rfl, Nat.zero_le _, Nat.zero_le _⟩ rfl rfl rfl rfl (Nat.le_of_ble_eq_true rfl) (s_people hh r) ?_
  refine x_istore d_M_suffices_4 (by decide) ?_
  dsimp only [x_st1, x_st2, x_kill, List.set, List.getElem?_cons_zero, List.getElem?_cons_succ]
  refine x_iconst (0) d_M_suffices_6 rfl ⟨by decide, by decide⟩ ?_
  refine x_istore d_M_suffices_7 (by decide) ?_
  dsimp only [x_st1, x_st2, x_kill, List.set, List.getElem?_cons_zero, List.getElem?_cons_succ]
  have all : ∀ G', bFrame G G' → (∀ j, j < 0 → okS h pl by' mask set j) → x_A y_M_suffices 9 [some oM, some (xI pl), some (xI (by' : Int)), some (xI mask), some (xI set), some (xI (f_people h)), some (xI ((0 : Nat) : Int))] [] (S0, G') 0 0 Q := by
    refine x_up_to (P := fun i => ∀ G', bFrame G G' → (∀ j, j < i → okS h pl by' mask set j) → x_A y_M_suffices 9 [some oM, some (xI pl), some (xI (by' : Int)), some (xI mask), some (xI set), some (xI (f_people h)), some (xI (i : Int))] [] (S0, G') 0 0 Q) 0 5 (Nat.zero_le _) ?_ (fun i _ hi k => ?_)
    · intro G1 f1 ok
      refine x_iload d_M_suffices_9 rfl ?_
      refine x_iconst (5) d_M_suffices_11 rfl ⟨by decide, by decide⟩ ?_
      refine x_icmp_ge (70) d_M_suffices_12 (by decide) (fun c => ?_) (fun c => ?_)
      · refine x_iconst (1) d_M_suffices_70 rfl ⟨by decide, by decide⟩ ?_
        refine x_zreturn d_M_suffices_71 rfl (by first | exact Or.inl rfl | exact Or.inr rfl | (split <;> first | exact Or.inl rfl | exact Or.inr rfl) | assumption) ?_ (Nat.zero_le _) (Nat.zero_le _)
        rw [← hQ]
        exact ⟨_, rfl, G1, rfl, f1, Or.inl ⟨rfl, ok⟩⟩
      · omega
    · intro G1 f1 ok
      have r1 := f1.rep r
      refine x_iload d_M_suffices_9 rfl ?_
      refine x_iconst (5) d_M_suffices_11 rfl ⟨by decide, by decide⟩ ?_
      refine x_icmp_ge (70) d_M_suffices_12 (by decide) (fun c => ?_) (fun c => ?_)
      · omega
      · have hbit := x_bit mask (b := i) (by omega)
        have ha := x_and1 (x_shr mask i)
        refine x_iload_n d_M_suffices_15 rfl rfl ?_
        refine x_iload d_M_suffices_16 rfl ?_
        refine x_ishr d_M_suffices_18 ?_
        refine x_iconst (1) d_M_suffices_19 rfl ⟨by decide, by decide⟩ ?_
        refine x_iand d_M_suffices_20 ?_
        refine x_if_ne (27) d_M_suffices_21 (by decide) (fun c1 => ?_) (fun c1 => ?_)
        · have b1 : xb mask i = true := hbit.1 (by rw [ha] at c1 ⊢; split at c1 <;> simp_all)
          have hfi : -1 ≤ f_fi i ∧ f_fi i < h.2 2 := by
            unfold f_fi
            split
            · omega
            · have := hf i (by omega) b1
              omega
          have rest : x_A y_M_suffices 43 [some oM, some (xI pl), some (xI (by' : Int)), some (xI mask), some (xI set), some (xI (f_people h)), some (xI (i : Int))] [xI (f_fi i), xI 0, xI pl, xI pl, oM] (S0, G1) 0 0 Q := by
            refine x_VQ d_M_suffices_43 e_M_suffices_M_burns ⟨rfl, rfl, Nat.zero_le _, Nat.zero_le _⟩ rfl rfl rfl rfl (Nat.le_of_ble_eq_true rfl) (s_burns hh r1 (pl, pl, 0, f_fi i) hfi) (fun v τ hv => ?_)
            obtain ⟨rfl, G2, rfl, f2, sm⟩ := hv
            show x_A y_M_suffices 46 [some oM, some (xI pl), some (xI (by' : Int)), some (xI mask), some (xI set), some (xI (f_people h)), some (xI (i : Int))] [] (S0, G2) 0 0 Q
            have r2 := f2.rep r1
            have e2 := r2.2.2.2.2.2.2.2.2.2.2
            refine x_aload_n d_M_suffices_46 rfl rfl ?_
            refine x_iload_n d_M_suffices_47 rfl rfl ?_
            refine x_aload_n d_M_suffices_48 rfl rfl ?_
            refine x_getIG (kf := 11) d_M_suffices_49 rfl rfl rfl in_M f_M_13 ?_
            rw [e2.2.1, et]
            refine x_iload d_M_suffices_52 rfl ?_
            refine x_VQ d_M_suffices_54 e_M_suffices_M_most ⟨rfl, rfl, Nat.zero_le _, Nat.zero_le _⟩ rfl rfl rfl rfl (Nat.le_of_ble_eq_true rfl) (s_most hh r2 by' t set hb (by omega)) (fun v τ hv => ?_)
            obtain ⟨G3, N, L, V, rfl, g1, g2, g3, g4, g5, g6, g7, rfl⟩ := hv
            show x_A y_M_suffices 57 [some oM, some (xI pl), some (xI (by' : Int)), some (xI mask), some (xI set), some (xI (f_people h)), some (xI (i : Int))] [xI V] (S0, G3) 0 0 Q
            have b := hh.1
            have eV : f_out h (pl, pl, 0, f_fi i) by' set = V := by
              unfold f_out
              rw [et, Int.toNat_natCast]
              exact mv_eq (g6.cg (fun S => cutF_sh (fun m p hm hp => sm.shut (by omega) (by omega)) S))
            have f3 := f1.tr (bFrame.of f2 g1)
            refine x_iload d_M_suffices_57 rfl ?_
            refine x_icmp_ge (64) d_M_suffices_59 (by decide) (fun c2 => ?_) (fun c2 => ?_)
            · refine x_iincN d_M_suffices_64 rfl (by decide) (by omega) (by omega) ?_
              dsimp only [x_st1, x_st2, x_kill, List.set, List.getElem?_cons_zero, List.getElem?_cons_succ]
              refine x_goto (9) d_M_suffices_67 (by decide) ?_
              refine k G3 f3 (fun j hj => ?_)
              rcases Nat.lt_succ_iff_lt_or_eq.1 hj with z | z
              · exact ok j z
              · subst z
                intro _
                rw [eV]
                omega
            · refine x_iconst (0) d_M_suffices_62 rfl ⟨by decide, by decide⟩ ?_
              refine x_zreturn d_M_suffices_63 rfl (by first | exact Or.inl rfl | exact Or.inr rfl | (split <;> first | exact Or.inl rfl | exact Or.inr rfl) | assumption) ?_ (Nat.zero_le _) (Nat.zero_le _)
              rw [← hQ]
              exact ⟨_, rfl, G3, rfl, f3, Or.inr ⟨rfl, i, hi, fun z => by have := z b1; rw [eV] at this; omega⟩⟩
          refine x_aload_n d_M_suffices_27 rfl rfl ?_
          refine x_iload_n d_M_suffices_28 rfl rfl ?_
          refine x_iload_n d_M_suffices_29 rfl rfl ?_
          refine x_iconst (0) d_M_suffices_30 rfl ⟨by decide, by decide⟩ ?_
          refine x_iload d_M_suffices_31 rfl ?_
          refine x_iconst (4) d_M_suffices_33 rfl ⟨by decide, by decide⟩ ?_
          refine x_icmp_ne (41) d_M_suffices_34 (by decide) (fun c2 => ?_) (fun c2 => ?_)
          · have e4 : f_fi i = i := by
              unfold f_fi
              rw [if_neg (by omega)]
            rw [e4] at rest
            refine x_iload d_M_suffices_41 rfl ?_
            exact rest
          · have e4 : f_fi i = -1 := by
              unfold f_fi
              rw [if_pos (by omega)]
            rw [e4] at rest
            refine x_iconst (-1) d_M_suffices_37 rfl ⟨by decide, by decide⟩ ?_
            refine x_goto (43) d_M_suffices_38 (by decide) ?_
            exact rest
        · have b1 : xb mask i ≠ true := fun z => by have := hbit.2 z; omega
          refine x_goto (64) d_M_suffices_24 (by decide) ?_
          refine x_iincN d_M_suffices_64 rfl (by decide) (by omega) (by omega) ?_
          dsimp only [x_st1, x_st2, x_kill, List.set, List.getElem?_cons_zero, List.getElem?_cons_succ]
          refine x_goto (9) d_M_suffices_67 (by decide) ?_
          refine k G1 f1 (fun j hj => ?_)
          rcases Nat.lt_succ_iff_lt_or_eq.1 hj with z | z
          · exact ok j z
          · subst z
            exact fun q => absurd q b1
  exact all G (bFrame.rf G) (fun j hj => absurd hj (Nat.not_lt_zero j))
