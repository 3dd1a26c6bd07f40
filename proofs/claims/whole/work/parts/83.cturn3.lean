/-! the class: the turn -/
section CU3
variable {h : HH} {G : Nat → Nat → Int}
theorem t_R_b (hh : Hwf h) (pl k : Int) {y : Nat} (hy : y ≤ 20) (f q : Nat) : -600 ≤ t_R h pl k y f q ∧ t_R h pl k y f q ≤ 600 := by
  have pb := f_people_bd hh
  have a := f_bo_b hh (f : Int) hy 4
  have b := f_out_b hh (pl, (q : Int), k, (f : Int)) hy (f_made h (h.2 6))
  unfold t_R
  omega
theorem t_A_rf (h : HH) (pl k : Int) (f : Nat) : t_A h pl k f f = true := by
  unfold t_A
  rw [f_alk_iff]
  intro _ _ _
  rfl
theorem t_A_sy {pl k : Int} {f g : Nat} (a : t_A h pl k f g = true) : t_A h pl k g f = true := by
  unfold t_A at *
  rw [f_alk_iff] at *
  intro m h1 h2
  exact (a m h1 h2).symm
theorem t_A_tr {pl k : Int} {f g e : Nat} (a : t_A h pl k f g = true) (b : t_A h pl k g e = true) : t_A h pl k f e = true := by
  unfold t_A at *
  rw [f_alk_iff] at *
  intro m h1 h2
  exact (a m h1 h2).trans (b m h1 h2)
theorem t_gr_cg {A : Nat → Nat → Bool} {R : Nat → Nat → Int} {f g q : Nat} (n : Nat) (e : ∀ i, A f i = A g i) : t_gr A R f q n = t_gr A R g q n := by
  induction n with
  | zero => rfl
  | succ n ih =>
    show (if A f n = true then max (t_gr A R f q n) (R n q) else t_gr A R f q n) = (if A g n = true then max (t_gr A R g q n) (R n q) else t_gr A R g q n)
    rw [ih, e n]
theorem t_A_cg {pl k : Int} {f g : Nat} (a : t_A h pl k f g = true) (i : Nat) : t_A h pl k f i = t_A h pl k g i := by
  by_cases c : t_A h pl k f i = true
  · rw [c, t_A_tr (t_A_sy a) c]
  · by_cases d : t_A h pl k g i = true
    · exact absurd (t_A_tr a d) c
    · rw [show t_A h pl k f i = false by simpa using c, show t_A h pl k g i = false by simpa using d]
theorem t_ls_cg {A : Nat → Nat → Bool} {R : Nat → Nat → Int} {f g n : Nat} (e : ∀ i, A f i = A g i) (q : Nat) : t_ls A R n f 0 q = t_ls A R n g 0 q := by
  induction q with
  | zero => rfl
  | succ q ih =>
    show (if (t_ls A R n f 0 q).1 ≤ t_gr A R f q n then t_ls A R n f 0 q else (t_gr A R f q n, (q : Int))) = (if (t_ls A R n g 0 q).1 ≤ t_gr A R g q n then t_ls A R n g 0 q else (t_gr A R g q n, (q : Int)))
    rw [ih, t_gr_cg n e]
/-- the greatest of the regrets that the fires have with their own turns is the worst of all -/
def t_wc (A : Nat → Nat → Bool) (R : Nat → Nat → Int) (n : Nat) : Nat → Int
  | 0 => -1000000
  | f + 1 => max (t_wc A R n f) (R f (t_ls A R n f 0 4).2.toNat)
theorem t_wo_ge {A : Nat → Nat → Bool} {R : Nat → Nat → Int} {n m f : Nat} (hf : f < m) : (t_ls A R n f 0 4).1 ≤ t_wo A R n m := by
  induction m with
  | zero => omega
  | succ m ih =>
    show _ ≤ max (t_wo A R n m) (t_ls A R n m 0 4).1
    by_cases e : f = m
    · subst e; omega
    · have := ih (by omega); omega
theorem t_wc_ge {A : Nat → Nat → Bool} {R : Nat → Nat → Int} {n m f : Nat} (hf : f < m) : R f (t_ls A R n f 0 4).2.toNat ≤ t_wc A R n m := by
  induction m with
  | zero => omega
  | succ m ih =>
    show _ ≤ max (t_wc A R n m) (R m (t_ls A R n m 0 4).2.toNat)
    by_cases e : f = m
    · subst e; omega
    · have := ih (by omega); omega
theorem t_wc_wo (hh : Hwf h) (pl k : Int) {y : Nat} (hy : y ≤ 20) (hn : 0 < h.2 2) : t_wc (t_A h pl k) (t_R h pl k y) (h.2 2) (h.2 2) = t_w h pl k y := by
  unfold t_w
  generalize hn' : h.2 2 = n at *
  have rb := fun f q => t_R_b hh pl k hy f q
  generalize hR : t_R h pl k y = R at *
  have hlt : ∀ f q, t_gr (t_A h pl k) R f q n < 2147483647 := fun f q => t_gr_lt (fun g _ => by have := rb g q; omega)
  have ls : ∀ f, ∃ p : Nat, t_ls (t_A h pl k) R n f 0 4 = (t_gr (t_A h pl k) R f p n, (p : Int)) := fun f => by
    obtain ⟨p, _, e⟩ := t_ls_p (hlt f) 3
    exact ⟨p, e⟩
  have up : ∀ m, m ≤ n → t_wc (t_A h pl k) R n m ≤ max (-1000000) (t_wo (t_A h pl k) R n m) := by
    intro m
    induction m with
    | zero => intro _; show (-1000000 : Int) ≤ max (-1000000) (-2147483648); omega
    | succ m ih =>
      intro hm
      have i := ih (by omega)
      obtain ⟨p, e⟩ := ls m
      have g := t_gr_ge (A := t_A h pl k) (R := R) (q := p) (show m < n by omega) (t_A_rf h pl k m)
      show max (t_wc _ R n m) (R m (t_ls (t_A h pl k) R n m 0 4).2.toNat) ≤ max (-1000000) (max (t_wo _ R n m) (t_ls (t_A h pl k) R n m 0 4).1)
      rw [e, Int.toNat_natCast]
      dsimp only
      omega
  have dn : ∀ m, m ≤ n → t_wo (t_A h pl k) R n m ≤ t_wc (t_A h pl k) R n n := by
    intro m
    induction m with
    | zero =>
      intro _
      have := t_wc_ge (A := t_A h pl k) (R := R) (n := n) hn
      have := rb 0 (t_ls (t_A h pl k) R n 0 0 4).2.toNat
      show (-2147483648 : Int) ≤ _
      omega
    | succ m ih =>
      intro hm
      have i := ih (by omega)
      obtain ⟨p, e⟩ := ls m
      have g := t_gr_ge (A := t_A h pl k) (R := R) (q := p) (show m < n by omega) (t_A_rf h pl k m)
      have r0 := rb m p
      obtain ⟨x, x1, x2, x3⟩ := t_gr_is (A := t_A h pl k) (R := R) (f := m) (q := p) (n := n) (by omega)
      have cg := t_ls_cg (R := R) (n := n) (t_A_cg x2) 4
      have wx := t_wc_ge (A := t_A h pl k) (R := R) (n := n) x1
      rw [← cg, e, Int.toNat_natCast] at wx
      show max (t_wo _ R n m) (t_ls (t_A h pl k) R n m 0 4).1 ≤ _
      rw [e]
      dsimp only
      omega
  have a := up n (Nat.le_refl n)
  have b := dn n (Nat.le_refl n)
  have c := t_wc_ge (A := t_A h pl k) (R := R) (n := n) hn
  have d := rb 0 (t_ls (t_A h pl k) R n 0 0 4).2.toNat
  omega
theorem c_greatest (hh : Hwf h) (r : fRep h G) (pl : Int) (w : wM h pl G) (k : Int) (hk : 0 ≤ k ∧ k ≤ 21) {y : Nat} (hy : y ≤ 20) (hR : ∀ f q, f < h.2 2 → q < 4 → G tu_regrets (4 * f + q) = t_R h pl k y f q) (f q : Nat) (hf : f < h.2 2) (hq : q < 4) :
    x_M y_Tu_greatestRegret [oTu, xI (f : Int), xI (q : Int), xI k] (S0, G) (x_is (.inl (some (xI (t_gr (t_A h pl k) (t_R h pl k y) f q (h.2 2))))) (S0, G)) := by
  have b := hh.1
  have rb := fun f q => t_R_b hh pl k hy f q
  rw [← t_gc_gr hf (t_A_rf h pl k f) (by have := rb f q; omega)]
  refine x_of 2 rfl (Nat.le_of_ble_eq_true rfl) ?_
  show x_A y_Tu_greatestRegret 0 [some oTu, some (xI (f : Int)), some (xI (q : Int)), some (xI k), none, none] [] (S0, G) 0 0 _
  generalize hQ : x_is (.inl (some (xI (t_gc (t_A h pl k) (t_R h pl k y) f q (h.2 2))))) (S0, G) = Q
  refine x_ldc (-1000000) d_Tu_greatestRegret_0 k_Tu_92 ⟨by decide, by decide⟩ ?_
  refine x_istore d_Tu_greatestRegret_2 (by decide) ?_
  dsimp only [x_st1, x_st2, x_kill, List.set, List.getElem?_cons_zero, List.getElem?_cons_succ]
  refine x_iconst (0) d_Tu_greatestRegret_4 rfl ⟨by decide, by decide⟩ ?_
  refine x_istore d_Tu_greatestRegret_5 (by decide) ?_
  dsimp only [x_st1, x_st2, x_kill, List.set, List.getElem?_cons_zero, List.getElem?_cons_succ]
  refine x_up_to (P := fun g => x_A y_Tu_greatestRegret 7 [some oTu, some (xI (f : Int)), some (xI (q : Int)), some (xI k), some (xI (t_gc (t_A h pl k) (t_R h pl k y) f q g)), some (xI (g : Int))] [] (S0, G) 0 0 Q) 0 (h.2 2) (Nat.zero_le _) ?_ (fun g _ hg k2 => ?_)
  · refine x_iload d_Tu_greatestRegret_7 rfl ?_
    refine x_aload_n d_Tu_greatestRegret_9 rfl rfl ?_
    refine x_getF (kf := 0) d_Tu_greatestRegret_10 rfl rfl rfl in_Tu f_Tu_21 ?_
    refine x_getF (kf := 2) d_Tu_greatestRegret_13 rfl rfl rfl in_Ho f_Tu_77 ?_
    refine x_V1 d_Tu_greatestRegret_16 e_Tu_greatestRegret_Ta_size ⟨rfl, rfl, Nat.zero_le _, Nat.zero_le _⟩ rfl rfl rfl rfl (Nat.le_of_ble_eq_true rfl) (k_size r 2 (by decide)) ?_
    refine x_icmp_ge (60) d_Tu_greatestRegret_19 (by decide) (fun g => ?_) (fun g => ?_)
    · refine x_iload d_Tu_greatestRegret_60 rfl ?_
      refine x_ireturn d_Tu_greatestRegret_62 rfl ?_ (Nat.zero_le _) (Nat.zero_le _)
      rw [← hQ]
      exact ⟨rfl, rfl⟩
    · omega
  · have e : t_gc (t_A h pl k) (t_R h pl k y) f q (g + 1) = if t_A h pl k f g = true then max (t_gc (t_A h pl k) (t_R h pl k y) f q g) (t_R h pl k y g q) else t_gc (t_A h pl k) (t_R h pl k y) f q g := rfl
    have st := c_sameTold hh r pl w f g k (Or.inl hf) (Or.inl hg) hk
    rw [f_fi_n (show f < 4 by omega), f_fi_n (show g < 4 by omega)] at st
    have ea : f_alk (k - h.1 9 0 4) (fun m => f_tell h (pl, pl, 0, (f : Int)) m (h.2 0)) (fun m => f_tell h (pl, pl, 0, (g : Int)) m (h.2 0)) 21 = t_A h pl k f g := rfl
    rw [ea] at st
    refine x_iload d_Tu_greatestRegret_7 rfl ?_
    refine x_aload_n d_Tu_greatestRegret_9 rfl rfl ?_
    refine x_getF (kf := 0) d_Tu_greatestRegret_10 rfl rfl rfl in_Tu f_Tu_21 ?_
    refine x_getF (kf := 2) d_Tu_greatestRegret_13 rfl rfl rfl in_Ho f_Tu_77 ?_
    refine x_V1 d_Tu_greatestRegret_16 e_Tu_greatestRegret_Ta_size ⟨rfl, rfl, Nat.zero_le _, Nat.zero_le _⟩ rfl rfl rfl rfl (Nat.le_of_ble_eq_true rfl) (k_size r 2 (by decide)) ?_
    refine x_icmp_ge (60) d_Tu_greatestRegret_19 (by decide) (fun g' => ?_) (fun g' => ?_)
    · omega
    · refine x_aload_n d_Tu_greatestRegret_22 rfl rfl ?_
      refine x_getF (kf := 4) d_Tu_greatestRegret_23 rfl rfl rfl in_Tu f_Tu_37 ?_
      refine x_iload_n d_Tu_greatestRegret_26 rfl rfl ?_
      refine x_iload d_Tu_greatestRegret_27 rfl ?_
      refine x_iload_n d_Tu_greatestRegret_29 rfl rfl ?_
      refine x_V1 d_Tu_greatestRegret_30 e_Tu_greatestRegret_Wa_sameTold ⟨rfl, rfl, Nat.zero_le _, Nat.zero_le _⟩ rfl rfl rfl rfl (Nat.le_of_ble_eq_true rfl) (st) ?_
      by_cases c : t_A h pl k f g = true
      · rw [if_pos c] at e
        rw [c]
        refine x_if_eq (54) d_Tu_greatestRegret_33 (by decide) (fun g2 => ?_) (fun g2 => ?_)
        · cases g2
        · refine x_iload d_Tu_greatestRegret_36 rfl ?_
          refine x_aload_n d_Tu_greatestRegret_38 rfl rfl ?_
          refine x_getF (kf := 7) d_Tu_greatestRegret_39 rfl rfl rfl in_Tu f_Tu_18 ?_
          refine x_iload d_Tu_greatestRegret_42 rfl ?_
          refine x_iconst (4) d_Tu_greatestRegret_44 rfl ⟨by decide, by decide⟩ ?_
          refine x_imulN d_Tu_greatestRegret_45 (by omega) (by omega) ?_
          refine x_iload_n d_Tu_greatestRegret_46 rfl rfl ?_
          refine x_iaddN d_Tu_greatestRegret_47 (by omega) (by omega) ?_
          refine x_ialdN (4 * g + q) d_Tu_greatestRegret_48 rfl (by omega) (by omega) ?_
          rw [hR g q hg hq]
          refine x_S1 d_Tu_greatestRegret_49 e_Tu_greatestRegret_JM_max ⟨rfl, rfl, Nat.zero_le _, Nat.zero_le _⟩ rfl rfl (Nat.le_of_ble_eq_true rfl) (s_max _ _ _) ?_
          refine x_istore d_Tu_greatestRegret_52 (by decide) ?_
          dsimp only [x_st1, x_st2, x_kill, List.set, List.getElem?_cons_zero, List.getElem?_cons_succ]
          refine x_iincN d_Tu_greatestRegret_54 rfl (by decide) (by omega) (by omega) ?_
          dsimp only [x_st1, x_st2, x_kill, List.set, List.getElem?_cons_zero, List.getElem?_cons_succ]
          refine x_goto (7) d_Tu_greatestRegret_57 (by decide) ?_
          rw [e] at k2
          exact k2
      · rw [if_neg c] at e
        rw [show t_A h pl k f g = false by simpa using c]
        refine x_if_eq (54) d_Tu_greatestRegret_33 (by decide) (fun g2 => ?_) (fun g2 => ?_)
        · refine x_iincN d_Tu_greatestRegret_54 rfl (by decide) (by omega) (by omega) ?_
          dsimp only [x_st1, x_st2, x_kill, List.set, List.getElem?_cons_zero, List.getElem?_cons_succ]
          refine x_goto (7) d_Tu_greatestRegret_57 (by decide) ?_
          rw [e] at k2
          exact k2
        · exact absurd rfl g2
theorem c_planFor (hh : Hwf h) (r : fRep h G) (pl : Int) (w : wM h pl G) (k : Int) (hk : 0 ≤ k ∧ k ≤ 21) {y : Nat} (hy : y ≤ 20) (hR : ∀ f q, f < h.2 2 → q < 4 → G tu_regrets (4 * f + q) = t_R h pl k y f q) (f : Nat) (hf : f < h.2 2) :
    x_M y_Tu_planFor [oTu, xI (f : Int), xI k] (S0, G) (x_is (.inl (some (xI (t_g h pl k y f)))) (S0, G)) := by
  have rb := fun f q => t_R_b hh pl k hy f q
  have hlt : ∀ q, t_gr (t_A h pl k) (t_R h pl k y) f q (h.2 2) < 2147483647 := fun q => t_gr_lt (fun g _ => by have := rb g q; omega)
  refine x_of 2 rfl (Nat.le_of_ble_eq_true rfl) ?_
  show x_A y_Tu_planFor 0 [some oTu, some (xI (f : Int)), some (xI k), none, none] [] (S0, G) 0 0 _
  unfold t_g
  generalize hQ : x_is (.inl (some (xI (t_ls (t_A h pl k) (t_R h pl k y) (h.2 2) f 0 4).2))) (S0, G) = Q
  refine x_iconst (0) d_Tu_planFor_0 rfl ⟨by decide, by decide⟩ ?_
  refine x_istore_n d_Tu_planFor_1 rfl (by decide) ?_
  dsimp only [x_st1, x_st2, x_kill, List.set, List.getElem?_cons_zero, List.getElem?_cons_succ]
  refine x_iconst (1) d_Tu_planFor_2 rfl ⟨by decide, by decide⟩ ?_
  refine x_istore d_Tu_planFor_3 (by decide) ?_
  dsimp only [x_st1, x_st2, x_kill, List.set, List.getElem?_cons_zero, List.getElem?_cons_succ]
  have key : ∀ p : Nat, p < 4 → t_ls (t_A h pl k) (t_R h pl k y) (h.2 2) f 0 1 = (t_gr (t_A h pl k) (t_R h pl k y) f p (h.2 2), (p : Int)) → x_A y_Tu_planFor 5 [some oTu, some (xI (f : Int)), some (xI k), some (xI (p : Int)), some (xI ((1 : Nat) : Int))] [] (S0, G) 0 0 Q := by
    refine x_up_to (P := fun q => ∀ p : Nat, p < 4 → t_ls (t_A h pl k) (t_R h pl k y) (h.2 2) f 0 q = (t_gr (t_A h pl k) (t_R h pl k y) f p (h.2 2), (p : Int)) → x_A y_Tu_planFor 5 [some oTu, some (xI (f : Int)), some (xI k), some (xI (p : Int)), some (xI (q : Int))] [] (S0, G) 0 0 Q) 1 4 (by omega) (fun p hp e => ?_) (fun q q1 q2 k2 p hp e => ?_)
    · refine x_iload d_Tu_planFor_5 rfl ?_
      refine x_iconst (4) d_Tu_planFor_7 rfl ⟨by decide, by decide⟩ ?_
      refine x_icmp_ge (38) d_Tu_planFor_8 (by decide) (fun g => ?_) (fun g => ?_)
      · refine x_iload_n d_Tu_planFor_38 rfl rfl ?_
        refine x_ireturn d_Tu_planFor_39 rfl ?_ (Nat.zero_le _) (Nat.zero_le _)
        rw [← hQ, e]
        exact ⟨rfl, rfl⟩
      · omega
    · have es : t_ls (t_A h pl k) (t_R h pl k y) (h.2 2) f 0 (q + 1) = if (t_ls (t_A h pl k) (t_R h pl k y) (h.2 2) f 0 q).1 ≤ t_gr (t_A h pl k) (t_R h pl k y) f q (h.2 2) then t_ls (t_A h pl k) (t_R h pl k y) (h.2 2) f 0 q else (t_gr (t_A h pl k) (t_R h pl k y) f q (h.2 2), (q : Int)) := rfl
      rw [e] at es
      refine x_iload d_Tu_planFor_5 rfl ?_
      refine x_iconst (4) d_Tu_planFor_7 rfl ⟨by decide, by decide⟩ ?_
      refine x_icmp_ge (38) d_Tu_planFor_8 (by decide) (fun g => ?_) (fun g => ?_)
      · omega
      · refine x_aload_n d_Tu_planFor_11 rfl rfl ?_
        refine x_iload_n d_Tu_planFor_12 rfl rfl ?_
        refine x_iload d_Tu_planFor_13 rfl ?_
        refine x_iload_n d_Tu_planFor_15 rfl rfl ?_
        refine x_V1 d_Tu_planFor_16 e_Tu_planFor_Tu_greatestRegret ⟨rfl, rfl, Nat.zero_le _, Nat.zero_le _⟩ rfl rfl rfl rfl (Nat.le_of_ble_eq_true rfl) (c_greatest hh r pl w k hk hy hR f q hf q2) ?_
        refine x_aload_n d_Tu_planFor_19 rfl rfl ?_
        refine x_iload_n d_Tu_planFor_20 rfl rfl ?_
        refine x_iload_n d_Tu_planFor_21 rfl rfl ?_
        refine x_iload_n d_Tu_planFor_22 rfl rfl ?_
        refine x_V1 d_Tu_planFor_23 e_Tu_planFor_Tu_greatestRegret ⟨rfl, rfl, Nat.zero_le _, Nat.zero_le _⟩ rfl rfl rfl rfl (Nat.le_of_ble_eq_true rfl) (c_greatest hh r pl w k hk hy hR f p hf hp) ?_
        refine x_icmp_ge (32) d_Tu_planFor_26 (by decide) (fun g2 => ?_) (fun g2 => ?_)
        · rw [if_pos (by dsimp only; omega)] at es
          refine x_iincN d_Tu_planFor_32 rfl (by decide) (by omega) (by omega) ?_
          dsimp only [x_st1, x_st2, x_kill, List.set, List.getElem?_cons_zero, List.getElem?_cons_succ]
          refine x_goto (5) d_Tu_planFor_35 (by decide) ?_
          exact k2 p hp es
        · rw [if_neg (by dsimp only; omega)] at es
          refine x_iload d_Tu_planFor_29 rfl ?_
          refine x_istore_n d_Tu_planFor_31 rfl (by decide) ?_
          dsimp only [x_st1, x_st2, x_kill, List.set, List.getElem?_cons_zero, List.getElem?_cons_succ]
          refine x_iincN d_Tu_planFor_32 rfl (by decide) (by omega) (by omega) ?_
          dsimp only [x_st1, x_st2, x_kill, List.set, List.getElem?_cons_zero, List.getElem?_cons_succ]
          refine x_goto (5) d_Tu_planFor_35 (by decide) ?_
          exact k2 q q2 es
  refine key 0 (by decide) ?_
  show (if (2147483647 : Int) ≤ t_gr (t_A h pl k) (t_R h pl k y) f 0 (h.2 2) then _ else _) = _
  rw [if_neg (by have := hlt 0; omega)]
theorem c_regretOfTurn (hh : Hwf h) (r : fRep h G) (pl : Int) (w : wM h pl G) (k : Int) (hk : 0 ≤ k ∧ k ≤ 21) {y : Nat} (hy : y ≤ 20) (hn : 0 < h.2 2) (hR : ∀ f q, f < h.2 2 → q < 4 → G tu_regrets (4 * f + q) = t_R h pl k y f q) :
    x_M y_Tu_regretOfTurn [oTu, xI k] (S0, G) (x_is (.inl (some (xI (t_w h pl k y)))) (S0, G)) := by
  have b := hh.1
  rw [← t_wc_wo hh pl k hy hn]
  have rb := fun f q => t_R_b hh pl k hy f q
  have hlt : ∀ f q, t_gr (t_A h pl k) (t_R h pl k y) f q (h.2 2) < 2147483647 := fun f q => t_gr_lt (fun g _ => by have := rb g q; omega)
  refine x_of 2 rfl (Nat.le_of_ble_eq_true rfl) ?_
  show x_A y_Tu_regretOfTurn 0 [some oTu, some (xI k), none, none] [] (S0, G) 0 0 _
  generalize hQ : x_is (.inl (some (xI (t_wc (t_A h pl k) (t_R h pl k y) (h.2 2) (h.2 2))))) (S0, G) = Q
  refine x_ldc (-1000000) d_Tu_regretOfTurn_0 k_Tu_92 ⟨by decide, by decide⟩ ?_
  refine x_istore_n d_Tu_regretOfTurn_2 rfl (by decide) ?_
  dsimp only [x_st1, x_st2, x_kill, List.set, List.getElem?_cons_zero, List.getElem?_cons_succ]
  refine x_iconst (0) d_Tu_regretOfTurn_3 rfl ⟨by decide, by decide⟩ ?_
  refine x_istore_n d_Tu_regretOfTurn_4 rfl (by decide) ?_
  dsimp only [x_st1, x_st2, x_kill, List.set, List.getElem?_cons_zero, List.getElem?_cons_succ]
  refine x_up_to (P := fun f => x_A y_Tu_regretOfTurn 5 [some oTu, some (xI k), some (xI (t_wc (t_A h pl k) (t_R h pl k y) (h.2 2) f)), some (xI (f : Int))] [] (S0, G) 0 0 Q) 0 (h.2 2) (Nat.zero_le _) ?_ (fun f _ hf k2 => ?_)
  · refine x_iload_n d_Tu_regretOfTurn_5 rfl rfl ?_
    refine x_aload_n d_Tu_regretOfTurn_6 rfl rfl ?_
    refine x_getF (kf := 0) d_Tu_regretOfTurn_7 rfl rfl rfl in_Tu f_Tu_21 ?_
    refine x_getF (kf := 2) d_Tu_regretOfTurn_10 rfl rfl rfl in_Ho f_Tu_77 ?_
    refine x_V1 d_Tu_regretOfTurn_13 e_Tu_regretOfTurn_Ta_size ⟨rfl, rfl, Nat.zero_le _, Nat.zero_le _⟩ rfl rfl rfl rfl (Nat.le_of_ble_eq_true rfl) (k_size r 2 (by decide)) ?_
    refine x_icmp_ge (45) d_Tu_regretOfTurn_16 (by decide) (fun g => ?_) (fun g => ?_)
    · refine x_iload_n d_Tu_regretOfTurn_45 rfl rfl ?_
      refine x_ireturn d_Tu_regretOfTurn_46 rfl ?_ (Nat.zero_le _) (Nat.zero_le _)
      rw [← hQ]
      exact ⟨rfl, rfl⟩
    · omega
  · obtain ⟨p, p1, e⟩ := t_ls_p (hlt f) 3
    have eg : t_g h pl k y f = (p : Int) := by unfold t_g; rw [e]
    have e5 : t_wc (t_A h pl k) (t_R h pl k y) (h.2 2) (f + 1) = max (t_wc (t_A h pl k) (t_R h pl k y) (h.2 2) f) (t_R h pl k y f p) := by
      show max _ (t_R h pl k y f (t_ls (t_A h pl k) (t_R h pl k y) (h.2 2) f 0 4).2.toNat) = _
      rw [e, Int.toNat_natCast]
    refine x_iload_n d_Tu_regretOfTurn_5 rfl rfl ?_
    refine x_aload_n d_Tu_regretOfTurn_6 rfl rfl ?_
    refine x_getF (kf := 0) d_Tu_regretOfTurn_7 rfl rfl rfl in_Tu f_Tu_21 ?_
    refine x_getF (kf := 2) d_Tu_regretOfTurn_10 rfl rfl rfl in_Ho f_Tu_77 ?_
    refine x_V1 d_Tu_regretOfTurn_13 e_Tu_regretOfTurn_Ta_size ⟨rfl, rfl, Nat.zero_le _, Nat.zero_le _⟩ rfl rfl rfl rfl (Nat.le_of_ble_eq_true rfl) (k_size r 2 (by decide)) ?_
    refine x_icmp_ge (45) d_Tu_regretOfTurn_16 (by decide) (fun g => ?_) (fun g => ?_)
    · omega
    · refine x_iload_n d_Tu_regretOfTurn_19 rfl rfl ?_
      refine x_aload_n d_Tu_regretOfTurn_20 rfl rfl ?_
      refine x_getF (kf := 7) d_Tu_regretOfTurn_21 rfl rfl rfl in_Tu f_Tu_18 ?_
      refine x_iload_n d_Tu_regretOfTurn_24 rfl rfl ?_
      refine x_iconst (4) d_Tu_regretOfTurn_25 rfl ⟨by decide, by decide⟩ ?_
      refine x_imulN d_Tu_regretOfTurn_26 (by omega) (by omega) ?_
      refine x_aload_n d_Tu_regretOfTurn_27 rfl rfl ?_
      refine x_iload_n d_Tu_regretOfTurn_28 rfl rfl ?_
      refine x_iload_n d_Tu_regretOfTurn_29 rfl rfl ?_
      refine x_V1 d_Tu_regretOfTurn_30 e_Tu_regretOfTurn_Tu_planFor ⟨rfl, rfl, Nat.zero_le _, Nat.zero_le _⟩ rfl rfl rfl rfl (Nat.le_of_ble_eq_true rfl) (c_planFor hh r pl w k hk hy hR f hf) ?_
      rw [eg]
      refine x_iaddN d_Tu_regretOfTurn_33 (by omega) (by omega) ?_
      refine x_ialdN (4 * f + p) d_Tu_regretOfTurn_34 rfl (by omega) (by omega) ?_
      rw [hR f p hf (by omega)]
      refine x_S1 d_Tu_regretOfTurn_35 e_Tu_regretOfTurn_JM_max ⟨rfl, rfl, Nat.zero_le _, Nat.zero_le _⟩ rfl rfl (Nat.le_of_ble_eq_true rfl) (s_max _ _ _) ?_
      refine x_istore_n d_Tu_regretOfTurn_38 rfl (by decide) ?_
      dsimp only [x_st1, x_st2, x_kill, List.set, List.getElem?_cons_zero, List.getElem?_cons_succ]
      refine x_iincN d_Tu_regretOfTurn_39 rfl (by decide) (by omega) (by omega) ?_
      dsimp only [x_st1, x_st2, x_kill, List.set, List.getElem?_cons_zero, List.getElem?_cons_succ]
      refine x_goto (5) d_Tu_regretOfTurn_42 (by decide) ?_
      rw [e5] at k2
      exact k2
end CU3
