/-! what fits the readings -/
def mkB (h : HH) (pl : Int) (fi m p : Nat) : Bool := decide (h.1 9 0 3 ≤ (sk h (pl, pl, 0, f_fi fi) m).1 p + (sk h (pl, pl, 0, f_fi fi) m).2.1 p)
def f_fA (h : HH) (pl : Int) (fi : Nat) : Nat → Bool
  | 0 => true
  | r + 1 => f_fA h pl fi r && (mkB h pl fi (h.1 8 r 1).toNat (h.1 8 r 0).toNat == decide (h.1 8 r 2 = 1))
theorem f_fA_no {h : HH} {pl : Int} {fi r : Nat} (e : f_fA h pl fi r = false) : ∀ n, r ≤ n → f_fA h pl fi n = false
  | 0, hn => by rw [show (0 : Nat) = r by omega]; exact e
  | n + 1, hn => by
    by_cases q : r = n + 1
    · rw [← q]; exact e
    · show (f_fA h pl fi n && _) = false
      rw [f_fA_no e n (by omega)]; rfl
abbrev okR (h : HH) (pl : Int) (f : Nat) : Prop := (f < h.2 2 ∨ f = 4) ∧ f_fA h pl f (h.2 8) = true
def f_ft (h : HH) (pl : Int) : Nat → Int
  | 0 => 0
  | f + 1 => if okR h pl f then x_or (f_ft h pl f) (x_shl 1 f) else f_ft h pl f
theorem f_ft_n (h : HH) (pl : Int) {f : Nat} (hf : f ≤ 5) : ∃ n : Nat, n < 2 ^ f ∧ f_ft h pl f = n := by
  have key : ∀ f : Fin 5, ∀ n : Fin 32, (n : Nat) < 2 ^ (f : Nat) → x_or ((n : Nat) : Int) (x_shl 1 (f : Nat)) = (((n : Nat) ||| 2 ^ (f : Nat) : Nat) : Int) ∧ ((n : Nat) ||| 2 ^ (f : Nat)) < 2 ^ ((f : Nat) + 1) := by decide +kernel
  induction f with
  | zero => exact ⟨0, by decide, rfl⟩
  | succ f ih =>
    obtain ⟨n, h1, h2⟩ := ih (by omega)
    have h3 : 2 ^ f ≤ 2 ^ 4 := Nat.pow_le_pow_right (by decide) (by omega)
    show ∃ n : Nat, n < 2 ^ (f + 1) ∧ (if okR h pl f then x_or (f_ft h pl f) (x_shl 1 f) else f_ft h pl f) = n
    split
    · have k := key ⟨f, by omega⟩ ⟨n, by omega⟩ h1
      exact ⟨_, k.2, by rw [h2]; exact k.1⟩
    · exact ⟨n, by rw [Nat.pow_succ]; omega, h2⟩
theorem f_ft_bit (h : HH) (pl : Int) {n : Nat} (hn : n ≤ 5) {b : Nat} (hb : b < 31) : xb (f_ft h pl n) b = (decide (b < n) && decide (okR h pl b)) := by
  induction n with
  | zero => show xb 0 b = _; rw [xb_zero, decide_eq_false (by omega)]; rfl
  | succ n ih =>
    have ih := ih (by omega)
    show xb (if okR h pl n then x_or (f_ft h pl n) (x_shl 1 n) else f_ft h pl n) b = _
    by_cases q : okR h pl n
    · rw [if_pos q, xb_or, ih, xb_one (by omega) hb]
      by_cases e : b = n
      · subst e; rw [decide_eq_true q]; simp
      · have : (b < n) = (b < n + 1) := by apply propext; omega
        simp only [e, this]; simp
    · rw [if_neg q, ih]
      by_cases e : b = n
      · subst e; rw [decide_eq_false q]; simp
      · have : (b < n) = (b < n + 1) := by apply propext; omega
        simp only [this]
/-- how many of the set have the mark -/
def f_cn (h : HH) (pl : Int) (m p : Nat) : Nat → Int
  | 0 => 0
  | f + 1 => f_cn h pl m p f + if okR h pl f ∧ mkB h pl f m p = true then 1 else 0
theorem f_cn_bd (h : HH) (pl : Int) (m p n : Nat) : 0 ≤ f_cn h pl m p n ∧ f_cn h pl m p n ≤ n := by
  induction n with
  | zero => exact ⟨Int.le_refl _, Int.le_refl _⟩
  | succ n ih =>
    have e : f_cn h pl m p (n + 1) = f_cn h pl m p n + if okR h pl n ∧ mkB h pl n m p = true then 1 else 0 := rfl
    rw [e]
    split <;> omega
theorem cb_ft (h : HH) (pl : Int) (m p : Nat) {n : Nat} (hn : n ≤ 5) {s : Nat} (hs : f_ft h pl n = s) : f_cn h pl m p n ≤ cb s ∧ s < 2 ^ n := by
  have key : ∀ f : Fin 5, ∀ n : Fin 32, (n : Nat) < 2 ^ (f : Nat) → x_or ((n : Nat) : Int) (x_shl 1 (f : Nat)) = (((n : Nat) ||| 2 ^ (f : Nat) : Nat) : Int) ∧ ((n : Nat) ||| 2 ^ (f : Nat)) < 2 ^ ((f : Nat) + 1) ∧ cb ((n : Nat) ||| 2 ^ (f : Nat)) = cb (n : Nat) + 1 := by decide +kernel
  induction n generalizing s with
  | zero =>
    have e : (0 : Int) = (s : Int) := hs
    have e2 : s = 0 := by omega
    subst e2
    exact ⟨by show (0 : Int) ≤ ((cb 0 : Nat) : Int); decide, by decide⟩
  | succ n ih =>
    obtain ⟨t, h1, h2⟩ := f_ft_n h pl (f := n) (by omega)
    have ih := ih (by omega) h2
    have h3 : 2 ^ n ≤ 2 ^ 4 := Nat.pow_le_pow_right (by decide) (by omega)
    have k := key ⟨n, by omega⟩ ⟨t, by omega⟩ h1
    have e : f_cn h pl m p (n + 1) = f_cn h pl m p n + if okR h pl n ∧ mkB h pl n m p = true then 1 else 0 := rfl
    have e1 : f_ft h pl (n + 1) = if okR h pl n then x_or (f_ft h pl n) (x_shl 1 n) else f_ft h pl n := rfl
    rw [e1] at hs
    rw [e]
    by_cases q : okR h pl n
    · rw [if_pos q, h2] at hs
      have k1 : x_or (t : Int) (x_shl 1 n) = ((t ||| 2 ^ n : Nat) : Int) := k.1
      have k2 : (t ||| 2 ^ n) < 2 ^ (n + 1) := k.2.1
      have k3 : cb (t ||| 2 ^ n) = cb t + 1 := k.2.2
      rw [k1] at hs
      have es : (t ||| 2 ^ n) = s := by omega
      rw [es] at k2 k3
      rw [k3]
      refine ⟨?_, k2⟩
      split <;> omega
    · rw [if_neg q, h2] at hs
      have es : t = s := by omega
      subst es
      rw [if_neg (fun z => q z.1)]
      exact ⟨by omega, by rw [Nat.pow_succ]; omega⟩
/-- the next question, after the first i -/
def f_nx (h : HH) (pl : Int) (all : Int) : Nat → Int × Int
  | 0 => (-1, 0)
  | i + 1 => if xb (h.1 9 0 2) (i % 8) = true ∧ ((f_nx h pl all i).1 = -1 ∨ max (f_cn h pl (i / 8) (i % 8) 5) (all - f_cn h pl (i / 8) (i % 8) 5) < (f_nx h pl all i).2) then ((i : Int), max (f_cn h pl (i / 8) (i % 8) 5) (all - f_cn h pl (i / 8) (i % 8) 5)) else f_nx h pl all i
section CWf
variable {h : HH} {G : Nat → Nat → Int}
theorem wM.bit (hh : Hwf h) {pl : Int} (w : wM h pl G) {fi m p : Nat} (hf : fi < h.2 2 ∨ fi = 4) (hm : m ≤ 20) (hp : p < h.2 0) : xb (G wa_marked (21 * fi + m)) p = mkB h pl fi m p := by
  have b := hh.1
  rw [w fi hf m hm, f_mk_bit h _ m (n := h.2 0) (by omega) (by omega), decide_eq_true hp]
  rfl
theorem c_fitsAll (hh : Hwf h) (r : fRep h G) {pl : Int} (w : wM h pl G) {fi : Nat} (hf : fi < h.2 2 ∨ fi = 4) : x_M y_Wa_fitsAll [oWa, xI (f_fi fi)] (S0, G) (x_is (.inl (some (xI (b2i (f_fA h pl fi (h.2 8)))))) (S0, G)) := by
  have b := hh.1
  refine x_of 3 rfl (Nat.le_of_ble_eq_true rfl) ?_
  show x_A y_Wa_fitsAll 0 [some oWa, some (xI (f_fi fi)), none, none, none] [] (S0, G) 0 0 _
  generalize hQ : x_is (.inl (some (xI (b2i (f_fA h pl fi (h.2 8)))))) (S0, G) = Q
  refine x_iconst (0) d_Wa_fitsAll_0 rfl ⟨by decide, by decide⟩ ?_
  refine x_istore_n d_Wa_fitsAll_1 rfl (by decide) ?_
  dsimp only [x_st1, x_st2, x_kill, List.set, List.getElem?_cons_zero, List.getElem?_cons_succ]
  refine x_up_to (P := fun n => ∀ z3 z4, f_fA h pl fi n = true → x_A y_Wa_fitsAll 2 [some oWa, some (xI (f_fi fi)), some (xI (n : Int)), z3, z4] [] (S0, G) 0 0 Q) 0 (h.2 8) (Nat.zero_le _) (fun z3 z4 e => ?_) (fun n _ hn k z3 z4 e => ?_) none none rfl
  · refine x_iload_n d_Wa_fitsAll_2 rfl rfl ?_
    refine x_aload_n d_Wa_fitsAll_3 rfl rfl ?_
    refine x_getF (kf := 0) d_Wa_fitsAll_4 rfl rfl rfl in_Wa f_Wa_15 ?_
    refine x_getF (kf := 8) d_Wa_fitsAll_7 rfl rfl rfl in_Ho f_Wa_87 ?_
    refine x_V1 d_Wa_fitsAll_10 e_Wa_fitsAll_Ta_size ⟨rfl, rfl, Nat.zero_le _, Nat.zero_le _⟩ rfl rfl rfl rfl (Nat.le_of_ble_eq_true rfl) (k_size r 8 (by decide)) ?_
    refine x_icmp_ge (77) d_Wa_fitsAll_13 (by decide) (fun g => ?_) (fun g => ?_)
    · refine x_iconst (1) d_Wa_fitsAll_77 rfl ⟨by decide, by decide⟩ ?_
      refine x_zreturn d_Wa_fitsAll_78 rfl (by first | exact Or.inl rfl | exact Or.inr rfl | (split <;> first | exact Or.inl rfl | exact Or.inr rfl) | assumption) ?_ (Nat.zero_le _) (Nat.zero_le _)
      rw [← hQ, e]
      exact ⟨rfl, rfl⟩
    · omega
  · have b8 := hh.2.2.2.2.2.2.2.2.2.1 n hn
    have ea : f_fA h pl fi (n + 1) = (f_fA h pl fi n && (mkB h pl fi (h.1 8 n 1).toNat (h.1 8 n 0).toNat == decide (h.1 8 n 2 = 1))) := rfl
    rw [ea, e, Bool.true_and] at k
    rw [e, Bool.true_and] at ea
    obtain ⟨pn, hpn⟩ : ∃ z : Nat, h.1 8 n 0 = z := ⟨(h.1 8 n 0).toNat, by omega⟩
    obtain ⟨mn, hmn⟩ : ∃ z : Nat, h.1 8 n 1 = z := ⟨(h.1 8 n 1).toNat, by omega⟩
    have kx := k_at hh r 8 n 0 (by decide) hn (by decide) (a := (n : Int)) (b := 0) rfl rfl
    have ky := k_at hh r 8 n 1 (by decide) hn (by decide) (a := (n : Int)) (b := 1) rfl rfl
    rw [hpn] at kx k b8 ea
    rw [hmn] at ky k b8 ea
    rw [Int.toNat_natCast, Int.toNat_natCast] at k ea
    have eb := w.bit hh hf (m := mn) (p := pn) (by omega) (by omega)
    refine x_iload_n d_Wa_fitsAll_2 rfl rfl ?_
    refine x_aload_n d_Wa_fitsAll_3 rfl rfl ?_
    refine x_getF (kf := 0) d_Wa_fitsAll_4 rfl rfl rfl in_Wa f_Wa_15 ?_
    refine x_getF (kf := 8) d_Wa_fitsAll_7 rfl rfl rfl in_Ho f_Wa_87 ?_
    refine x_V1 d_Wa_fitsAll_10 e_Wa_fitsAll_Ta_size ⟨rfl, rfl, Nat.zero_le _, Nat.zero_le _⟩ rfl rfl rfl rfl (Nat.le_of_ble_eq_true rfl) (k_size r 8 (by decide)) ?_
    refine x_icmp_ge (77) d_Wa_fitsAll_13 (by decide) (fun g => ?_) (fun g => ?_)
    · omega
    · refine x_aload_n d_Wa_fitsAll_16 rfl rfl ?_
      refine x_getF (kf := 0) d_Wa_fitsAll_17 rfl rfl rfl in_Wa f_Wa_15 ?_
      refine x_getF (kf := 8) d_Wa_fitsAll_20 rfl rfl rfl in_Ho f_Wa_87 ?_
      refine x_iload_n d_Wa_fitsAll_23 rfl rfl ?_
      refine x_iconst (0) d_Wa_fitsAll_24 rfl ⟨by decide, by decide⟩ ?_
      refine x_V1 d_Wa_fitsAll_25 e_Wa_fitsAll_Ta_at ⟨rfl, rfl, Nat.zero_le _, Nat.zero_le _⟩ rfl rfl rfl rfl (Nat.le_of_ble_eq_true rfl) (kx) ?_
      refine x_istore_n d_Wa_fitsAll_28 rfl (by decide) ?_
      dsimp only [x_st1, x_st2, x_kill, List.set, List.getElem?_cons_zero, List.getElem?_cons_succ]
      refine x_aload_n d_Wa_fitsAll_29 rfl rfl ?_
      refine x_getF (kf := 0) d_Wa_fitsAll_30 rfl rfl rfl in_Wa f_Wa_15 ?_
      refine x_getF (kf := 8) d_Wa_fitsAll_33 rfl rfl rfl in_Ho f_Wa_87 ?_
      refine x_iload_n d_Wa_fitsAll_36 rfl rfl ?_
      refine x_iconst (1) d_Wa_fitsAll_37 rfl ⟨by decide, by decide⟩ ?_
      refine x_V1 d_Wa_fitsAll_38 e_Wa_fitsAll_Ta_at ⟨rfl, rfl, Nat.zero_le _, Nat.zero_le _⟩ rfl rfl rfl rfl (Nat.le_of_ble_eq_true rfl) (ky) ?_
      refine x_istore d_Wa_fitsAll_41 (by decide) ?_
      dsimp only [x_st1, x_st2, x_kill, List.set, List.getElem?_cons_zero, List.getElem?_cons_succ]
      refine x_aload_n d_Wa_fitsAll_43 rfl rfl ?_
      refine x_iload_n d_Wa_fitsAll_44 rfl rfl ?_
      refine x_iload d_Wa_fitsAll_45 rfl ?_
      refine x_V1 d_Wa_fitsAll_47 e_Wa_fitsAll_Wa_markedAt ⟨rfl, rfl, Nat.zero_le _, Nat.zero_le _⟩ rfl rfl rfl rfl (Nat.le_of_ble_eq_true rfl) (c_markedAt fi mn (by omega) (by omega)) ?_
      refine x_iload_n d_Wa_fitsAll_50 rfl rfl ?_
      refine x_ishr d_Wa_fitsAll_51 ?_
      refine x_iconst (1) d_Wa_fitsAll_52 rfl ⟨by decide, by decide⟩ ?_
      refine x_iand d_Wa_fitsAll_53 ?_
      refine x_aload_n d_Wa_fitsAll_54 rfl rfl ?_
      refine x_getF (kf := 0) d_Wa_fitsAll_55 rfl rfl rfl in_Wa f_Wa_15 ?_
      refine x_getF (kf := 8) d_Wa_fitsAll_58 rfl rfl rfl in_Ho f_Wa_87 ?_
      refine x_iload_n d_Wa_fitsAll_61 rfl rfl ?_
      refine x_iconst (2) d_Wa_fitsAll_62 rfl ⟨by decide, by decide⟩ ?_
      rw [x_and1, xb_shr _ (by omega), eb]
      refine x_V1 d_Wa_fitsAll_63 e_Wa_fitsAll_Ta_at ⟨rfl, rfl, Nat.zero_le _, Nat.zero_le _⟩ rfl rfl rfl rfl (Nat.le_of_ble_eq_true rfl) (k_at hh r 8 n 2 (by decide) hn (by decide) rfl rfl) ?_
      have fin : (mkB h pl fi mn pn == decide (h.1 8 n 2 = 1)) = true ∨ (mkB h pl fi mn pn == decide (h.1 8 n 2 = 1)) = false := by
        cases (mkB h pl fi mn pn == decide (h.1 8 n 2 = 1)) <;> simp
      have ev : ((if mkB h pl fi mn pn = true then (1 : Int) else 0) = h.1 8 n 2) ↔ (mkB h pl fi mn pn == decide (h.1 8 n 2 = 1)) = true := by
        by_cases q : h.1 8 n 2 = 1
        · rw [q]; cases mkB h pl fi mn pn <;> decide
        · have q0 : h.1 8 n 2 = 0 := by omega
          rw [q0]; cases mkB h pl fi mn pn <;> decide
      refine x_icmp_eq (71) d_Wa_fitsAll_66 (by decide) (fun g2 => ?_) (fun g2 => ?_)
      · refine x_iincN d_Wa_fitsAll_71 rfl (by decide) (by omega) (by omega) ?_
        dsimp only [x_st1, x_st2, x_kill, List.set, List.getElem?_cons_zero, List.getElem?_cons_succ]
        refine x_goto (2) d_Wa_fitsAll_74 (by decide) ?_
        exact k _ _ (ev.mp g2)
      · refine x_iconst (0) d_Wa_fitsAll_69 rfl ⟨by decide, by decide⟩ ?_
        refine x_zreturn d_Wa_fitsAll_70 rfl (by first | exact Or.inl rfl | exact Or.inr rfl | (split <;> first | exact Or.inl rfl | exact Or.inr rfl) | assumption) ?_ (Nat.zero_le _) (Nat.zero_le _)
        rw [← hQ, f_fA_no (r := n + 1) (by
          rw [ea]
          rcases fin with q | q
          · exact absurd (ev.mpr q) g2
          · exact q) _ (by omega)]
        exact ⟨rfl, rfl⟩
theorem f_ft_up (hh : Hwf h) (pl : Int) {n : Nat} (h1 : h.2 2 ≤ n) : n ≤ 4 → f_ft h pl n = f_ft h pl (h.2 2) := by
  intro h2
  induction n with
  | zero => rw [show h.2 2 = 0 by omega]
  | succ n ih =>
    by_cases e : h.2 2 = n + 1
    · rw [e]
    · rw [← ih (by omega) (by omega)]
      exact if_neg (fun z => by have := z.1; omega)
theorem c_fitting (hh : Hwf h) (r : fRep h G) {pl : Int} (w : wM h pl G) : x_M y_Wa_fitting [oWa] (S0, G) (x_is (.inl (some (xI (f_ft h pl 5)))) (S0, G)) := by
  have b := hh.1
  refine x_of 2 rfl (Nat.le_of_ble_eq_true rfl) ?_
  show x_A y_Wa_fitting 0 [some oWa, none, none] [] (S0, G) 0 0 _
  generalize hQ : x_is (.inl (some (xI (f_ft h pl 5)))) (S0, G) = Q
  refine x_iconst (0) d_Wa_fitting_0 rfl ⟨by decide, by decide⟩ ?_
  refine x_istore_n d_Wa_fitting_1 rfl (by decide) ?_
  dsimp only [x_st1, x_st2, x_kill, List.set, List.getElem?_cons_zero, List.getElem?_cons_succ]
  refine x_iconst (0) d_Wa_fitting_2 rfl ⟨by decide, by decide⟩ ?_
  refine x_istore_n d_Wa_fitting_3 rfl (by decide) ?_
  dsimp only [x_st1, x_st2, x_kill, List.set, List.getElem?_cons_zero, List.getElem?_cons_succ]
  refine x_up_to (P := fun f => x_A y_Wa_fitting 4 [some oWa, some (xI (f_ft h pl f)), some (xI (f : Int))] [] (S0, G) 0 0 Q) 0 (h.2 2) (Nat.zero_le _) ?_ (fun f _ hf k => ?_)
  · have c4 := c_fitsAll hh r w (fi := 4) (Or.inr rfl)
    have e5 : f_ft h pl 5 = if okR h pl 4 then x_or (f_ft h pl 4) (x_shl 1 4) else f_ft h pl 4 := rfl
    rw [f_ft_up hh pl (n := 4) (by omega) (by omega)] at e5
    refine x_iload_n d_Wa_fitting_4 rfl rfl ?_
    refine x_aload_n d_Wa_fitting_5 rfl rfl ?_
    refine x_getF (kf := 0) d_Wa_fitting_6 rfl rfl rfl in_Wa f_Wa_15 ?_
    refine x_getF (kf := 2) d_Wa_fitting_9 rfl rfl rfl in_Ho f_Wa_23 ?_
    refine x_V1 d_Wa_fitting_12 e_Wa_fitting_Ta_size ⟨rfl, rfl, Nat.zero_le _, Nat.zero_le _⟩ rfl rfl rfl rfl (Nat.le_of_ble_eq_true rfl) (k_size r 2 (by decide)) ?_
    refine x_icmp_ge (38) d_Wa_fitting_15 (by decide) (fun g => ?_) (fun g => ?_)
    · refine x_aload_n d_Wa_fitting_38 rfl rfl ?_
      refine x_iconst (-1) d_Wa_fitting_39 rfl ⟨by decide, by decide⟩ ?_
      refine x_V1 d_Wa_fitting_40 e_Wa_fitting_Wa_fitsAll ⟨rfl, rfl, Nat.zero_le _, Nat.zero_le _⟩ rfl rfl rfl rfl (Nat.le_of_ble_eq_true rfl) (c4) ?_
      cases q : f_fA h pl 4 (h.2 8) with
      | true =>
        rw [if_pos ⟨Or.inr rfl, q⟩] at e5
        refine x_if_eq (53) d_Wa_fitting_43 (by decide) (fun g2 => ?_) (fun g2 => ?_)
        · cases g2
        · refine x_iload_n d_Wa_fitting_46 rfl rfl ?_
          refine x_bipush (16) d_Wa_fitting_47 rfl ⟨by decide, by decide⟩ ?_
          refine x_ior d_Wa_fitting_49 ?_
          refine x_goto (54) d_Wa_fitting_50 (by decide) ?_
          refine x_ireturn d_Wa_fitting_54 rfl ?_ (Nat.zero_le _) (Nat.zero_le _)
          rw [← hQ, e5]
          exact ⟨rfl, rfl⟩
      | false =>
        rw [if_neg (fun z => by have := z.2; rw [q] at this; cases this)] at e5
        refine x_if_eq (53) d_Wa_fitting_43 (by decide) (fun g2 => ?_) (fun g2 => ?_)
        · refine x_iload_n d_Wa_fitting_53 rfl rfl ?_
          refine x_ireturn d_Wa_fitting_54 rfl ?_ (Nat.zero_le _) (Nat.zero_le _)
          rw [← hQ, e5]
          exact ⟨rfl, rfl⟩
        · exact absurd rfl g2
    · omega
  · have c4 := c_fitsAll hh r w (fi := f) (Or.inl hf)
    have e5 : f_ft h pl (f + 1) = if okR h pl f then x_or (f_ft h pl f) (x_shl 1 f) else f_ft h pl f := rfl
    rw [show f_fi f = (f : Int) from by unfold f_fi; rw [if_neg (by omega)]] at c4
    refine x_iload_n d_Wa_fitting_4 rfl rfl ?_
    refine x_aload_n d_Wa_fitting_5 rfl rfl ?_
    refine x_getF (kf := 0) d_Wa_fitting_6 rfl rfl rfl in_Wa f_Wa_15 ?_
    refine x_getF (kf := 2) d_Wa_fitting_9 rfl rfl rfl in_Ho f_Wa_23 ?_
    refine x_V1 d_Wa_fitting_12 e_Wa_fitting_Ta_size ⟨rfl, rfl, Nat.zero_le _, Nat.zero_le _⟩ rfl rfl rfl rfl (Nat.le_of_ble_eq_true rfl) (k_size r 2 (by decide)) ?_
    refine x_icmp_ge (38) d_Wa_fitting_15 (by decide) (fun g => ?_) (fun g => ?_)
    · omega
    · refine x_aload_n d_Wa_fitting_18 rfl rfl ?_
      refine x_iload_n d_Wa_fitting_19 rfl rfl ?_
      refine x_V1 d_Wa_fitting_20 e_Wa_fitting_Wa_fitsAll ⟨rfl, rfl, Nat.zero_le _, Nat.zero_le _⟩ rfl rfl rfl rfl (Nat.le_of_ble_eq_true rfl) (c4) ?_
      cases q : f_fA h pl f (h.2 8) with
      | true =>
        rw [if_pos ⟨Or.inl hf, q⟩] at e5
        rw [e5] at k
        refine x_if_eq (32) d_Wa_fitting_23 (by decide) (fun g2 => ?_) (fun g2 => ?_)
        · cases g2
        · refine x_iload_n d_Wa_fitting_26 rfl rfl ?_
          refine x_iconst (1) d_Wa_fitting_27 rfl ⟨by decide, by decide⟩ ?_
          refine x_iload_n d_Wa_fitting_28 rfl rfl ?_
          refine x_ishl d_Wa_fitting_29 ?_
          refine x_ior d_Wa_fitting_30 ?_
          refine x_istore_n d_Wa_fitting_31 rfl (by decide) ?_
          dsimp only [x_st1, x_st2, x_kill, List.set, List.getElem?_cons_zero, List.getElem?_cons_succ]
          refine x_iincN d_Wa_fitting_32 rfl (by decide) (by omega) (by omega) ?_
          dsimp only [x_st1, x_st2, x_kill, List.set, List.getElem?_cons_zero, List.getElem?_cons_succ]
          refine x_goto (4) d_Wa_fitting_35 (by decide) ?_
          exact k
      | false =>
        rw [if_neg (fun z => by have := z.2; rw [q] at this; cases this)] at e5
        rw [e5] at k
        refine x_if_eq (32) d_Wa_fitting_23 (by decide) (fun g2 => ?_) (fun g2 => ?_)
        · refine x_iincN d_Wa_fitting_32 rfl (by decide) (by omega) (by omega) ?_
          dsimp only [x_st1, x_st2, x_kill, List.set, List.getElem?_cons_zero, List.getElem?_cons_succ]
          refine x_goto (4) d_Wa_fitting_35 (by decide) ?_
          exact k
        · exact absurd rfl g2
theorem c_countMarked (hh : Hwf h) (r : fRep h G) {pl : Int} (w : wM h pl G) (p m : Nat) (hp : p < h.2 0) (hm : m ≤ 20) : x_M y_Wa_countMarked [oWa, xI (f_ft h pl 5), xI (p : Int), xI (m : Int)] (S0, G) (x_is (.inl (some (xI (f_cn h pl m p 5)))) (S0, G)) := by
  have b := hh.1
  refine x_of 2 rfl (Nat.le_of_ble_eq_true rfl) ?_
  show x_A y_Wa_countMarked 0 [some oWa, some (xI (f_ft h pl 5)), some (xI (p : Int)), some (xI (m : Int)), none, none] [] (S0, G) 0 0 _
  generalize hQ : x_is (.inl (some (xI (f_cn h pl m p 5)))) (S0, G) = Q
  refine x_iconst (0) d_Wa_countMarked_0 rfl ⟨by decide, by decide⟩ ?_
  refine x_istore d_Wa_countMarked_1 (by decide) ?_
  dsimp only [x_st1, x_st2, x_kill, List.set, List.getElem?_cons_zero, List.getElem?_cons_succ]
  refine x_iconst (0) d_Wa_countMarked_3 rfl ⟨by decide, by decide⟩ ?_
  refine x_istore d_Wa_countMarked_4 (by decide) ?_
  dsimp only [x_st1, x_st2, x_kill, List.set, List.getElem?_cons_zero, List.getElem?_cons_succ]
  refine x_up_to (P := fun f => x_A y_Wa_countMarked 6 [some oWa, some (xI (f_ft h pl 5)), some (xI (p : Int)), some (xI (m : Int)), some (xI (f_cn h pl m p f)), some (xI (f : Int))] [] (S0, G) 0 0 Q) 0 5 (Nat.zero_le _) ?_ (fun f _ hf k => ?_)
  · refine x_iload d_Wa_countMarked_6 rfl ?_
    refine x_iconst (4) d_Wa_countMarked_8 rfl ⟨by decide, by decide⟩ ?_
    refine x_icmp_gt (49) d_Wa_countMarked_9 (by decide) (fun g => ?_) (fun g => ?_)
    · refine x_iload d_Wa_countMarked_49 rfl ?_
      refine x_ireturn d_Wa_countMarked_51 rfl ?_ (Nat.zero_le _) (Nat.zero_le _)
      rw [← hQ]
      exact ⟨rfl, rfl⟩
    · omega
  · have e1 : f_cn h pl m p (f + 1) = f_cn h pl m p f + if okR h pl f ∧ mkB h pl f m p = true then 1 else 0 := rfl
    have bc := f_cn_bd h pl m p f
    rw [e1] at k
    have fb := f_ft_bit h pl (n := 5) (by omega) (b := f) (by omega)
    rw [decide_eq_true hf, Bool.true_and] at fb
    refine x_iload d_Wa_countMarked_6 rfl ?_
    refine x_iconst (4) d_Wa_countMarked_8 rfl ⟨by decide, by decide⟩ ?_
    refine x_icmp_gt (49) d_Wa_countMarked_9 (by decide) (fun g => ?_) (fun g => ?_)
    · omega
    · refine x_iload_n d_Wa_countMarked_12 rfl rfl ?_
      refine x_iload d_Wa_countMarked_13 rfl ?_
      refine x_ishr d_Wa_countMarked_15 ?_
      refine x_iconst (1) d_Wa_countMarked_16 rfl ⟨by decide, by decide⟩ ?_
      refine x_iand d_Wa_countMarked_17 ?_
      refine x_iconst (1) d_Wa_countMarked_18 rfl ⟨by decide, by decide⟩ ?_
      rw [x_and1, xb_shr _ (by omega), fb]
      by_cases q : okR h pl f
      · rw [decide_eq_true q]
        have eb := w.bit hh (fi := f) (m := m) (p := p) q.1 hm hp
        have bb : (if mkB h pl f m p = true then (1 : Int) else 0) = 1 ∨ (if mkB h pl f m p = true then (1 : Int) else 0) = 0 := by split <;> simp
        rw [show (if okR h pl f ∧ mkB h pl f m p = true then (1 : Int) else 0) = if mkB h pl f m p = true then 1 else 0 from by
          cases mkB h pl f m p
          · rw [if_neg (by simp), if_neg (by simp)]
          · rw [if_pos ⟨q, rfl⟩, if_pos rfl]] at k
        refine x_icmp_ne (43) d_Wa_countMarked_19 (by decide) (fun g2 => ?_) (fun g2 => ?_)
        · exact absurd rfl g2
        · refine x_iload d_Wa_countMarked_22 rfl ?_
          refine x_aload_n d_Wa_countMarked_24 rfl rfl ?_
          refine x_getF (kf := 2) d_Wa_countMarked_25 rfl rfl rfl in_Wa f_Wa_9 ?_
          refine x_iload d_Wa_countMarked_28 rfl ?_
          refine x_bipush (21) d_Wa_countMarked_30 rfl ⟨by decide, by decide⟩ ?_
          refine x_imulN d_Wa_countMarked_32 (by omega) (by omega) ?_
          refine x_iload_n d_Wa_countMarked_33 rfl rfl ?_
          refine x_iaddN d_Wa_countMarked_34 (by omega) (by omega) ?_
          refine x_ialdN ((21 * f + m)) d_Wa_countMarked_35 rfl (by omega) (by omega) ?_
          refine x_iload_n d_Wa_countMarked_36 rfl rfl ?_
          refine x_ishr d_Wa_countMarked_37 ?_
          refine x_iconst (1) d_Wa_countMarked_38 rfl ⟨by decide, by decide⟩ ?_
          refine x_iand d_Wa_countMarked_39 ?_
          rw [x_and1, xb_shr _ (by omega), eb]
          refine x_iaddN d_Wa_countMarked_40 (by omega) (by omega) ?_
          refine x_istore d_Wa_countMarked_41 (by decide) ?_
          dsimp only [x_st1, x_st2, x_kill, List.set, List.getElem?_cons_zero, List.getElem?_cons_succ]
          refine x_iincN d_Wa_countMarked_43 rfl (by decide) (by omega) (by omega) ?_
          dsimp only [x_st1, x_st2, x_kill, List.set, List.getElem?_cons_zero, List.getElem?_cons_succ]
          refine x_goto (6) d_Wa_countMarked_46 (by decide) ?_
          exact k
      · rw [decide_eq_false q]
        rw [if_neg (fun z => q z.1), Int.add_zero] at k
        refine x_icmp_ne (43) d_Wa_countMarked_19 (by decide) (fun g2 => ?_) (fun g2 => ?_)
        · refine x_iincN d_Wa_countMarked_43 rfl (by decide) (by omega) (by omega) ?_
          dsimp only [x_st1, x_st2, x_kill, List.set, List.getElem?_cons_zero, List.getElem?_cons_succ]
          refine x_goto (6) d_Wa_countMarked_46 (by decide) ?_
          exact k
        · exact absurd g2 (by decide)
end CWf
