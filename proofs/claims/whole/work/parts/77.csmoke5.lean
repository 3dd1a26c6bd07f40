/-! the class: step, follow -/
section CF
variable {h : HH} {G : Nat → Nat → Int}
def mStepped (h : HH) (c : CC) (m : Nat) (s : SS) (G : Nat → Nat → Int) : Option XV → XM → Prop := fun v τ => v = none ∧ ∃ G', τ = (S0, G') ∧
  (∀ i, i ≠ sm_leftAbove → i ≠ sm_leftMixed → i ≠ sm_shares → i ≠ sm_totals → i ≠ sm_above → i ≠ sm_mixed → i ≠ o_Sm → G' i = G i) ∧ (∀ k, k ≠ 12 → G' o_Sm k = G o_Sm k) ∧
  (∀ j, j < 8 * (m + 1) → G' sm_above j = G sm_above j ∧ G' sm_mixed j = G sm_mixed j) ∧ (∀ q, q < 8 → G' sm_above (8 * (m + 1) + q) = (sk_step h c m s).1 q ∧ G' sm_mixed (8 * (m + 1) + q) = (sk_step h c m s).2.1 q) ∧
  (∀ j, 8 * (m + 2) ≤ j → j < 168 → G' sm_above j = 0 ∧ G' sm_mixed j = 0) ∧ (∀ j, j < 3 * (m + 1) → G' sm_totals j = G sm_totals j) ∧
  G' sm_totals (3 * (m + 1)) = (sk_step h c m s).2.2.2.1 ∧ G' sm_totals (3 * (m + 1) + 1) = (sk_step h c m s).2.2.2.2.1 ∧ G' sm_totals (3 * (m + 1) + 2) = (sk_step h c m s).2.2.2.2.2
theorem c_step (hh : Hwf h) (r : fRep h G) (c : CC) (hc : -1 ≤ c.2.2.2 ∧ c.2.2.2 < h.2 2) (m : Nat) (hm : m < 20) (bu : Int) (hbu : c.2.2.2 ≠ -1 → bu = h.1 2 c.2.2.2.toNat 0)
    (hs : ∀ q, q < 8 → G sm_above (8 * m + q) = (sk h c m).1 q ∧ G sm_mixed (8 * m + q) = (sk h c m).2.1 q) (hz : ∀ j, 8 * (m + 1) ≤ j → j < 168 → G sm_above j = 0 ∧ G sm_mixed j = 0) (hai : ∀ w, w < h.2 1 → G sm_airs (12 * m + w) = sk_ai h c m (sk h c m) w)
    (ht : G sm_totals (3 * m) = (sk h c m).2.2.2.1 ∧ G sm_totals (3 * m + 1) = (sk h c m).2.2.2.2.1 ∧ G sm_totals (3 * m + 2) = (sk h c m).2.2.2.2.2) :
    x_M y_Sm_step [oSm, xI (m : Int), xI bu, xI (f_gives h c.2.2.2 m)] (S0, G) (fun r τ => ∃ v, r = .inl v ∧ mStepped h c m (sk h c m) G v τ) := by
  have b := hh.1
  obtain ⟨l1, l2, l3, l4⟩ := sk_le hh hc (m := m) (by omega)
  have hgv := f_gives_bd hh hc m
  obtain ⟨t1, t2, t3⟩ := ht
  have aib : ∀ w, -12 ≤ sk_ai h c m (sk h c m) w ∧ sk_ai h c m (sk h c m) w ≤ 12 := fun w => by unfold sk_ai f_air; omega
  have hab : ∀ p, 0 ≤ sk_a h c m (sk h c m) p ∧ sk_a h c m (sk h c m) p ≤ 2100000 := fun p => by
    have := sk_a_bd hh hc m (s := sk h c m) (fun q => (l1 q).1) p
    have := l1 p
    omega
  have hxb : ∀ p, 0 ≤ (sk h c m).2.1 p ∧ (sk h c m).2.1 p ≤ 2100000 := fun p => by have := l1 p; omega
  have ha : ∀ p, p < h.2 0 → sk_a h c m (sk h c m) p = G sm_above (8 * m + p) + (if (p : Int) = bu then f_gives h c.2.2.2 m else 0) := fun p hp => by
    unfold sk_a
    rw [(hs p (by omega)).1]
    by_cases e : c.2.2.2 = -1
    · rw [if_neg (fun z => z.1 e), show f_gives h c.2.2.2 m = 0 from by unfold f_gives; rw [if_pos (Or.inl e)]]
      split <;> rfl
    · rw [hbu e]
      by_cases e2 : h.1 2 c.2.2.2.toNat 0 = p
      · rw [if_pos ⟨e, e2⟩, if_pos e2.symm]
      · rw [if_neg (fun z => e2 z.2), if_neg (fun z => e2 z.symm)]
  have e9 : sk_step h c m (sk h c m) = (sk_DA h (sk_ai h c m (sk h c m)) (sk_a h c m (sk h c m)) 0 (h.2 0),
   fun q => sk_DM h (sk_ai h c m (sk h c m)) (sk_a h c m (sk h c m)) (sk h c m).2.1 0 (h.2 0) q - (if q < h.2 0 then sk_wash h m (sk_DM h (sk_ai h c m (sk h c m)) (sk_a h c m (sk h c m)) (sk h c m).2.1 0 (h.2 0)) q else 0),
   sk_lost h (sk h c m).1 (m + 1) (sk h c m).2.2.1,
   (sk h c m).2.2.2.1 + f_gives h c.2.2.2 m,
   (sk h c m).2.2.2.2.1 + sk_go h (sk_ai h c m (sk h c m)) (sk_a h c m (sk h c m)) (sk h c m).2.1 (h.2 0),
   (sk h c m).2.2.2.2.2 + su (sk_wash h m (sk_DM h (sk_ai h c m (sk h c m)) (sk_a h c m (sk h c m)) (sk h c m).2.1 0 (h.2 0))) (h.2 0)) := rfl
  refine x_of 4 rfl (Nat.le_of_ble_eq_true rfl) ?_
  show x_A y_Sm_step 0 [some oSm, some (xI (m : Int)), some (xI bu), some (xI (f_gives h c.2.2.2 m)), none, none, none, none] [] (S0, G) 0 0 _
  unfold mStepped
  rw [e9]
  generalize hai' : sk_ai h c m (sk h c m) = ai at *
  generalize haa : sk_a h c m (sk h c m) = a at *
  generalize hxx : (sk h c m).2.1 = x at *
  generalize hMI : sk_DM h ai a x 0 (h.2 0) = MI
  generalize hQ : (fun (r : XRes) (τ : XM) => ∃ v, r = .inl v ∧ _) = Q
  have bMI : ∀ q, 0 ≤ MI q ∧ MI q ≤ 33600000 := fun q => by
    have := sk_DM_bd h ai (a := a) (x := x) (B := 2100000) hab hxb 0 (h.2 0) q
    rw [hMI] at this
    have : (h.2 0 : Int) * (2 * 2100000) ≤ 8 * (2 * 2100000) := by omega
    omega
  refine x_aload_n d_Sm_step_0 rfl rfl ?_
  refine x_iload_n d_Sm_step_1 rfl rfl ?_
  refine x_iload_n d_Sm_step_2 rfl rfl ?_
  refine x_iload_n d_Sm_step_3 rfl rfl ?_
  refine x_VQ d_Sm_step_4 e_Sm_step_Sm_begin ⟨rfl, rfl, Nat.zero_le _, Nat.zero_le _⟩ rfl rfl rfl rfl (Nat.le_of_ble_eq_true rfl) (c_sbegin hh r m bu (f_gives h c.2.2.2 m) a hm hgv (by omega) (fun p hp => by have := hs p hp; have := l1 p; omega) ha) (fun v τ hv => ?_)
  obtain ⟨rfl, G1, rfl, f1, f2, f3, f4, f5, f6, f7, f8⟩ := hv
  show x_A y_Sm_step 7 [some oSm, some (xI (m : Int)), some (xI bu), some (xI (f_gives h c.2.2.2 m)), none, none, none, none] [] (S0, G1) 0 0 Q
  have r1 : fRep h G1 := r.same (fun i h1 h2 => f1 i (by simp only [sm_leftAbove]; omega) (by simp only [sm_leftMixed]; omega) (by simp only [sm_shares]; omega) (by simp only [sm_totals]; omega) (by simp only [o_Sm]; omega))
  have eA1 := f1 sm_above (by decide) (by decide) (by decide) (by decide) (by decide)
  have eM1 := f1 sm_mixed (by decide) (by decide) (by decide) (by decide) (by decide)
  have eI1 := f1 sm_airs (by decide) (by decide) (by decide) (by decide) (by decide)
  have hz1 : ∀ j, 8 * (m + 1) ≤ j → j < 168 → G1 sm_above j = 0 ∧ G1 sm_mixed j = 0 := fun j j1 j2 => by rw [eA1, eM1]; exact hz j j1 j2
  have hmx1 : ∀ p, p < h.2 0 → G1 sm_mixed (8 * m + p) = x p := fun p hp => by rw [eM1]; exact (hs p (by omega)).2
  have hsh1 : ∀ p, p < h.2 0 → G1 sm_shares p = a p / 8 := fun p hp => (f4 p hp).2.2
  have hT1 : 0 ≤ G1 sm_totals (3 * (m + 1) + 1) ∧ G1 sm_totals (3 * (m + 1) + 1) ≤ 10000000 := by rw [f7, t2]; omega
  have washes : ∀ G2 G3, wI h ai a x m (h.2 1) G1 G2 → sI h ai a x m (h.2 0) G2 G3 → x_A y_Sm_step 162 [some oSm, some (xI (m : Int)), none, none, some (xI ((0 : Nat) : Int)), none, none, none] [] (S0, G3) 0 0 Q := by
    intro G2 G3 hI hJ
    obtain ⟨i1, i2, i3, i4, i5⟩ := hI
    obtain ⟨j1, j2, j3, j4, j5⟩ := hJ
    have r3 : fRep h G3 := r1.same (fun i h1 h2 => by
      rw [j1 i (by simp only [sm_leftAbove]; omega) (by simp only [sm_leftMixed]; omega) (by simp only [sm_above]; omega) (by simp only [sm_mixed]; omega) (by simp only [sm_totals]; omega), i1 i (by simp only [sm_leftAbove]; omega) (by simp only [sm_leftMixed]; omega) (by simp only [sm_above]; omega) (by simp only [sm_mixed]; omega) (by simp only [o_Sm]; omega)])
    have vA : ∀ j, G3 sm_above j = G1 sm_above j + sk_DA h ai a (8 * (m + 1)) (h.2 0) j := fun j => by rw [j4, i4, sk_DA_su]; omega
    have vM : ∀ j, G3 sm_mixed j = G1 sm_mixed j + sk_DM h ai a x (8 * (m + 1)) (h.2 0) j := fun j => by rw [j5, i5, sk_DM_su]; omega
    have vMI : ∀ q, q < 8 → G3 sm_mixed (8 * (m + 1) + q) = MI q := fun q hq => by rw [vM, (hz1 _ (by omega) (by omega)).2, sk_DM_t, hMI]; omega
    have vAI : ∀ q, q < 8 → G3 sm_above (8 * (m + 1) + q) = sk_DA h ai a 0 (h.2 0) q := fun q hq => by rw [vA, (hz1 _ (by omega) (by omega)).1, sk_DA_t]; omega
    have lowA : ∀ j, (j < 8 * (m + 1) ∨ 8 * (m + 1) + h.2 0 ≤ j) → G3 sm_above j = G sm_above j ∧ G3 sm_mixed j = G sm_mixed j := fun j hj => by
      rw [vA, vM, sk_DA_o hh ai a (8 * (m + 1)) (Nat.le_refl _) hj, sk_DM_o hh ai a x (8 * (m + 1)) (Nat.le_refl _) hj, eA1, eM1]; omega
    have eT3 : ∀ j, G3 sm_totals j = G1 sm_totals j + pt (3 * (m + 1) + 1) (sk_go h ai a x (h.2 0)) j := fun j => by rw [j3, i1 sm_totals (by decide) (by decide) (by decide) (by decide) (by decide)]
    have T0 : G3 sm_totals (3 * (m + 1) + 2) = (sk h c m).2.2.2.2.2 := by rw [eT3, f8, t3]; unfold pt; rw [if_neg (by omega)]; omega
    refine x_up_to (P := fun n => ∀ G', (∀ i, i ≠ sm_mixed → i ≠ sm_totals → G' i = G3 i) → (∀ j, G' sm_mixed j = G3 sm_mixed j - (if 8 * (m + 1) ≤ j ∧ j < 8 * (m + 1) + n then sk_wash h m MI (j - 8 * (m + 1)) else 0)) → (∀ j, G' sm_totals j = G3 sm_totals j + pt (3 * (m + 1) + 2) (su (sk_wash h m MI) n) j) → x_A y_Sm_step 162 [some oSm, some (xI (m : Int)), none, none, some (xI (n : Int)), none, none, none] [] (S0, G') 0 0 Q) 0 (h.2 0) (Nat.zero_le _) (fun G' g1 g2 g3 => ?_) (fun n _ hn k G' g1 g2 g3 => ?_) G3 (fun _ _ _ => rfl) (fun j => by rw [if_neg (by omega)]; omega) (fun j => by show _ = _ + pt _ 0 j; rw [pt_0]; omega)
    · have r4 : fRep h G' := r3.same (fun i h1 h2 => g1 i (by simp only [sm_mixed]; omega) (by simp only [sm_totals]; omega))
      refine x_iload d_Sm_step_162 rfl ?_
      refine x_aload_n d_Sm_step_164 rfl rfl ?_
      refine x_getF (kf := 0) d_Sm_step_165 rfl rfl rfl in_Sm f_Sm_46 ?_
      refine x_getF (kf := 0) d_Sm_step_168 rfl rfl rfl in_Ho f_Sm_113 ?_
      refine x_V1 d_Sm_step_171 e_Sm_step_Ta_size ⟨rfl, rfl, Nat.zero_le _, Nat.zero_le _⟩ rfl rfl rfl rfl (Nat.le_of_ble_eq_true rfl) (k_size r4 0 (by decide)) ?_
      refine x_icmp_ge (211) d_Sm_step_174 (by decide) (fun g => ?_) (fun g => ?_)
      · refine x_return d_Sm_step_211 rfl ?_ (Nat.zero_le _) (Nat.zero_le _)
        rw [← hQ]
        refine ⟨none, rfl, rfl, G', rfl, fun i z1 z2 z3 z4 z5 z6 z7 => ?_, fun q hq => ?_, fun j hj => ?_, fun q hq => ?_, fun j y1 y2 => ?_, fun j hj => ?_, ?_, ?_, ?_⟩
        · rw [g1 i z6 z4, j1 i z1 z2 z5 z6 z4, i1 i z1 z2 z5 z6 z7, f1 i z1 z2 z3 z4 z7]
        · rw [g1 o_Sm (by decide) (by decide), j1 o_Sm (by decide) (by decide) (by decide) (by decide) (by decide), i2 q hq, f2 q hq]
        · rw [g1 sm_above (by decide) (by decide), g2, if_neg (by omega)]
          obtain ⟨w1, w2⟩ := lowA j (Or.inl hj)
          exact ⟨w1, by omega⟩
        · rw [g1 sm_above (by decide) (by decide), g2, vAI q hq, vMI q hq, Nat.add_sub_cancel_left]
          refine ⟨rfl, ?_⟩
          dsimp only
          by_cases e : q < h.2 0
          · rw [if_pos (by omega), if_pos e]
          · rw [if_neg (by omega), if_neg e]
        · rw [g1 sm_above (by decide) (by decide), g2, if_neg (by omega)]
          obtain ⟨w1, w2⟩ := lowA j (Or.inr (by omega))
          have := hz j (by omega) y2
          omega
        · rw [g3, eT3, f5 j (Or.inl hj)]
          unfold pt
          rw [if_neg (by omega), if_neg (by omega)]; omega
        · rw [g3, eT3, f6, t1]
          unfold pt
          rw [if_neg (by omega), if_neg (by omega)]
          dsimp only; omega
        · rw [g3, eT3, f7, t2]
          unfold pt
          rw [if_pos rfl, if_neg (by omega)]
          dsimp only; omega
        · rw [g3, T0]
          unfold pt
          rw [if_pos rfl]
      · omega
    · have r4 : fRep h G' := r3.same (fun i h1 h2 => g1 i (by simp only [sm_mixed]; omega) (by simp only [sm_totals]; omega))
      have bn := hh.2.1 n hn
      have sw : su (sk_wash h m MI) (n + 1) = su (sk_wash h m MI) n + (if h.1 0 n 2 ≤ (m : Int) + 1 then MI n / 4 else 0) := rfl
      have wn : sk_wash h m MI n = if h.1 0 n 2 ≤ (m : Int) + 1 then MI n / 4 else 0 := rfl
      have mn : G' sm_mixed (8 * (m + 1) + n) = MI n := by rw [g2, if_neg (by omega), vMI n (by omega)]; omega
      have bsw := su_bd (f := sk_wash h m MI) (c := 0) (d := 33600000) (n := n) (fun i hi => by have := bMI i; unfold sk_wash; split <;> omega)
      have tn := g3 (3 * (m + 1) + 2)
      rw [T0] at tn
      have ptn : pt (3 * (m + 1) + 2) (su (sk_wash h m MI) n) (3 * (m + 1) + 2) = su (sk_wash h m MI) n := by unfold pt; rw [if_pos rfl]
      have bMn := bMI n
      refine x_iload d_Sm_step_162 rfl ?_
      refine x_aload_n d_Sm_step_164 rfl rfl ?_
      refine x_getF (kf := 0) d_Sm_step_165 rfl rfl rfl in_Sm f_Sm_46 ?_
      refine x_getF (kf := 0) d_Sm_step_168 rfl rfl rfl in_Ho f_Sm_113 ?_
      refine x_V1 d_Sm_step_171 e_Sm_step_Ta_size ⟨rfl, rfl, Nat.zero_le _, Nat.zero_le _⟩ rfl rfl rfl rfl (Nat.le_of_ble_eq_true rfl) (k_size r4 0 (by decide)) ?_
      refine x_icmp_ge (211) d_Sm_step_174 (by decide) (fun g => ?_) (fun g => ?_)
      · omega
      · refine x_iload_n d_Sm_step_177 rfl rfl ?_
        refine x_iconst (1) d_Sm_step_178 rfl ⟨by decide, by decide⟩ ?_
        refine x_iaddN d_Sm_step_179 (by omega) (by omega) ?_
        refine x_aload_n d_Sm_step_180 rfl rfl ?_
        refine x_getF (kf := 0) d_Sm_step_181 rfl rfl rfl in_Sm f_Sm_46 ?_
        refine x_getF (kf := 0) d_Sm_step_184 rfl rfl rfl in_Ho f_Sm_113 ?_
        refine x_iload d_Sm_step_187 rfl ?_
        refine x_iconst (2) d_Sm_step_189 rfl ⟨by decide, by decide⟩ ?_
        refine x_V1 d_Sm_step_190 e_Sm_step_Ta_at ⟨rfl, rfl, Nat.zero_le _, Nat.zero_le _⟩ rfl rfl rfl rfl (Nat.le_of_ble_eq_true rfl) (k_at hh r4 0 n 2 (by decide) hn (by decide) rfl rfl) ?_
        refine x_icmp_lt (205) d_Sm_step_193 (by decide) (fun g4 => ?_) (fun g4 => ?_)
        · refine x_iincN d_Sm_step_205 rfl (by decide) (by omega) (by omega) ?_
          dsimp only [x_st1, x_st2, x_kill, List.set, List.getElem?_cons_zero, List.getElem?_cons_succ]
          refine x_goto (162) d_Sm_step_208 (by decide) ?_
          rw [if_neg (by omega), Int.add_zero] at sw
          rw [if_neg (by omega)] at wn
          refine k G' g1 (fun j => ?_) (fun j => by rw [sw]; exact g3 j)
          rw [g2]
          by_cases e : j = 8 * (m + 1) + n
          · subst e
            rw [if_neg (by omega), if_pos (by omega), Nat.add_sub_cancel_left, wn]
          · by_cases e2 : 8 * (m + 1) ≤ j ∧ j < 8 * (m + 1) + n
            · rw [if_pos e2, if_pos (by omega)]
            · rw [if_neg e2, if_neg (by omega)]
        · refine x_aload_n d_Sm_step_196 rfl rfl ?_
          refine x_iload_n d_Sm_step_197 rfl rfl ?_
          refine x_iconst (1) d_Sm_step_198 rfl ⟨by decide, by decide⟩ ?_
          refine x_iaddN d_Sm_step_199 (by omega) (by omega) ?_
          refine x_iload d_Sm_step_200 rfl ?_
          rw [if_pos (by omega)] at sw wn
          rw [show (m : Int) + 1 = ((m + 1 : Nat) : Int) by omega]
          refine x_V0 d_Sm_step_202 e_Sm_step_Sm_wash ⟨rfl, rfl, Nat.zero_le _, Nat.zero_le _⟩ rfl rfl rfl rfl (Nat.le_of_ble_eq_true rfl) (c_wash (m + 1) n (by omega) (by omega) mn (by omega) (by omega)) ?_
          refine x_iincN d_Sm_step_205 rfl (by decide) (by omega) (by omega) ?_
          dsimp only [x_st1, x_st2, x_kill, List.set, List.getElem?_cons_zero, List.getElem?_cons_succ]
          refine x_goto (162) d_Sm_step_208 (by decide) ?_
          refine k _ (fun i y1 y2 => by rw [up_cell y2, up_cell y1]; exact g1 i y1 y2) (fun j => ?_) (fun j => ?_)
          · rw [up_cell (by decide)]
            by_cases e : j = 8 * (m + 1) + n
            · subst e
              rw [up_same, if_pos (by omega), Nat.add_sub_cancel_left, wn, vMI n (by omega)]
            · rw [up_ne e, g2]
              by_cases e2 : 8 * (m + 1) ≤ j ∧ j < 8 * (m + 1) + n
              · rw [if_pos e2, if_pos (by omega)]
              · rw [if_neg e2, if_neg (by omega)]
          · by_cases e : j = 3 * (m + 1) + 2
            · subst e
              rw [up_same, T0, sw]
              rw [tn, ptn]
              unfold pt
              rw [if_pos rfl]; omega
            · rw [up_ne e, up_cell (by decide), g3]
              unfold pt
              rw [if_neg e, if_neg e]
  have settles : ∀ G2, wI h ai a x m (h.2 1) G1 G2 → x_A y_Sm_step 131 [some oSm, some (xI (m : Int)), none, none, some (xI ((0 : Nat) : Int)), none, none, none] [] (S0, G2) 0 0 Q := by
    intro G2 hI
    refine x_up_to (P := fun n => ∀ G', sI h ai a x m n G2 G' → x_A y_Sm_step 131 [some oSm, some (xI (m : Int)), none, none, some (xI (n : Int)), none, none, none] [] (S0, G') 0 0 Q) 0 (h.2 0) (Nat.zero_le _) (fun G' hJ => ?_) (fun n _ hn k G' hJ => ?_) G2 ⟨fun _ _ _ _ _ _ => rfl, fun _ _ => ⟨rfl, rfl⟩, fun j => by show _ = _ + pt _ 0 j; rw [pt_0]; omega, fun j => by show _ = _ + (0 : Int); omega, fun j => by show _ = _ + (0 : Int); omega⟩
    · have r4 : fRep h G' := r1.same (fun i h1 h2 => by
        rw [hJ.1 i (by simp only [sm_leftAbove]; omega) (by simp only [sm_leftMixed]; omega) (by simp only [sm_above]; omega) (by simp only [sm_mixed]; omega) (by simp only [sm_totals]; omega), hI.1 i (by simp only [sm_leftAbove]; omega) (by simp only [sm_leftMixed]; omega) (by simp only [sm_above]; omega) (by simp only [sm_mixed]; omega) (by simp only [o_Sm]; omega)])
      refine x_iload d_Sm_step_131 rfl ?_
      refine x_aload_n d_Sm_step_133 rfl rfl ?_
      refine x_getF (kf := 0) d_Sm_step_134 rfl rfl rfl in_Sm f_Sm_46 ?_
      refine x_getF (kf := 0) d_Sm_step_137 rfl rfl rfl in_Ho f_Sm_113 ?_
      refine x_V1 d_Sm_step_140 e_Sm_step_Ta_size ⟨rfl, rfl, Nat.zero_le _, Nat.zero_le _⟩ rfl rfl rfl rfl (Nat.le_of_ble_eq_true rfl) (k_size r4 0 (by decide)) ?_
      refine x_icmp_ge (159) d_Sm_step_143 (by decide) (fun g => ?_) (fun g => ?_)
      · refine x_iconst (0) d_Sm_step_159 rfl ⟨by decide, by decide⟩ ?_
        refine x_istore d_Sm_step_160 (by decide) ?_
        dsimp only [x_st1, x_st2, x_kill, List.set, List.getElem?_cons_zero, List.getElem?_cons_succ]
        exact washes G2 G' hI hJ
      · omega
    · have r4 : fRep h G' := r1.same (fun i h1 h2 => by
        rw [hJ.1 i (by simp only [sm_leftAbove]; omega) (by simp only [sm_leftMixed]; omega) (by simp only [sm_above]; omega) (by simp only [sm_mixed]; omega) (by simp only [sm_totals]; omega), hI.1 i (by simp only [sm_leftAbove]; omega) (by simp only [sm_leftMixed]; omega) (by simp only [sm_above]; omega) (by simp only [sm_mixed]; omega) (by simp only [o_Sm]; omega)])
      refine x_iload d_Sm_step_131 rfl ?_
      refine x_aload_n d_Sm_step_133 rfl rfl ?_
      refine x_getF (kf := 0) d_Sm_step_134 rfl rfl rfl in_Sm f_Sm_46 ?_
      refine x_getF (kf := 0) d_Sm_step_137 rfl rfl rfl in_Ho f_Sm_113 ?_
      refine x_V1 d_Sm_step_140 e_Sm_step_Ta_size ⟨rfl, rfl, Nat.zero_le _, Nat.zero_le _⟩ rfl rfl rfl rfl (Nat.le_of_ble_eq_true rfl) (k_size r4 0 (by decide)) ?_
      refine x_icmp_ge (159) d_Sm_step_143 (by decide) (fun g => ?_) (fun g => ?_)
      · omega
      · refine sI_s hh r1 hm hn hab hxb hsh1 hz1 hmx1 hT1 (fun _ _ _ => rfl) hI hJ rfl (fun G3 hJ3 => ?_)
        refine x_iincN d_Sm_step_153 rfl (by decide) (by omega) (by omega) ?_
        dsimp only [x_st1, x_st2, x_kill, List.set, List.getElem?_cons_zero, List.getElem?_cons_succ]
        refine x_goto (131) d_Sm_step_156 (by decide) ?_
        exact k G3 hJ3
  refine x_iconst (0) d_Sm_step_7 rfl ⟨by decide, by decide⟩ ?_
  refine x_istore d_Sm_step_8 (by decide) ?_
  dsimp only [x_st1, x_st2, x_kill, List.set, List.getElem?_cons_zero, List.getElem?_cons_succ]
  have ways : ∀ G', wI h ai a x m 0 G1 G' → x_A y_Sm_step 10 [some oSm, some (xI (m : Int)), none, none, some (xI ((0 : Nat) : Int)), none, none, none] [] (S0, G') 0 0 Q := by
    refine x_up_to (P := fun w => ∀ G', wI h ai a x m w G1 G' → x_A y_Sm_step 10 [some oSm, some (xI (m : Int)), none, none, some (xI (w : Int)), none, none, none] [] (S0, G') 0 0 Q) 0 (h.2 1) (Nat.zero_le _) (fun G' hI => ?_) (fun w _ hw k G' hI => ?_)
    · have r4 : fRep h G' := r1.same (fun i h1 h2 => hI.1 i (by simp only [sm_leftAbove]; omega) (by simp only [sm_leftMixed]; omega) (by simp only [sm_above]; omega) (by simp only [sm_mixed]; omega) (by simp only [o_Sm]; omega))
      refine x_iload d_Sm_step_10 rfl ?_
      refine x_aload_n d_Sm_step_12 rfl rfl ?_
      refine x_getF (kf := 0) d_Sm_step_13 rfl rfl rfl in_Sm f_Sm_46 ?_
      refine x_getF (kf := 1) d_Sm_step_16 rfl rfl rfl in_Ho f_Sm_139 ?_
      refine x_V1 d_Sm_step_19 e_Sm_step_Ta_size ⟨rfl, rfl, Nat.zero_le _, Nat.zero_le _⟩ rfl rfl rfl rfl (Nat.le_of_ble_eq_true rfl) (k_size r4 1 (by decide)) ?_
      refine x_icmp_ge (128) d_Sm_step_22 (by decide) (fun g => ?_) (fun g => ?_)
      · refine x_iconst (0) d_Sm_step_128 rfl ⟨by decide, by decide⟩ ?_
        refine x_istore d_Sm_step_129 (by decide) ?_
        dsimp only [x_st1, x_st2, x_kill, List.set, List.getElem?_cons_zero, List.getElem?_cons_succ]
        exact settles G' hI
      · omega
    · have r4 : fRep h G' := r1.same (fun i h1 h2 => hI.1 i (by simp only [sm_leftAbove]; omega) (by simp only [sm_leftMixed]; omega) (by simp only [sm_above]; omega) (by simp only [sm_mixed]; omega) (by simp only [o_Sm]; omega))
      have bw := hh.2.2.1 w hw
      obtain ⟨A, eA⟩ : ∃ A : Nat, h.1 1 w 0 = (A : Int) := ⟨(h.1 1 w 0).toNat, by omega⟩
      obtain ⟨B, eB⟩ : ∃ B : Nat, h.1 1 w 1 = (B : Int) := ⟨(h.1 1 w 1).toNat, by omega⟩
      have ew : G' sm_airs (12 * m + w) = ai w := by rw [hI.1 sm_airs (by decide) (by decide) (by decide) (by decide) (by decide), eI1]; exact hai w hw
      refine x_iload d_Sm_step_10 rfl ?_
      refine x_aload_n d_Sm_step_12 rfl rfl ?_
      refine x_getF (kf := 0) d_Sm_step_13 rfl rfl rfl in_Sm f_Sm_46 ?_
      refine x_getF (kf := 1) d_Sm_step_16 rfl rfl rfl in_Ho f_Sm_139 ?_
      refine x_V1 d_Sm_step_19 e_Sm_step_Ta_size ⟨rfl, rfl, Nat.zero_le _, Nat.zero_le _⟩ rfl rfl rfl rfl (Nat.le_of_ble_eq_true rfl) (k_size r4 1 (by decide)) ?_
      refine x_icmp_ge (128) d_Sm_step_22 (by decide) (fun g => ?_) (fun g => ?_)
      · omega
      · refine x_aload_n d_Sm_step_25 rfl rfl ?_
        refine x_getF (kf := 0) d_Sm_step_26 rfl rfl rfl in_Sm f_Sm_46 ?_
        refine x_getF (kf := 1) d_Sm_step_29 rfl rfl rfl in_Ho f_Sm_139 ?_
        refine x_iload d_Sm_step_32 rfl ?_
        refine x_iconst (0) d_Sm_step_34 rfl ⟨by decide, by decide⟩ ?_
        refine x_V1 d_Sm_step_35 e_Sm_step_Ta_at ⟨rfl, rfl, Nat.zero_le _, Nat.zero_le _⟩ rfl rfl rfl rfl (Nat.le_of_ble_eq_true rfl) (k_at hh r4 1 w 0 (by decide) hw (by decide) rfl rfl) ?_
        rw [eA]
        refine x_istore d_Sm_step_38 (by decide) ?_
        dsimp only [x_st1, x_st2, x_kill, List.set, List.getElem?_cons_zero, List.getElem?_cons_succ]
        refine x_aload_n d_Sm_step_40 rfl rfl ?_
        refine x_getF (kf := 0) d_Sm_step_41 rfl rfl rfl in_Sm f_Sm_46 ?_
        refine x_getF (kf := 1) d_Sm_step_44 rfl rfl rfl in_Ho f_Sm_139 ?_
        refine x_iload d_Sm_step_47 rfl ?_
        refine x_iconst (1) d_Sm_step_49 rfl ⟨by decide, by decide⟩ ?_
        refine x_V1 d_Sm_step_50 e_Sm_step_Ta_at ⟨rfl, rfl, Nat.zero_le _, Nat.zero_le _⟩ rfl rfl rfl rfl (Nat.le_of_ble_eq_true rfl) (k_at hh r4 1 w 1 (by decide) hw (by decide) rfl rfl) ?_
        rw [eB]
        refine x_istore d_Sm_step_53 (by decide) ?_
        dsimp only [x_st1, x_st2, x_kill, List.set, List.getElem?_cons_zero, List.getElem?_cons_succ]
        refine x_aload_n d_Sm_step_55 rfl rfl ?_
        refine x_getF (kf := 4) d_Sm_step_56 rfl rfl rfl in_Sm f_Sm_18 ?_
        refine x_iload_n d_Sm_step_59 rfl rfl ?_
        refine x_bipush (12) d_Sm_step_60 rfl ⟨by decide, by decide⟩ ?_
        refine x_imulN d_Sm_step_62 (by omega) (by omega) ?_
        refine x_iload d_Sm_step_63 rfl ?_
        refine x_iaddN d_Sm_step_65 (by omega) (by omega) ?_
        refine x_ialdN (12 * m + w) d_Sm_step_66 rfl (by omega) (by omega) ?_
        rw [ew]
        refine x_istore d_Sm_step_67 (by decide) ?_
        dsimp only [x_st1, x_st2, x_kill, List.set, List.getElem?_cons_zero, List.getElem?_cons_succ]
        refine x_aload_n d_Sm_step_69 rfl rfl ?_
        refine x_getF (kf := 0) d_Sm_step_70 rfl rfl rfl in_Sm f_Sm_46 ?_
        refine x_getF (kf := 0) d_Sm_step_73 rfl rfl rfl in_Ho f_Sm_113 ?_
        refine x_iload d_Sm_step_76 rfl ?_
        refine x_V1 d_Sm_step_78 e_Sm_step_Ta_has ⟨rfl, rfl, Nat.zero_le _, Nat.zero_le _⟩ rfl rfl rfl rfl (Nat.le_of_ble_eq_true rfl) (k_has r4 0 (by decide) (A)) ?_
        rw [decide_eq_true (by omega)]
        refine x_if_eq (122) d_Sm_step_81 (by decide) (fun g => ?_) (fun g => ?_)
        · cases g
        · refine x_aload_n d_Sm_step_84 rfl rfl ?_
          refine x_getF (kf := 0) d_Sm_step_85 rfl rfl rfl in_Sm f_Sm_46 ?_
          refine x_getF (kf := 0) d_Sm_step_88 rfl rfl rfl in_Ho f_Sm_113 ?_
          refine x_iload d_Sm_step_91 rfl ?_
          refine x_V1 d_Sm_step_93 e_Sm_step_Ta_has ⟨rfl, rfl, Nat.zero_le _, Nat.zero_le _⟩ rfl rfl rfl rfl (Nat.le_of_ble_eq_true rfl) (k_has r4 0 (by decide) (B)) ?_
          rw [decide_eq_true (by omega)]
          refine x_if_eq (122) d_Sm_step_96 (by decide) (fun g => ?_) (fun g => ?_)
          · cases g
          · refine wI_s hh hm hw (aib w) hab hxb hsh1 hz1 hmx1 eA eB hI rfl (fun G2 hI2 => ?_)
            refine x_iincN d_Sm_step_122 rfl (by decide) (by omega) (by omega) ?_
            dsimp only [x_st1, x_st2, x_kill, List.set, List.getElem?_cons_zero, List.getElem?_cons_succ]
            refine x_goto (10) d_Sm_step_125 (by decide) ?_
            have := k G2 hI2
            exact x_sub (fun j v hj => by
              match j, hj with
              | 0, hj => exact hj
              | 1, hj => exact hj
              | 2, hj => cases hj
              | 3, hj => cases hj
              | 4, hj => exact hj
              | 5, hj => cases hj
              | 6, hj => cases hj
              | 7, hj => cases hj
              | j + 8, hj => cases hj) this
  have w0 := ways G1 ⟨fun _ _ _ _ _ _ => rfl, fun _ _ => rfl, fun p hp => ⟨(f4 p hp).1, by rw [(f4 p hp).2.1]; exact (hs p (by omega)).2, by rw [f3]; exact xb_zero p⟩, fun j => by
      show _ = _ + su (fun _ => 0) _
      rw [su_zero]; omega, fun j => by
      show _ = _ + su (fun _ => 0) _
      rw [su_zero]; omega⟩
  exact x_sub (fun j v hj => by
    match j, hj with
    | 0, hj => exact hj
    | 1, hj => exact hj
    | 2, hj => cases hj
    | 3, hj => cases hj
    | 4, hj => exact hj
    | 5, hj => cases hj
    | 6, hj => cases hj
    | 7, hj => cases hj
    | j + 8, hj => cases hj) w0
/-- the class's memory holds the smoke of a course and a fire -/
def fSmoke (h : HH) (c : CC) (G : Nat → Nat → Int) : Prop :=
  (∀ m, m ≤ 20 → (∀ q, q < 8 → G sm_above (8 * m + q) = (sk h c m).1 q ∧ G sm_mixed (8 * m + q) = (sk h c m).2.1 q) ∧ (∀ w, w < h.2 1 → G sm_airs (12 * m + w) = f_air h (sk h c m).2.2.1 (f_plan c m) m w) ∧ G sm_totals (3 * m) = (sk h c m).2.2.2.1 ∧ G sm_totals (3 * m + 1) = (sk h c m).2.2.2.2.1 ∧ G sm_totals (3 * m + 2) = (sk h c m).2.2.2.2.2) ∧ ∀ f, f < 8 → G sm_lost f = (sk h c 20).2.2.1 f
/-- nothing but smoke is otherwise -/
def sFrame (G G' : Nat → Nat → Int) : Prop := ∀ i, (i < o_Sm ∨ sm_leftMixed < i) → G' i = G i
theorem sFrame.rep {G' : Nat → Nat → Int} (f : sFrame G G') (r : fRep h G) : fRep h G' := r.same (fun i _ h2 => f i (Or.inl (by simp only [o_Sm]; omega)))
theorem sFrame.trans {G1 G2 G3 : Nat → Nat → Int} (a : sFrame G1 G2) (b : sFrame G2 G3) : sFrame G1 G3 := fun i hi => (b i hi).trans (a i hi)
theorem fSmoke.bd (hh : Hwf h) {c : CC} (hc : -1 ≤ c.2.2.2 ∧ c.2.2.2 < h.2 2) (s : fSmoke h c G) {m p : Nat} (hm : m ≤ 20) (hp : p < 8) : 0 ≤ G sm_above (8 * m + p) ∧ G sm_above (8 * m + p) ≤ 2000000 ∧ 0 ≤ G sm_mixed (8 * m + p) ∧ G sm_mixed (8 * m + p) ≤ 2000000 := by
  have := (sk_le hh hc hm).1 p
  rw [((s.1 m hm).1 p hp).1, ((s.1 m hm).1 p hp).2]
  exact this
/-- the course that is known -/
def knC (G : Nat → Nat → Int) : CC := (G o_Sm 13, G o_Sm 14, G o_Sm 15, G o_Sm 16)
/-- what is kept is right -/
def fK (h : HH) (G : Nat → Nat → Int) : Prop := G o_Sm 17 ≤ G o_Ac 6 ∧ (G o_Sm 17 = G o_Ac 6 → fSmoke h (knC G) G)
def mFollowed (h : HH) (c : CC) (G : Nat → Nat → Int) : Option XV → XM → Prop := fun v τ => v = none ∧ ∃ G', τ = (S0, G') ∧ sFrame G G' ∧ fSmoke h c G' ∧ knC G' = c ∧ G' o_Sm 17 = G o_Ac 6
def dInv (h : HH) (c : CC) (G : Nat → Nat → Int) (m : Nat) (G' : Nat → Nat → Int) : Prop :=
  sFrame G G' ∧ (knC G' = c ∧ G' o_Sm 17 = G o_Ac 6) ∧ (∀ m', m' ≤ m → (∀ q, q < 8 → G' sm_above (8 * m' + q) = (sk h c m').1 q ∧ G' sm_mixed (8 * m' + q) = (sk h c m').2.1 q) ∧ G' sm_totals (3 * m') = (sk h c m').2.2.2.1 ∧ G' sm_totals (3 * m' + 1) = (sk h c m').2.2.2.2.1 ∧ G' sm_totals (3 * m' + 2) = (sk h c m').2.2.2.2.2) ∧
  (∀ j, 8 * (m + 1) ≤ j → j < 168 → G' sm_above j = 0 ∧ G' sm_mixed j = 0) ∧ (∀ m', m' < m → ∀ w, w < h.2 1 → G' sm_airs (12 * m' + w) = f_air h (sk h c m').2.2.1 (f_plan c m') m' w) ∧ (∀ m', m' ≤ 20 → ∀ f, f < 8 → G' sm_turned (8 * m' + f) = f_isBy h (f_plan c m') f m')
theorem f_airS_cg {lo lo' : Nat → Int} {pl : Int} {m w : Nat} (e : ∀ f, f < h.2 3 → lo f = lo' f) : ∀ n, n ≤ h.2 3 → f_airS h lo pl m w n = f_airS h lo' pl m w n := by
  intro n
  induction n with
  | zero => intro _; rfl
  | succ n ih =>
    intro hn
    show f_airS h lo pl m w n + (if h.1 3 n 0 = w ∧ lo n = -1 then h.1 3 n 1 * f_isBy h pl n m else 0) = f_airS h lo' pl m w n + (if h.1 3 n 0 = w ∧ lo' n = -1 then h.1 3 n 1 * f_isBy h pl n m else 0)
    rw [ih (by omega), e n (by omega)]
theorem c_version : x_M y_Ac_version [xR (some o_Ac)] (S0, G) (x_is (.inl (some (xI (G o_Ac 6)))) (S0, G)) := by
  refine x_of 0 rfl (Nat.le_of_ble_eq_true rfl) ?_
  show x_A y_Ac_version 0 [some (xR (some o_Ac))] [] (S0, G) 0 0 _
  refine x_aload_n d_Ac_version_0 rfl rfl ?_
  refine x_getIG (kf := 6) d_Ac_version_1 rfl rfl rfl in_Ac f_Ac_31 ?_
  refine x_ireturn d_Ac_version_4 rfl ?_ (Nat.zero_le _) (Nat.zero_le _)
  exact ⟨rfl, rfl⟩
theorem c_follow (hh : Hwf h) (r : fRep h G) (hk : fK h G) (c : CC) (hc : -1 ≤ c.2.2.2 ∧ c.2.2.2 < h.2 2) : x_M y_Sm_follow [oSm, xI c.1, xI c.2.1, xI c.2.2.1, xI c.2.2.2] (S0, G) (fun r τ => ∃ v, r = .inl v ∧ mFollowed h c G v τ) := by
  have b := hh.1
  refine x_of 1 rfl (Nat.le_of_ble_eq_true rfl) ?_
  show x_A y_Sm_follow 0 [some oSm, some (xI c.1), some (xI c.2.1), some (xI c.2.2.1), some (xI c.2.2.2), none] [] (S0, G) 0 0 _
  generalize hQ : (fun (r : XRes) (τ : XM) => ∃ v, r = .inl v ∧ mFollowed h c G v τ) = Q
  have first : ∀ m, m ≤ 20 → (∀ G', dInv h c G m G' → (∀ w, w < h.2 1 → G' sm_airs (12 * m + w) = f_air h (sk h c m).2.2.1 (f_plan c m) m w) → (∀ f, f < 8 → G' sm_lost f = (sk h c m).2.2.1 f) → x_A y_Sm_follow 113 [some oSm, some (xI c.1), some (xI c.2.1), some (xI c.2.2.1), some (xI c.2.2.2), some (xI (m : Int))] [] (S0, G') 0 0 Q) →
      ∀ G', dInv h c G m G' → (∀ f, f < 8 → G' sm_lost f = bLost0 h c m f) → x_A y_Sm_follow 94 [some oSm, some (xI c.1), some (xI c.2.1), some (xI c.2.2.1), some (xI c.2.2.2), some (xI (m : Int))] [] (S0, G') 0 0 Q := by
    intro m hm kk G' hI hlo
    obtain ⟨i1, i2, i3, i4, i5, i6⟩ := hI
    have r1 := i1.rep r
    refine x_iload d_Sm_follow_94 rfl ?_
    refine x_bipush (21) d_Sm_follow_96 rfl ⟨by decide, by decide⟩ ?_
    refine x_icmp_ge (156) d_Sm_follow_98 (by decide) (fun g => ?_) (fun g => ?_)
    · omega
    · refine x_aload_n d_Sm_follow_101 rfl rfl ?_
      refine x_iload d_Sm_follow_102 rfl ?_
      refine x_V0 d_Sm_follow_104 e_Sm_follow_Sm_loseFans ⟨rfl, rfl, Nat.zero_le _, Nat.zero_le _⟩ rfl rfl rfl rfl (Nat.le_of_ble_eq_true rfl) (c_loseFans hh r1 m hm) ?_
      have f1 : sFrame G (lsG h G' m (h.2 3)) := fun i hi => (lsG_o (by intro z; subst z; simp only [sm_lost, o_Sm, sm_leftMixed] at hi; omega)).trans (i1 i hi)
      have r2 := f1.rep r
      have el : ∀ f, f < 8 → lsG h G' m (h.2 3) sm_lost f = (sk h c m).2.2.1 f := fun f hf => by
        unfold lsG
        cases m with
        | zero =>
          rw [if_neg (fun z => absurd z.2.1 (by omega))]
          exact hlo f hf
        | succ m =>
          have e1 : G' sm_lost f = (sk h c m).2.2.1 f := hlo f hf
          rw [sk_lo_s, show m + 1 - 1 = m from rfl]
          have e2 : f_much h (fun p => G' sm_above (8 * m + p)) f = f_much h (sk h c m).1 f := by
            unfold f_much
            refine f_any_congr (fun p hp => ?_)
            unfold f_hit
            simp only [((i3 m (by omega)).1 p (by omega)).1]
          rw [e1, e2]
          by_cases q : f < h.2 3 ∧ (sk h c m).2.2.1 f = -1 ∧ f_much h (sk h c m).1 f = true
          · rw [if_pos ⟨rfl, by omega, q⟩, if_pos q]
          · rw [if_neg (fun z => q z.2.2), if_neg q]
      have oth : ∀ i, i ≠ sm_lost → lsG h G' m (h.2 3) i = G' i := fun i hi => lsG_o hi
      have et : ∀ f, f < h.2 3 → lsG h G' m (h.2 3) sm_turned (8 * m + f) = f_isBy h (f_plan c m) f m := fun f hf => by rw [oth _ (by decide)]; exact i6 m hm f (by omega)
      refine x_aload_n d_Sm_follow_107 rfl rfl ?_
      refine x_iload d_Sm_follow_108 rfl ?_
      refine x_V0 d_Sm_follow_110 e_Sm_follow_Sm_driveAir ⟨rfl, rfl, Nat.zero_le _, Nat.zero_le _⟩ rfl rfl rfl rfl (Nat.le_of_ble_eq_true rfl) (c_driveAir hh r2 (f_plan c m) m hm et) ?_
      have ea : ∀ w, w < h.2 1 → f_air h (lsG h G' m (h.2 3) sm_lost) (f_plan c m) m w = f_air h (sk h c m).2.2.1 (f_plan c m) m w := fun w hw => by
        unfold f_air
        rw [f_airS_cg (fun f hf => el f (by omega)) _ (Nat.le_refl _)]
      rw [aG_cg ea]
      refine kk _ ⟨fun i hi => (aG_o (by intro z; subst z; simp only [sm_airs, o_Sm, sm_leftMixed] at hi; omega)).trans (f1 i hi), ?_, fun m' hm' => ?_, fun j j1 j2 => ?_, fun m' hm' w hw => ?_, fun m' hm' f hf => ?_⟩ (fun w hw => aG_at hw) (fun f hf => by rw [aG_o (by decide)]; exact el f hf)
      · unfold knC
        rw [aG_o (by decide), oth _ (by decide)]
        exact i2
      · rw [aG_o (by decide), aG_o (by decide), aG_o (by decide), oth _ (by decide), oth _ (by decide), oth _ (by decide)]
        exact i3 m' hm'
      · rw [aG_o (by decide), aG_o (by decide), oth _ (by decide), oth _ (by decide)]
        exact i4 j j1 j2
      · unfold aG
        rw [if_neg (by omega), oth _ (by decide)]
        exact i5 m' hm' w hw
      · rw [aG_o (by decide), oth _ (by decide)]
        exact i6 m' hm' f hf
  have minutes : ∀ G', dInv h c G 0 G' → (∀ f, f < 8 → G' sm_lost f = bLost0 h c 0 f) → x_A y_Sm_follow 94 [some oSm, some (xI c.1), some (xI c.2.1), some (xI c.2.2.1), some (xI c.2.2.2), some (xI ((0 : Nat) : Int))] [] (S0, G') 0 0 Q := by
    refine x_up_to (P := fun m => ∀ G', dInv h c G m G' → (∀ f, f < 8 → G' sm_lost f = bLost0 h c m f) → x_A y_Sm_follow 94 [some oSm, some (xI c.1), some (xI c.2.1), some (xI c.2.2.1), some (xI c.2.2.2), some (xI (m : Int))] [] (S0, G') 0 0 Q) 0 20 (Nat.zero_le _) ?_ (fun m _ hm k => ?_)
    · refine first 20 (Nat.le_refl 20) (fun G' hI ha hl => ?_)
      obtain ⟨i1, i2, i3, i4, i5, i6⟩ := hI
      refine x_iload d_Sm_follow_113 rfl ?_
      refine x_bipush (20) d_Sm_follow_115 rfl ⟨by decide, by decide⟩ ?_
      refine x_icmp_ge (150) d_Sm_follow_117 (by decide) (fun g => ?_) (fun g => ?_)
      · refine x_iincN d_Sm_follow_150 rfl (by decide) (by omega) (by omega) ?_
        dsimp only [x_st1, x_st2, x_kill, List.set, List.getElem?_cons_zero, List.getElem?_cons_succ]
        refine x_goto (94) d_Sm_follow_153 (by decide) ?_
        refine x_iload d_Sm_follow_94 rfl ?_
        refine x_bipush (21) d_Sm_follow_96 rfl ⟨by decide, by decide⟩ ?_
        refine x_icmp_ge (156) d_Sm_follow_98 (by decide) (fun g => ?_) (fun g => ?_)
        · refine x_return d_Sm_follow_156 rfl ?_ (Nat.zero_le _) (Nat.zero_le _)
          rw [← hQ]
          refine ⟨none, rfl, rfl, G', rfl, i1, ⟨fun m hm => ?_, hl⟩, i2⟩
          obtain ⟨z1, z2⟩ := i3 m hm
          refine ⟨z1, fun w hw => ?_, z2⟩
          by_cases q : m = 20
          · subst q; exact ha w hw
          · exact i5 m (by omega) w hw
        · omega
      · omega
    · refine first m (by omega) (fun G' hI ha hl => ?_)
      obtain ⟨i1, i2, i3, i4, i5, i6⟩ := hI
      have r1 := i1.rep r
      obtain ⟨z1, z2, z3, z4⟩ := i3 m (Nat.le_refl m)
      have fat := c_at (G := G') (isTab_of (T := 2) (by decide)) c.2.2.2 0
      generalize hbu : (if 0 ≤ c.2.2.2 ∧ c.2.2.2 < (lim 2 : Nat) ∧ 0 ≤ (0 : Int) ∧ (0 : Int) < 6 then G' (7 + 2 * 2) (c.2.2.2 * 6 + 0).toNat else 0) = bu at fat
      have ebu : c.2.2.2 ≠ -1 → bu = h.1 2 c.2.2.2.toNat 0 := fun hn => by
        have l2 : (lim 2 : Int) = 4 := rfl
        rw [← hbu, if_pos (by omega)]
        have := (r1.2 2 (by decide)).2 c.2.2.2.toNat (by omega) 0 (by decide)
        rw [← this]
        congr 1
        omega
      refine x_iload d_Sm_follow_113 rfl ?_
      refine x_bipush (20) d_Sm_follow_115 rfl ⟨by decide, by decide⟩ ?_
      refine x_icmp_ge (150) d_Sm_follow_117 (by decide) (fun g => ?_) (fun g => ?_)
      · omega
      · refine x_aload_n d_Sm_follow_120 rfl rfl ?_
        refine x_iload d_Sm_follow_121 rfl ?_
        refine x_aload_n d_Sm_follow_123 rfl rfl ?_
        refine x_getF (kf := 0) d_Sm_follow_124 rfl rfl rfl in_Sm f_Sm_46 ?_
        refine x_getF (kf := 2) d_Sm_follow_127 rfl rfl rfl in_Ho f_Sm_86 ?_
        refine x_iload d_Sm_follow_130 rfl ?_
        refine x_iconst (0) d_Sm_follow_132 rfl ⟨by decide, by decide⟩ ?_
        refine x_V1 d_Sm_follow_133 e_Sm_follow_Ta_at ⟨rfl, rfl, Nat.zero_le _, Nat.zero_le _⟩ rfl rfl rfl rfl (Nat.le_of_ble_eq_true rfl) (fat) ?_
        refine x_aload_n d_Sm_follow_136 rfl rfl ?_
        refine x_getF (kf := 0) d_Sm_follow_137 rfl rfl rfl in_Sm f_Sm_46 ?_
        refine x_iload d_Sm_follow_140 rfl ?_
        refine x_iload d_Sm_follow_142 rfl ?_
        refine x_V1 d_Sm_follow_144 e_Sm_follow_Ho_gives ⟨rfl, rfl, Nat.zero_le _, Nat.zero_le _⟩ rfl rfl rfl rfl (Nat.le_of_ble_eq_true rfl) (c_gives hh r1 _ m hc (by omega)) ?_
        refine x_VQ d_Sm_follow_147 e_Sm_follow_Sm_step ⟨rfl, rfl, Nat.zero_le _, Nat.zero_le _⟩ rfl rfl rfl rfl (Nat.le_of_ble_eq_true rfl) (c_step hh r1 c hc m hm bu ebu z1 i4 (fun w hw => ha w hw) ⟨z2, z3, z4⟩) (fun v τ hv => ?_)
        obtain ⟨rfl, G2, rfl, f1, f2, f3, f4, f5, f6, f7, f8, f9⟩ := hv
        show x_A y_Sm_follow 150 [some oSm, some (xI c.1), some (xI c.2.1), some (xI c.2.2.1), some (xI c.2.2.2), some (xI (m : Int))] [] (S0, G2) 0 0 Q
        refine x_iincN d_Sm_follow_150 rfl (by decide) (by omega) (by omega) ?_
        dsimp only [x_st1, x_st2, x_kill, List.set, List.getElem?_cons_zero, List.getElem?_cons_succ]
        refine x_goto (94) d_Sm_follow_153 (by decide) ?_
        have e1 : sk h c (m + 1) = sk_step h c m (sk h c m) := rfl
        refine k G2 ⟨fun i hi => (f1 i ?_ ?_ ?_ ?_ ?_ ?_ ?_).trans (i1 i hi), ?_, fun m' hm' => ?_, fun j j1 j2 => f5 j (by omega) j2, fun m' hm' w hw => ?_, fun m' hm' f hf => ?_⟩ (fun f hf => ?_)
        · intro z; subst z; simp only [sm_leftAbove, o_Sm, sm_leftMixed] at hi; omega
        · intro z; subst z; simp only [o_Sm, sm_leftMixed] at hi; omega
        · intro z; subst z; simp only [sm_shares, o_Sm, sm_leftMixed] at hi; omega
        · intro z; subst z; simp only [sm_totals, o_Sm, sm_leftMixed] at hi; omega
        · intro z; subst z; simp only [sm_above, o_Sm, sm_leftMixed] at hi; omega
        · intro z; subst z; simp only [sm_mixed, o_Sm, sm_leftMixed] at hi; omega
        · intro z; subst z; simp only [o_Sm, sm_leftMixed] at hi; omega
        · unfold knC
          rw [f2 13 (by decide), f2 14 (by decide), f2 15 (by decide), f2 16 (by decide), f2 17 (by decide)]
          exact i2
        · by_cases q : m' = m + 1
          · subst q
            rw [e1]
            exact ⟨f4, f7, f8, f9⟩
          · obtain ⟨y1, y2, y3, y4⟩ := i3 m' (by omega)
            refine ⟨fun q hq => ?_, ?_, ?_, ?_⟩
            · rw [(f3 (8 * m' + q) (by omega)).1, (f3 (8 * m' + q) (by omega)).2]; exact y1 q hq
            · rw [f6 _ (by omega)]; exact y2
            · rw [f6 _ (by omega)]; exact y3
            · rw [f6 _ (by omega)]; exact y4
        · rw [f1 sm_airs (by decide) (by decide) (by decide) (by decide) (by decide) (by decide) (by decide)]
          by_cases q : m' = m
          · subst q; exact ha w hw
          · exact i5 m' (by omega) w hw
        · rw [f1 sm_turned (by decide) (by decide) (by decide) (by decide) (by decide) (by decide) (by decide)]
          exact i6 m' hm' f hf
        · rw [f1 sm_lost (by decide) (by decide) (by decide) (by decide) (by decide) (by decide) (by decide)]
          exact hl f hf
  have anew : x_A y_Sm_follow 48 [some oSm, some (xI c.1), some (xI c.2.1), some (xI c.2.2.1), some (xI c.2.2.2), none] [] (S0, G) 0 0 Q := by
    refine x_aload_n d_Sm_follow_48 rfl rfl ?_
    refine x_aload_n d_Sm_follow_49 rfl rfl ?_
    refine x_getF (kf := 1) d_Sm_follow_50 rfl rfl rfl in_Sm f_Sm_50 ?_
    refine x_V1 d_Sm_follow_53 e_Sm_follow_Ac_version ⟨rfl, rfl, Nat.zero_le _, Nat.zero_le _⟩ rfl rfl rfl rfl (Nat.le_of_ble_eq_true rfl) (c_version) ?_
    refine x_putIG (kf := 17) tyX7 d_Sm_follow_56 rfl rfl rfl in_Sm f_Sm_42 tyX7_ok nmX7 (by decide +kernel) rfl ?_
    refine x_aload_n d_Sm_follow_59 rfl rfl ?_
    refine x_iload_n d_Sm_follow_60 rfl rfl ?_
    refine x_putIG (kf := 13) tyX7 d_Sm_follow_61 rfl rfl rfl in_Sm f_Sm_60 tyX7_ok nmX7 (by decide +kernel) rfl ?_
    refine x_aload_n d_Sm_follow_64 rfl rfl ?_
    refine x_iload_n d_Sm_follow_65 rfl rfl ?_
    refine x_putIG (kf := 14) tyX7 d_Sm_follow_66 rfl rfl rfl in_Sm f_Sm_63 tyX7_ok nmX7 (by decide +kernel) rfl ?_
    refine x_aload_n d_Sm_follow_69 rfl rfl ?_
    refine x_iload_n d_Sm_follow_70 rfl rfl ?_
    refine x_putIG (kf := 15) tyX7 d_Sm_follow_71 rfl rfl rfl in_Sm f_Sm_66 tyX7_ok nmX7 (by decide +kernel) rfl ?_
    refine x_aload_n d_Sm_follow_74 rfl rfl ?_
    refine x_iload d_Sm_follow_75 rfl ?_
    refine x_putIG (kf := 16) tyX7 d_Sm_follow_77 rfl rfl rfl in_Sm f_Sm_69 tyX7_ok nmX7 (by decide +kernel) rfl ?_
    refine x_aload_n d_Sm_follow_80 rfl rfl ?_
    generalize hG1 : up (up (up (up (up G o_Sm 17 (G o_Ac 6)) o_Sm 13 c.1) o_Sm 14 c.2.1) o_Sm 15 c.2.2.1) o_Sm 16 c.2.2.2 = G1
    have k1 : knC G1 = c ∧ G1 o_Sm 17 = G o_Ac 6 := by
      rw [← hG1]
      unfold knC
      refine ⟨?_, ?_⟩
      · rw [up_ne (by decide), up_ne (by decide), up_ne (by decide), up_same, up_ne (by decide), up_ne (by decide), up_same, up_ne (by decide), up_same, up_same]
      · rw [up_ne (by decide), up_ne (by decide), up_ne (by decide), up_ne (by decide), up_same]
    have o1 : ∀ i, i ≠ o_Sm → G1 i = G i := fun i hi => by rw [← hG1, up_cell hi, up_cell hi, up_cell hi, up_cell hi, up_cell hi]
    refine x_V0 d_Sm_follow_81 e_Sm_follow_Sm_clear ⟨rfl, rfl, Nat.zero_le _, Nat.zero_le _⟩ rfl rfl rfl rfl (Nat.le_of_ble_eq_true rfl) (c_clear) ?_
    have o2 : ∀ i, i ≠ sm_above → i ≠ sm_mixed → i ≠ sm_totals → i ≠ sm_lost → clG G1 i = G1 i := fun i z1 z2 z3 z4 => by unfold clG; rw [fillG_o z4, fillG_o z3, fillG_o z2, fillG_o z1]
    have cA : ∀ j, j < 168 → clG G1 sm_above j = 0 := fun j hj => by unfold clG; rw [fillG_o (by decide), fillG_o (by decide), fillG_o (by decide), fillG_i hj]
    have cM : ∀ j, j < 168 → clG G1 sm_mixed j = 0 := fun j hj => by unfold clG; rw [fillG_o (by decide), fillG_o (by decide), fillG_i hj]
    have cT : ∀ j, j < 63 → clG G1 sm_totals j = 0 := fun j hj => by unfold clG; rw [fillG_o (by decide), fillG_i hj]
    have cL : ∀ j, j < 8 → clG G1 sm_lost j = -1 := fun j hj => by unfold clG; rw [fillG_i hj]
    generalize clG G1 = G2 at *
    have f2 : sFrame G G2 := fun i hi => by
      rw [o2 i (by intro z; subst z; simp only [sm_above, o_Sm, sm_leftMixed] at hi; omega) (by intro z; subst z; simp only [sm_mixed, o_Sm, sm_leftMixed] at hi; omega) (by intro z; subst z; simp only [sm_totals, o_Sm, sm_leftMixed] at hi; omega) (by intro z; subst z; simp only [sm_lost, o_Sm, sm_leftMixed] at hi; omega)]
      exact o1 i (by intro z; subst z; simp only [o_Sm, sm_leftMixed] at hi; omega)
    refine x_aload_n d_Sm_follow_84 rfl rfl ?_
    refine x_iload_n d_Sm_follow_85 rfl rfl ?_
    refine x_iload_n d_Sm_follow_86 rfl rfl ?_
    refine x_iload_n d_Sm_follow_87 rfl rfl ?_
    refine x_VQ d_Sm_follow_88 e_Sm_follow_Sm_turnFans ⟨rfl, rfl, Nat.zero_le _, Nat.zero_le _⟩ rfl rfl rfl rfl (Nat.le_of_ble_eq_true rfl) (c_turnFans hh (f2.rep r) c) (fun v τ hv => ?_)
    obtain ⟨rfl, G3, rfl, t1, t2⟩ := hv
    show x_A y_Sm_follow 91 [some oSm, some (xI c.1), some (xI c.2.1), some (xI c.2.2.1), some (xI c.2.2.2), none] [] (S0, G3) 0 0 Q
    refine x_iconst (0) d_Sm_follow_91 rfl ⟨by decide, by decide⟩ ?_
    refine x_istore d_Sm_follow_92 (by decide) ?_
    dsimp only [x_st1, x_st2, x_kill, List.set, List.getElem?_cons_zero, List.getElem?_cons_succ]
    refine minutes G3 ⟨fun i hi => ?_, ?_, fun m' hm' => ?_, fun j j1 j2 => ?_, fun m' hm' => absurd hm' (by omega), t2⟩ (fun f hf => ?_)
    · rw [t1 i (by intro z; subst z; simp only [sm_turned, o_Sm, sm_leftMixed] at hi; omega) (by intro z; subst z; simp only [sm_turnedFrom, o_Sm, sm_leftMixed] at hi; omega)]
      exact f2 i hi
    · have := t1 o_Sm (by decide) (by decide)
      have := o2 o_Sm (by decide) (by decide) (by decide) (by decide)
      unfold knC at k1 ⊢
      rw [t1 o_Sm (by decide) (by decide), o2 o_Sm (by decide) (by decide) (by decide) (by decide)]
      exact k1
    · have e : m' = 0 := by omega
      subst e
      rw [t1 sm_above (by decide) (by decide), t1 sm_mixed (by decide) (by decide), t1 sm_totals (by decide) (by decide)]
      exact ⟨fun q hq => ⟨cA _ (by omega), cM _ (by omega)⟩, cT _ (by omega), cT _ (by omega), cT _ (by omega)⟩
    · rw [t1 sm_above (by decide) (by decide), t1 sm_mixed (by decide) (by decide)]
      exact ⟨cA j j2, cM j j2⟩
    · rw [t1 sm_lost (by decide) (by decide)]
      exact cL f hf
  refine x_aload_n d_Sm_follow_0 rfl rfl ?_
  refine x_getIG (kf := 17) d_Sm_follow_1 rfl rfl rfl in_Sm f_Sm_42 ?_
  refine x_aload_n d_Sm_follow_4 rfl rfl ?_
  refine x_getF (kf := 1) d_Sm_follow_5 rfl rfl rfl in_Sm f_Sm_50 ?_
  refine x_V1 d_Sm_follow_8 e_Sm_follow_Ac_version ⟨rfl, rfl, Nat.zero_le _, Nat.zero_le _⟩ rfl rfl rfl rfl (Nat.le_of_ble_eq_true rfl) (c_version) ?_
  refine x_icmp_ne (48) d_Sm_follow_11 (by decide) (fun g1 => ?_) (fun g1 => ?_)
  · exact anew
  · refine x_aload_n d_Sm_follow_14 rfl rfl ?_
    refine x_getIG (kf := 13) d_Sm_follow_15 rfl rfl rfl in_Sm f_Sm_60 ?_
    refine x_iload_n d_Sm_follow_18 rfl rfl ?_
    refine x_icmp_ne (48) d_Sm_follow_19 (by decide) (fun g2 => ?_) (fun g2 => ?_)
    · exact anew
    · refine x_aload_n d_Sm_follow_22 rfl rfl ?_
      refine x_getIG (kf := 14) d_Sm_follow_23 rfl rfl rfl in_Sm f_Sm_63 ?_
      refine x_iload_n d_Sm_follow_26 rfl rfl ?_
      refine x_icmp_ne (48) d_Sm_follow_27 (by decide) (fun g3 => ?_) (fun g3 => ?_)
      · exact anew
      · refine x_aload_n d_Sm_follow_30 rfl rfl ?_
        refine x_getIG (kf := 15) d_Sm_follow_31 rfl rfl rfl in_Sm f_Sm_66 ?_
        refine x_iload_n d_Sm_follow_34 rfl rfl ?_
        refine x_icmp_ne (48) d_Sm_follow_35 (by decide) (fun g4 => ?_) (fun g4 => ?_)
        · exact anew
        · refine x_aload_n d_Sm_follow_38 rfl rfl ?_
          refine x_getIG (kf := 16) d_Sm_follow_39 rfl rfl rfl in_Sm f_Sm_69 ?_
          refine x_iload d_Sm_follow_42 rfl ?_
          refine x_icmp_ne (48) d_Sm_follow_44 (by decide) (fun g5 => ?_) (fun g5 => ?_)
          · exact anew
          · refine x_return d_Sm_follow_47 rfl ?_ (Nat.zero_le _) (Nat.zero_le _)
            rw [← hQ]
            have e : knC G = c := by unfold knC; rw [show G o_Sm 13 = c.1 by omega, show G o_Sm 14 = c.2.1 by omega, show G o_Sm 15 = c.2.2.1 by omega, show G o_Sm 16 = c.2.2.2 by omega]
            have g1' : G o_Sm 17 = G o_Ac 6 := by omega
            have := hk.2 g1'
            rw [e] at this
            exact ⟨none, rfl, rfl, G, rfl, fun _ _ => rfl, this, e, g1'⟩
end CF
