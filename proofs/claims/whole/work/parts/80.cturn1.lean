/-! the class: Turns: who is out, kept -/
abbrev oTu : XV := xR (some o_Tu)
theorem sk_cg {h : HH} {c c' : CC} (ef : c.2.2.2 = c'.2.2.2) {m : Nat} (e : ∀ j, j < m → f_plan c j = f_plan c' j) : sk h c m = sk h c' m := by
  induction m with
  | zero => rfl
  | succ m ih =>
    show sk_step h c m (sk h c m) = sk_step h c' m (sk h c' m)
    rw [ih (fun j hj => e j (by omega))]
    have e1 : sk_ai h c m (sk h c' m) = sk_ai h c' m (sk h c' m) := by unfold sk_ai; rw [e m (by omega)]
    have e2 : sk_a h c m (sk h c' m) = sk_a h c' m (sk h c' m) := by unfold sk_a; rw [ef]
    unfold sk_step
    rw [e1, e2, ef]
theorem f_out_cg {h : HH} {c c' : CC} (ef : c.2.2.2 = c'.2.2.2) {y : Nat} (set : Int) (e : ∀ j, j < y → f_plan c j = f_plan c' j) : f_out h c y set = f_out h c' y set := by
  unfold f_out
  congr 1
  funext S
  refine cutF_sh (fun m p hm _ => ?_) S
  unfold f_sh
  rw [sk_cg ef (fun j hj => e j (by omega))]
def fT (h : HH) (G : Nat → Nat → Int) : Prop :=
  (0 ≤ G o_Ac 6 ∧ G o_Ac 6 ≤ 2000) ∧ (∀ j, j < 80 → 0 ≤ G tu_stamps j ∧ G tu_stamps j ≤ G o_Ac 6 * 441 + 441) ∧
  ∀ fi b e t y : Nat, fi < 5 → b < 4 → e < 4 → t ≤ 20 → y ≤ 20 → G tu_stamps (16 * fi + 4 * b + e) = (G o_Ac 6 * 21 + t) * 21 + y + 1 → G tu_outs (16 * fi + 4 * b + e) = f_out h ((b : Int), (e : Int), (t : Int), f_fi fi) y (f_made h (h.2 6))
/-- what holds of the class's memory between calls, as far as questions go -/
def cQ (h : HH) (G : Nat → Nat → Int) : Prop := fRep h G ∧ fK h G ∧ fT h G
theorem fSmoke.same {h : HH} {c : CC} {G G' : Nat → Nat → Int} (s : fSmoke h c G) (e : ∀ i, sm_above ≤ i → i ≤ sm_lost → G' i = G i) : fSmoke h c G' := by
  refine ⟨fun m hm => ?_, fun f hf => ?_⟩
  · rw [e sm_above (by decide) (by decide), e sm_mixed (by decide) (by decide), e sm_airs (by decide) (by decide), e sm_totals (by decide) (by decide)]
    exact s.1 m hm
  · rw [e sm_lost (by decide) (by decide)]
    exact s.2 f hf
theorem fK.same {h : HH} {G G' : Nat → Nat → Int} (s : fK h G) (e : ∀ i, o_Sm ≤ i → i ≤ sm_leftMixed → G' i = G i) (e1 : G' o_Ac = G o_Ac) : fK h G' := by
  have eo := e o_Sm (by decide) (by decide)
  refine ⟨by rw [eo, e1]; exact s.1, fun hz => ?_⟩
  rw [eo, e1] at hz
  have := s.2 hz
  unfold knC at this ⊢
  rw [eo]
  exact this.same (fun i h1 h2 => e i (by simp only [o_Sm, sm_above] at *; omega) (by simp only [sm_lost, sm_leftMixed] at *; omega))
theorem fT.same {h : HH} {G G' : Nat → Nat → Int} (s : fT h G) (e1 : G' o_Ac = G o_Ac) (e2 : G' tu_stamps = G tu_stamps) (e3 : G' tu_outs = G tu_outs) : fT h G' := by
  unfold fT
  rw [e1, e2, e3]
  exact s
theorem cQ.followed {h : HH} {c : CC} {G G' : Nat → Nat → Int} (q : cQ h G) (f : sFrame G G') (s : fSmoke h c G') (k : knC G' = c) (k7 : G' o_Sm 17 = G o_Ac 6) : cQ h G' :=
  ⟨f.rep q.1, ⟨by rw [k7, f o_Ac (Or.inl (by decide))]; exact Int.le_refl _, fun _ => by rw [k]; exact s⟩, q.2.2.same (f _ (Or.inl (by decide))) (f _ (Or.inr (by decide))) (f _ (Or.inr (by decide)))⟩
theorem cQ.most {h : HH} {G G' : Nat → Nat → Int} (q : cQ h G) (f : eFrame G G') : cQ h G' :=
  ⟨f.rep q.1, q.2.1.same (fun i _ h2 => f i (Or.inl (by simp only [sm_leftMixed, o_Ne] at *; omega))) (f _ (Or.inl (by decide))), q.2.2.same (f _ (Or.inl (by decide))) (f _ (Or.inr (by decide))) (f _ (Or.inr (by decide)))⟩
/-- smoke, net, what Turns keeps may be otherwise -/
def oFrame (G G' : Nat → Nat → Int) : Prop := ∀ i, (i < o_Sm ∨ ne_free < i) → i ≠ tu_outs → i ≠ tu_stamps → G' i = G i
theorem oFrame.rf (G : Nat → Nat → Int) : oFrame G G := fun _ _ _ _ => rfl
theorem oFrame.tr {G1 G2 G3 : Nat → Nat → Int} (a : oFrame G1 G2) (b : oFrame G2 G3) : oFrame G1 G3 := fun i h1 h2 h3 => (b i h1 h2 h3).trans (a i h1 h2 h3)
theorem sFrame.o {G G' : Nat → Nat → Int} (f : sFrame G G') : oFrame G G' := fun i h1 _ _ => f i (by simp only [o_Sm, sm_leftMixed, ne_free] at *; omega)
theorem eFrame.o {G G' : Nat → Nat → Int} (f : eFrame G G') : oFrame G G' := fun i h1 _ _ => f i (by simp only [o_Sm, o_Ne, ne_free] at *; omega)
def mTO (h : HH) (V : Int) (G : Nat → Nat → Int) : Option XV → XM → Prop := fun v τ => v = some (xI V) ∧ ∃ G', τ = (S0, G') ∧ oFrame G G' ∧ cQ h G'
theorem f_wt {h : HH} (hh : Hwf h) : ∃ t : Nat, h.1 9 0 1 = (t : Int) ∧ 1 ≤ t ∧ t ≤ 3 := by
  have := hh.2.2.2.2.2.2.2.2.2.2
  exact ⟨(h.1 9 0 1).toNat, by omega, by omega, by omega⟩
theorem f_sh_c {h : HH} {c : CC} {G : Nat → Nat → Int} (s : fSmoke h c G) : ∀ m p, m ≤ 20 → p < 8 → decide (h.1 9 0 0 < G sm_mixed (8 * m + p)) = f_sh h c m p := fun m p hm hp => by
  unfold f_sh
  rw [((s.1 m hm).1 p hp).2]
section CU
variable {h : HH} {G : Nat → Nat → Int}
theorem c_outBy (hh : Hwf h) (q : cQ h G) (a b k fi y : Nat) (ha : a < 4) (hb : b < 4) (hk : k ≤ 21) (hfi : fi < 5) (hf : f_fi fi < h.2 2) (hy : y ≤ 20) :
    x_M y_Tu_outBy [oTu, xI (a : Int), xI (b : Int), xI (k : Int), xI (f_fi fi), xI (y : Int)] (S0, G) (fun r τ => ∃ v, r = .inl v ∧ mTO h (f_out h ((a : Int), (b : Int), (k : Int), f_fi fi) y (f_made h (h.2 6))) G v τ) := by
  obtain ⟨wt, ew, hw1, hw2⟩ := f_wt hh
  have hff : -1 ≤ f_fi fi := by unfold f_fi; split <;> omega
  refine x_of 5 rfl (Nat.le_of_ble_eq_true rfl) ?_
  show x_A y_Tu_outBy 0 [some oTu, some (xI (a : Int)), some (xI (b : Int)), some (xI (k : Int)), some (xI (f_fi fi)), some (xI (y : Int)), none, none, none, none, none] [] (S0, G) 0 0 _
  generalize hQ : (fun (r : XRes) (τ : XM) => ∃ v, r = .inl v ∧ mTO h (f_out h ((a : Int), (b : Int), (k : Int), f_fi fi) y (f_made h (h.2 6))) G v τ) = Q
  have rest : ∀ B E T : Nat, B < 4 → E < 4 → T ≤ 20 → (∀ m, m < y → f_plan ((B : Int), (E : Int), (T : Int), f_fi fi) m = f_plan ((a : Int), (b : Int), (k : Int), f_fi fi) m) →
      x_A y_Tu_outBy 39 [some oTu, some (xI (a : Int)), some (xI (b : Int)), some (xI (k : Int)), some (xI (f_fi fi)), some (xI (y : Int)), some (xI (B : Int)), some (xI (E : Int)), some (xI (T : Int)), none, none] [] (S0, G) 0 0 Q := by
    intro B E T hB hE hT hpl
    have eo : f_out h ((B : Int), (E : Int), (T : Int), f_fi fi) y (f_made h (h.2 6)) = f_out h ((a : Int), (b : Int), (k : Int), f_fi fi) y (f_made h (h.2 6)) := f_out_cg (c := ((B : Int), (E : Int), (T : Int), f_fi fi)) (c' := ((a : Int), (b : Int), (k : Int), f_fi fi)) rfl _ hpl
    obtain ⟨r, fk, t1, t2, t3⟩ := q
    have at' : x_A y_Tu_outBy 51 [some oTu, some (xI (a : Int)), some (xI (b : Int)), some (xI (k : Int)), some (xI (f_fi fi)), some (xI (y : Int)), some (xI (B : Int)), some (xI (E : Int)), some (xI (T : Int)), none, none] [xI (fi : Int)] (S0, G) 0 0 Q := by
      refine x_iconst (4) d_Tu_outBy_51 rfl ⟨by decide, by decide⟩ ?_
      refine x_imulN d_Tu_outBy_52 (by omega) (by omega) ?_
      refine x_iload d_Tu_outBy_53 rfl ?_
      refine x_iaddN d_Tu_outBy_55 (by omega) (by omega) ?_
      refine x_iconst (4) d_Tu_outBy_56 rfl ⟨by decide, by decide⟩ ?_
      refine x_imulN d_Tu_outBy_57 (by omega) (by omega) ?_
      refine x_iload d_Tu_outBy_58 rfl ?_
      refine x_iaddN d_Tu_outBy_60 (by omega) (by omega) ?_
      refine x_istore d_Tu_outBy_61 (by decide) ?_
      dsimp only [x_st1, x_st2, x_kill, List.set, List.getElem?_cons_zero, List.getElem?_cons_succ]
      rw [show (((fi : Int) * 4 + B) * 4 + E) = ((16 * fi + 4 * B + E : Nat) : Int) by omega]
      refine x_iload d_Tu_outBy_63 rfl ?_
      refine x_if_lt (78) d_Tu_outBy_65 (by decide) (fun g => ?_) (fun g => ?_)
      · omega
      · refine x_iload d_Tu_outBy_68 rfl ?_
        refine x_aload_n d_Tu_outBy_70 rfl rfl ?_
        refine x_getF (kf := 5) d_Tu_outBy_71 rfl rfl rfl in_Tu f_Tu_9 ?_
        refine x_arraylength d_Tu_outBy_74 rfl ?_
        refine x_icmp_lt (80) d_Tu_outBy_75 (by decide) (fun g2 => ?_) (fun g2 => ?_)
        · have last : ∀ G', G' tu_outs (16 * fi + 4 * B + E) = f_out h ((a : Int), (b : Int), (k : Int), f_fi fi) y (f_made h (h.2 6)) → oFrame G G' → cQ h G' → ∀ z, x_A y_Tu_outBy 169 [some oTu, some (xI (a : Int)), some (xI (b : Int)), some (xI (k : Int)), some (xI (f_fi fi)), some (xI (y : Int)), some (xI (B : Int)), some (xI (E : Int)), some (xI (T : Int)), some (xI ((16 * fi + 4 * B + E : Nat) : Int)), z] [] (S0, G') 0 0 Q := by
            intro G' e1 e2 e3 z
            refine x_aload_n d_Tu_outBy_169 rfl rfl ?_
            refine x_getF (kf := 5) d_Tu_outBy_170 rfl rfl rfl in_Tu f_Tu_9 ?_
            refine x_iload d_Tu_outBy_173 rfl ?_
            refine x_ialdN (16 * fi + 4 * B + E) d_Tu_outBy_175 rfl (by omega) (by omega) ?_
            rw [e1]
            refine x_ireturn d_Tu_outBy_176 rfl ?_ (Nat.zero_le _) (Nat.zero_le _)
            rw [← hQ]
            exact ⟨_, rfl, rfl, G', rfl, e2, e3⟩
          refine x_aload_n d_Tu_outBy_80 rfl rfl ?_
          refine x_getF (kf := 1) d_Tu_outBy_81 rfl rfl rfl in_Tu f_Tu_25 ?_
          refine x_V1 d_Tu_outBy_84 e_Tu_outBy_Ac_version ⟨rfl, rfl, Nat.zero_le _, Nat.zero_le _⟩ rfl rfl rfl rfl (Nat.le_of_ble_eq_true rfl) (c_version) ?_
          refine x_bipush (21) d_Tu_outBy_87 rfl ⟨by decide, by decide⟩ ?_
          refine x_imulN d_Tu_outBy_89 (by omega) (by omega) ?_
          refine x_iload d_Tu_outBy_90 rfl ?_
          refine x_iaddN d_Tu_outBy_92 (by omega) (by omega) ?_
          refine x_bipush (21) d_Tu_outBy_93 rfl ⟨by decide, by decide⟩ ?_
          refine x_imulN d_Tu_outBy_95 (by omega) (by omega) ?_
          refine x_iload d_Tu_outBy_96 rfl ?_
          refine x_iaddN d_Tu_outBy_98 (by omega) (by omega) ?_
          refine x_iconst (1) d_Tu_outBy_99 rfl ⟨by decide, by decide⟩ ?_
          refine x_iaddN d_Tu_outBy_100 (by omega) (by omega) ?_
          refine x_istore d_Tu_outBy_101 (by decide) ?_
          dsimp only [x_st1, x_st2, x_kill, List.set, List.getElem?_cons_zero, List.getElem?_cons_succ]
          refine x_aload_n d_Tu_outBy_103 rfl rfl ?_
          refine x_getF (kf := 6) d_Tu_outBy_104 rfl rfl rfl in_Tu f_Tu_15 ?_
          refine x_iload d_Tu_outBy_107 rfl ?_
          generalize hst : (G o_Ac 6 * 21 + T) * 21 + y + 1 = st
          refine x_ialdN (16 * fi + 4 * B + E) d_Tu_outBy_109 rfl (by omega) (by omega) ?_
          refine x_iload d_Tu_outBy_110 rfl ?_
          refine x_icmp_eq (169) d_Tu_outBy_112 (by decide) (fun g3 => ?_) (fun g3 => ?_)
          · exact last G (by rw [← eo]; exact t3 fi B E T y hfi hB hE hT hy (by rw [hst]; exact g3)) (oFrame.rf G) ⟨r, fk, t1, t2, t3⟩ _
          · refine x_aload_n d_Tu_outBy_115 rfl rfl ?_
            refine x_getF (kf := 2) d_Tu_outBy_116 rfl rfl rfl in_Tu f_Tu_29 ?_
            refine x_iload d_Tu_outBy_119 rfl ?_
            refine x_iload d_Tu_outBy_121 rfl ?_
            refine x_iload d_Tu_outBy_123 rfl ?_
            refine x_iload d_Tu_outBy_125 rfl ?_
            refine x_VQ d_Tu_outBy_127 e_Tu_outBy_Sm_follow ⟨rfl, rfl, Nat.zero_le _, Nat.zero_le _⟩ rfl rfl rfl rfl (Nat.le_of_ble_eq_true rfl) (c_follow hh r fk ((B : Int), (E : Int), (T : Int), f_fi fi) ⟨hff, hf⟩) (fun v τ hv => ?_)
            obtain ⟨rfl, G1, rfl, f1, f2, f3, f4⟩ := hv
            show x_A y_Tu_outBy 130 [some oTu, some (xI (a : Int)), some (xI (b : Int)), some (xI (k : Int)), some (xI (f_fi fi)), some (xI (y : Int)), some (xI (B : Int)), some (xI (E : Int)), some (xI (T : Int)), some (xI ((16 * fi + 4 * B + E : Nat) : Int)), some (xI st)] [] (S0, G1) 0 0 Q
            have q1 : cQ h G1 := cQ.followed ⟨r, fk, t1, t2, t3⟩ f1 f2 f3 f4
            refine x_aload_n d_Tu_outBy_130 rfl rfl ?_
            refine x_getF (kf := 5) d_Tu_outBy_131 rfl rfl rfl in_Tu f_Tu_9 ?_
            refine x_iload d_Tu_outBy_134 rfl ?_
            refine x_aload_n d_Tu_outBy_136 rfl rfl ?_
            refine x_getF (kf := 3) d_Tu_outBy_137 rfl rfl rfl in_Tu f_Tu_33 ?_
            refine x_iload d_Tu_outBy_140 rfl ?_
            refine x_aload_n d_Tu_outBy_142 rfl rfl ?_
            refine x_getF (kf := 0) d_Tu_outBy_143 rfl rfl rfl in_Tu f_Tu_21 ?_
            refine x_V1 d_Tu_outBy_146 e_Tu_outBy_Ho_walkTimes ⟨rfl, rfl, Nat.zero_le _, Nat.zero_le _⟩ rfl rfl rfl rfl (Nat.le_of_ble_eq_true rfl) (c_walkTimes hh q1.1) ?_
            rw [ew]
            refine x_aload_n d_Tu_outBy_149 rfl rfl ?_
            refine x_getF (kf := 0) d_Tu_outBy_150 rfl rfl rfl in_Tu f_Tu_21 ?_
            refine x_V1 d_Tu_outBy_153 e_Tu_outBy_Ho_madeDoors ⟨rfl, rfl, Nat.zero_le _, Nat.zero_le _⟩ rfl rfl rfl rfl (Nat.le_of_ble_eq_true rfl) (c_madeDoors hh q1.1) ?_
            refine x_VQ d_Tu_outBy_156 e_Tu_outBy_Es_most ⟨rfl, rfl, Nat.zero_le _, Nat.zero_le _⟩ rfl rfl rfl rfl (Nat.le_of_ble_eq_true rfl) (c_emost hh q1.1 (f_sh h ((B : Int), (E : Int), (T : Int), f_fi fi)) (f_sh_c f2) y wt (f_made h (h.2 6)) hy ⟨hw1, hw2⟩) (fun v τ hv => ?_)
            obtain ⟨G2, rfl, rfl, e1, e2, e3, e4⟩ := hv
            have ev : mv (cutF h (f_sh h ((B : Int), (E : Int), (T : Int), f_fi fi)) y wt (f_made h (h.2 6))) = f_out h ((a : Int), (b : Int), (k : Int), f_fi fi) y (f_made h (h.2 6)) := by
              rw [← eo]
              unfold f_out
              rw [ew, Int.toNat_natCast]
            show x_A y_Tu_outBy 159 [some oTu, some (xI (a : Int)), some (xI (b : Int)), some (xI (k : Int)), some (xI (f_fi fi)), some (xI (y : Int)), some (xI (B : Int)), some (xI (E : Int)), some (xI (T : Int)), some (xI ((16 * fi + 4 * B + E : Nat) : Int)), some (xI st)] [xI (mv (cutF h (f_sh h ((B : Int), (E : Int), (T : Int), f_fi fi)) y wt (f_made h (h.2 6)))), xI ((16 * fi + 4 * B + E : Nat) : Int), xR (some tu_outs)] (S0, G2) 0 0 Q
            rw [ev]
            have q2 := q1.most e1
            have fr2 := f1.o.tr e1.o
            have v2 : G2 o_Ac = G o_Ac := fr2 _ (Or.inl (by decide)) (by decide) (by decide)
            refine x_iastN (16 * fi + 4 * B + E) d_Tu_outBy_159 rfl (by omega) (by omega) ?_
            refine x_aload_n d_Tu_outBy_160 rfl rfl ?_
            refine x_getF (kf := 6) d_Tu_outBy_161 rfl rfl rfl in_Tu f_Tu_15 ?_
            refine x_iload d_Tu_outBy_164 rfl ?_
            refine x_iload d_Tu_outBy_166 rfl ?_
            refine x_iastN (16 * fi + 4 * B + E) d_Tu_outBy_168 rfl (by omega) (by omega) ?_
            refine last _ (by rw [up_cell (by decide), up_same]) (fun i h1 h2 h3 => by rw [up_cell h3, up_cell h2]; exact fr2 i h1 h2 h3) ⟨?_, ?_, ?_⟩ _
            · exact q2.1.same (fun i h1 h2 => by rw [up_cell (by simp only [tu_stamps]; omega), up_cell (by simp only [tu_outs]; omega)])
            · exact q2.2.1.same (fun i h1 h2 => by rw [up_cell (by simp only [tu_stamps, sm_leftMixed] at *; omega), up_cell (by simp only [tu_outs, sm_leftMixed] at *; omega)]) (by rw [up_cell (by decide), up_cell (by decide)])
            · obtain ⟨u1, u2, u3⟩ := q2.2.2
              unfold fT
              rw [up_cell (show o_Ac ≠ tu_stamps by decide), up_cell (show o_Ac ≠ tu_outs by decide)]
              refine ⟨u1, fun j hj => ?_, fun fi' b' e' t' y' hfi' hb' he' ht' hy' hs => ?_⟩
              · by_cases c : j = 16 * fi + 4 * B + E
                · subst c
                  rw [up_same, v2, ← hst]
                  omega
                · rw [up_ne c, up_cell (show tu_stamps ≠ tu_outs by decide)]
                  exact u2 j hj
              · rw [up_cell (show tu_outs ≠ tu_stamps by decide)]
                by_cases c : 16 * fi' + 4 * b' + e' = 16 * fi + 4 * B + E
                · obtain ⟨rfl, rfl, rfl⟩ : fi' = fi ∧ b' = B ∧ e' = E := by omega
                  rw [up_same, v2, ← hst] at hs
                  obtain ⟨rfl, rfl⟩ : t' = T ∧ y' = y := by omega
                  rw [up_same, eo]
                · rw [up_ne c]
                  rw [up_ne c, up_cell (show tu_stamps ≠ tu_outs by decide)] at hs
                  exact u3 fi' b' e' t' y' hfi' hb' he' ht' hy' hs
        · omega
    refine x_iload d_Tu_outBy_39 rfl ?_
    refine x_iconst (-1) d_Tu_outBy_41 rfl ⟨by decide, by decide⟩ ?_
    by_cases c : fi = 4
    · subst c
      refine x_icmp_ne (49) d_Tu_outBy_42 (by decide) (fun g => ?_) (fun g => ?_)
      · exact absurd rfl g
      · refine x_iconst (4) d_Tu_outBy_45 rfl ⟨by decide, by decide⟩ ?_
        refine x_goto (51) d_Tu_outBy_46 (by decide) ?_
        exact at'
    · have e4 : f_fi fi = fi := by unfold f_fi; rw [if_neg c]
      rw [e4] at at' ⊢
      refine x_icmp_ne (49) d_Tu_outBy_42 (by decide) (fun g => ?_) (fun g => ?_)
      · refine x_iload d_Tu_outBy_49 rfl ?_
        exact at'
      · omega
  -- the plan ahead of k, the plan from k on
  have second : ∀ B : Nat, B < 4 → (∀ m : Nat, (m : Int) < k → (B : Int) = a) → (k = 0 → B = b) → x_A y_Tu_outBy 11 [some oTu, some (xI (a : Int)), some (xI (b : Int)), some (xI (k : Int)), some (xI (f_fi fi)), some (xI (y : Int)), some (xI (B : Int)), none, none, none, none] [] (S0, G) 0 0 Q := by
    intro B hB hBa hBb
    have third : ∀ E : Nat, E < 4 → (∀ m : Nat, m < y → (k : Int) ≤ m → (E : Int) = b) → (B ≠ E → k < y) → x_A y_Tu_outBy 25 [some oTu, some (xI (a : Int)), some (xI (b : Int)), some (xI (k : Int)), some (xI (f_fi fi)), some (xI (y : Int)), some (xI (B : Int)), some (xI (E : Int)), none, none, none] [] (S0, G) 0 0 Q := by
      intro E hE hEb hBE
      have pl : ∀ T : Nat, (B ≠ E → T = k) → ∀ m, m < y → f_plan ((B : Int), (E : Int), (T : Int), f_fi fi) m = f_plan ((a : Int), (b : Int), (k : Int), f_fi fi) m := by
        intro T hT m hm
        unfold f_plan
        dsimp only
        by_cases c1 : (m : Int) < k
        · rw [if_pos c1, ← hBa m c1]
          by_cases c2 : B = E
          · subst c2; split <;> rfl
          · rw [hT c2, if_pos c1]
        · rw [if_neg c1, ← hEb m hm (by omega)]
          by_cases c2 : B = E
          · subst c2; split <;> rfl
          · rw [hT c2, if_neg c1]
      refine x_iload d_Tu_outBy_25 rfl ?_
      refine x_iload d_Tu_outBy_27 rfl ?_
      refine x_icmp_ne (36) d_Tu_outBy_29 (by decide) (fun g => ?_) (fun g => ?_)
      · refine x_iload_n d_Tu_outBy_36 rfl rfl ?_
        refine x_istore d_Tu_outBy_37 (by decide) ?_
        dsimp only [x_st1, x_st2, x_kill, List.set, List.getElem?_cons_zero, List.getElem?_cons_succ]
        exact rest B E k hB hE (by have := hBE (by omega); omega) (pl k (fun _ => rfl))
      · refine x_iconst (0) d_Tu_outBy_32 rfl ⟨by decide, by decide⟩ ?_
        refine x_goto (37) d_Tu_outBy_33 (by decide) ?_
        refine x_istore d_Tu_outBy_37 (by decide) ?_
        dsimp only [x_st1, x_st2, x_kill, List.set, List.getElem?_cons_zero, List.getElem?_cons_succ]
        exact rest B E 0 hB hE (by omega) (pl 0 (fun z => absurd (by omega) z))
    refine x_iload_n d_Tu_outBy_11 rfl rfl ?_
    refine x_iload d_Tu_outBy_12 rfl ?_
    refine x_icmp_lt (22) d_Tu_outBy_14 (by decide) (fun g => ?_) (fun g => ?_)
    · refine x_iload_n d_Tu_outBy_22 rfl rfl ?_
      refine x_istore d_Tu_outBy_23 (by decide) ?_
      dsimp only [x_st1, x_st2, x_kill, List.set, List.getElem?_cons_zero, List.getElem?_cons_succ]
      exact third b hb (fun _ _ _ => rfl) (fun _ => by omega)
    · refine x_iload d_Tu_outBy_17 rfl ?_
      refine x_goto (23) d_Tu_outBy_19 (by decide) ?_
      refine x_istore d_Tu_outBy_23 (by decide) ?_
      dsimp only [x_st1, x_st2, x_kill, List.set, List.getElem?_cons_zero, List.getElem?_cons_succ]
      exact third B hB (fun m hm hkm => by omega) (fun z => absurd rfl z)
  refine x_iload_n d_Tu_outBy_0 rfl rfl ?_
  refine x_if_ne (8) d_Tu_outBy_1 (by decide) (fun g => ?_) (fun g => ?_)
  · refine x_iload_n d_Tu_outBy_8 rfl rfl ?_
    refine x_istore d_Tu_outBy_9 (by decide) ?_
    dsimp only [x_st1, x_st2, x_kill, List.set, List.getElem?_cons_zero, List.getElem?_cons_succ]
    exact second a ha (fun _ _ => rfl) (fun z => by omega)
  · refine x_iload_n d_Tu_outBy_4 rfl rfl ?_
    refine x_goto (9) d_Tu_outBy_5 (by decide) ?_
    refine x_istore d_Tu_outBy_9 (by decide) ?_
    dsimp only [x_st1, x_st2, x_kill, List.set, List.getElem?_cons_zero, List.getElem?_cons_succ]
    exact second b hb (fun m hm => by omega) (fun _ => rfl)
theorem f_bo_s (h : HH) (f : Int) (y p : Nat) : f_bo h f y (p + 1) = max (f_bo h f y p) (f_out h ((p : Int), (p : Int), 0, f) y (f_made h (h.2 6))) := rfl
/-- nobody can be out more often than once -/
theorem f_out_bd (hh : Hwf h) (c : CC) {y : Nat} (hy : y ≤ 20) (hm : isMin (cutF h (f_sh h c) y (h.1 9 0 1).toNat (f_made h (h.2 6))) (f_out h c y (f_made h (h.2 6)))) : f_out h c y (f_made h (h.2 6)) ≤ f_people h := by
  have := hm.2 (fun n => decide (n = 336)) ⟨rfl, rfl⟩
  have := cutF_src hh (f_sh h c) y (h.1 9 0 1).toNat (f_made h (h.2 6)) hy
  omega
end CU
