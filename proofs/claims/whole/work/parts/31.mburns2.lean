/-! the reference: burns, from a minute to the next one -/
def bW (h : HH) (ai a x : Nat → Int) (G0 : Nat → Nat → Int) (m p : Nat) : Nat → Nat → Int :=
  radd (radd (radd G0 m_above (sk_DA h ai a (8 * (m + 1)) p)) m_mixed (sk_DM h ai a x (8 * (m + 1)) p)) m_gone (pt (m + 1) (sk_go h ai a x p))
theorem bW_s (h : HH) (ai a x : Nat → Int) (G0 : Nat → Nat → Int) (m p : Nat) : g_drift h ai (g_rise h ai (bW h ai a x G0 m p) p m (a p)) p m (x p) = bW h ai a x G0 m (p + 1) := by
  funext i b
  unfold g_drift g_rise bW radd
  by_cases h1 : i = m_above
  · subst h1
    simp only [if_true, show (m_above = m_mixed) = False from by decide, show (m_above = m_gone) = False from by decide, if_false]
    show _ = G0 m_above b + (sk_DA h ai a (8 * (m + 1)) p b + (f_dA h ai p (8 * (m + 1)) (a p) (h.2 1) b + pt (8 * (m + 1) + p) (f_ra h ai p (a p) - f_fall h ai p (a p)) b))
    omega
  · by_cases h2 : i = m_mixed
    · subst h2
      simp only [if_true, show (m_mixed = m_above) = False from by decide, show (m_mixed = m_gone) = False from by decide, if_false]
      show _ = G0 m_mixed b + (sk_DM h ai a x (8 * (m + 1)) p b + (pt (8 * (m + 1) + p) (f_fall h ai p (a p)) b + (f_dM h ai p (8 * (m + 1)) (x p) (h.2 1) b + pt (8 * (m + 1) + p) (f_rm h ai p (x p)) b)))
      omega
    · by_cases h3 : i = m_gone
      · subst h3
        simp only [if_true, show (m_gone = m_above) = False from by decide, show (m_gone = m_mixed) = False from by decide, if_false]
        show _ = G0 m_gone b + pt (m + 1) (sk_go h ai a x p + (f_ga h ai p (a p) + f_gm h ai p (x p))) b
        unfold pt
        split <;> omega
      · simp only [h1, h2, h3, if_false]
theorem bW_0 (h : HH) (ai a x : Nat → Int) (G0 : Nat → Nat → Int) (m : Nat) : bW h ai a x G0 m 0 = G0 := by
  unfold bW
  show radd (radd (radd G0 m_above (fun _ => 0)) m_mixed (fun _ => 0)) m_gone (pt (m + 1) 0) = G0
  rw [radd_0, radd_0, show pt (m + 1) 0 = fun _ => 0 from by funext b; unfold pt; split <;> rfl, radd_0]
theorem bW_o {h : HH} {ai a x : Nat → Int} {G0 : Nat → Nat → Int} {m p i : Nat} (h1 : i ≠ m_above) (h2 : i ≠ m_mixed) (h3 : i ≠ m_gone) : bW h ai a x G0 m p i = G0 i := by
  unfold bW
  rw [radd_cell h3, radd_cell h2, radd_cell h1]
theorem bW_a (h : HH) (ai a x : Nat → Int) (G0 : Nat → Nat → Int) (m p b : Nat) : bW h ai a x G0 m p m_above b = G0 m_above b + sk_DA h ai a (8 * (m + 1)) p b := by
  unfold bW
  rw [radd_cell (by decide), radd_cell (by decide), radd_at]
theorem bW_m (h : HH) (ai a x : Nat → Int) (G0 : Nat → Nat → Int) (m p b : Nat) : bW h ai a x G0 m p m_mixed b = G0 m_mixed b + sk_DM h ai a x (8 * (m + 1)) p b := by
  unfold bW
  rw [radd_cell (by decide), radd_at, radd_cell (by decide)]
theorem bW_g (h : HH) (ai a x : Nat → Int) (G0 : Nat → Nat → Int) (m p : Nat) : bW h ai a x G0 m p m_gone (m + 1) = G0 m_gone (m + 1) + sk_go h ai a x p := by
  unfold bW
  rw [radd_at, radd_cell (by decide), radd_cell (by decide)]
  unfold pt
  rw [if_pos rfl]
theorem bW_rep {h : HH} {ai a x : Nat → Int} {G0 : Nat → Nat → Int} (r : mRep h G0) (m p : Nat) : mRep h (bW h ai a x G0 m p) :=
  ((r.radd (by decide) (Or.inr (by decide)) _).radd (by decide) (Or.inr (by decide)) _).radd (by decide) (Or.inr (by decide)) _
/-- the washing, for the first p pieces -/
def bV (h : HH) (W : Nat → Nat → Int) (mi : Nat → Int) (m p : Nat) : Nat → Nat → Int := fun i b =>
  if i = m_mixed ∧ 8 * (m + 1) ≤ b ∧ b < 8 * (m + 1) + p then W i b - sk_wash h m mi (b - 8 * (m + 1)) else if i = m_washed ∧ b = m + 1 then W i b + su (sk_wash h m mi) p else W i b
theorem bV_o {h : HH} {W : Nat → Nat → Int} {mi : Nat → Int} {m p i : Nat} (h1 : i ≠ m_mixed) (h2 : i ≠ m_washed) : bV h W mi m p i = W i := by
  funext b; unfold bV; rw [if_neg (fun q => h1 q.1), if_neg (fun q => h2 q.1)]
theorem b_step {h : HH} {G : Nat → Nat → Int} {c : CC} (hh : Hwf h) (r : mRep h G) (hc : -1 ≤ c.2.2.2 ∧ c.2.2.2 < h.2 2) {Q : XRes → XM → Prop} (m : Nat) (hm : m < 20)
    (kk : ∀ G', bInv h c G (m + 1) G' → (∀ f, f < 8 → G' m_lostAt f = bLost0 h c (m + 1) f) → x_A y_M_burns 81 [some oM, some (xI c.1), some (xI c.2.1), some (xI c.2.2.1), some (xI c.2.2.2), some (xI ((m + 1 : Nat) : Int)), none, none] [] (S0, G') 0 0 Q) :
    ∀ G', bInv h c G m G' → (∀ w, w < h.2 1 → G' m_air (12 * m + w) = f_air h (sk h c m).2.2.1 (f_plan c m) m w) → (∀ f, f < 8 → G' m_lostAt f = (sk h c m).2.2.1 f) → x_A y_M_burns 147 [some oM, some (xI c.1), some (xI c.2.1), some (xI c.2.2.1), some (xI c.2.2.2), some (xI (m : Int)), none, none] [] (S0, G') 0 0 Q := by
  intro G' hI hair hlo
  have b := hh.1
  obtain ⟨i1, i2, i3, i4⟩ := hI
  have r1 := i1.rep r
  obtain ⟨z1, z2, z3, z4⟩ := i2 m (Nat.le_refl m)
  obtain ⟨l1, l2, l3, l4⟩ := sk_le hh hc (m := m) (by omega)
  obtain ⟨n1, n2, n3, n4⟩ := sk_le hh hc (m := m + 1) (by omega)
  have hgv := f_gives_bd hh hc m
  generalize hs : sk h c m = s at *
  have hs1 : sk h c (m + 1) = sk_step h c m s := by rw [← hs]; rfl
  rw [hs1] at n1 n2 n3 n4
  refine x_iload d_M_burns_147 rfl ?_
  refine x_bipush (20) d_M_burns_149 rfl ⟨by decide, by decide⟩ ?_
  refine x_icmp_ne (155) d_M_burns_151 (by decide) (fun c0 => ?_) (fun c0 => ?_)
  · refine x_aload_n d_M_burns_155 rfl rfl ?_
    refine x_getF (kf := 57) d_M_burns_156 rfl rfl rfl in_M f_M_141 ?_
    refine x_iload d_M_burns_159 rfl ?_
    refine x_iconst (1) d_M_burns_161 rfl ⟨by decide, by decide⟩ ?_
    refine x_iaddN d_M_burns_162 (by omega) (by omega) ?_
    refine x_aload_n d_M_burns_163 rfl rfl ?_
    refine x_getF (kf := 57) d_M_burns_164 rfl rfl rfl in_M f_M_141 ?_
    refine x_iload d_M_burns_167 rfl ?_
    refine x_ialdN (m) d_M_burns_169 rfl (by omega) (by omega) ?_
    refine x_aload_n d_M_burns_170 rfl rfl ?_
    refine x_iload d_M_burns_171 rfl ?_
    refine x_iload d_M_burns_173 rfl ?_
    refine x_V1 d_M_burns_175 e_M_burns_M_gives ⟨rfl, rfl, Nat.zero_le _, Nat.zero_le _⟩ rfl rfl rfl rfl (Nat.le_of_ble_eq_true rfl) (s_gives hh r1 _ m hc (by omega)) ?_
    rw [z2]
    refine x_iaddN d_M_burns_178 (by omega) (by omega) ?_
    refine x_iastN (m + 1) d_M_burns_179 rfl (by omega) (by omega) ?_
    refine x_aload_n d_M_burns_180 rfl rfl ?_
    refine x_getF (kf := 58) d_M_burns_181 rfl rfl rfl in_M f_M_144 ?_
    refine x_iload d_M_burns_184 rfl ?_
    refine x_iconst (1) d_M_burns_186 rfl ⟨by decide, by decide⟩ ?_
    refine x_iaddN d_M_burns_187 (by omega) (by omega) ?_
    refine x_aload_n d_M_burns_188 rfl rfl ?_
    refine x_getF (kf := 58) d_M_burns_189 rfl rfl rfl in_M f_M_144 ?_
    refine x_iload d_M_burns_192 rfl ?_
    refine x_ialdN (m) d_M_burns_194 rfl (by omega) (by omega) ?_
    rw [up_cell (by decide), z3]
    refine x_iastN (m + 1) d_M_burns_195 rfl (by omega) (by omega) ?_
    refine x_aload_n d_M_burns_196 rfl rfl ?_
    refine x_getF (kf := 59) d_M_burns_197 rfl rfl rfl in_M f_M_147 ?_
    refine x_iload d_M_burns_200 rfl ?_
    refine x_iconst (1) d_M_burns_202 rfl ⟨by decide, by decide⟩ ?_
    refine x_iaddN d_M_burns_203 (by omega) (by omega) ?_
    refine x_aload_n d_M_burns_204 rfl rfl ?_
    refine x_getF (kf := 59) d_M_burns_205 rfl rfl rfl in_M f_M_147 ?_
    refine x_iload d_M_burns_208 rfl ?_
    refine x_ialdN (m) d_M_burns_210 rfl (by omega) (by omega) ?_
    rw [up_cell (by decide), up_cell (by decide), z4]
    refine x_iastN (m + 1) d_M_burns_211 rfl (by omega) (by omega) ?_
    generalize hG0 : up (up (up G' m_gave (m + 1) (s.2.2.2.1 + f_gives h c.2.2.2 m)) m_gone (m + 1) s.2.2.2.2.1) m_washed (m + 1) s.2.2.2.2.2 = G0
    have o0 : ∀ i, i ≠ m_gave → i ≠ m_gone → i ≠ m_washed → G0 i = G' i := fun i a1 a2 a3 => by rw [← hG0, up_cell a3, up_cell a2, up_cell a1]
    have v1 : ∀ m', G0 m_gave m' = if m' = m + 1 then s.2.2.2.1 + f_gives h c.2.2.2 m else G' m_gave m' := fun m' => by rw [← hG0, up_cell (by decide), up_cell (by decide), up_row]
    have v2 : ∀ m', G0 m_gone m' = if m' = m + 1 then s.2.2.2.2.1 else G' m_gone m' := fun m' => by rw [← hG0, up_cell (by decide), up_row, up_cell (by decide)]
    have v3 : ∀ m', G0 m_washed m' = if m' = m + 1 then s.2.2.2.2.2 else G' m_washed m' := fun m' => by rw [← hG0, up_row, up_cell (by decide), up_cell (by decide)]
    have f0 : mFrame G G0 := by rw [← hG0]; exact ((i1.up (by decide) (by decide)).up (by decide) (by decide)).up (by decide) (by decide)
    have r0 := f0.rep r
    clear hG0
    have ea : ∀ w, w < h.2 1 → G0 m_air (12 * m + w) = sk_ai h c m s w := fun w hw => by rw [o0 m_air (by decide) (by decide) (by decide)]; exact hair w hw
    have bai : ∀ w, -12 ≤ sk_ai h c m s w ∧ sk_ai h c m s w ≤ 12 := fun w => by unfold sk_ai f_air; omega
    have ba : ∀ p, 0 ≤ sk_a h c m s p ∧ sk_a h c m s p ≤ 2100000 := fun p => by have := sk_a_bd hh hc m (fun q => (l1 q).1) p; have := l1 p; omega
    have bx : ∀ p, 0 ≤ s.2.1 p ∧ s.2.1 p ≤ 2100000 := fun p => by have := l1 p; omega
    have row : ∀ j, j < 168 → 0 ≤ G0 m_above j ∧ G0 m_above j ≤ 2000000 ∧ 0 ≤ G0 m_mixed j ∧ G0 m_mixed j ≤ 2000000 := by
      intro j hj
      rw [o0 m_above (by decide) (by decide) (by decide), o0 m_mixed (by decide) (by decide) (by decide)]
      by_cases q : 8 * (m + 1) ≤ j
      · have := i3 j q hj; omega
      · obtain ⟨q1, -⟩ := i2 (j / 8) (by omega)
        have q2 := q1 (j % 8) (by omega)
        rw [show 8 * (j / 8) + j % 8 = j by omega] at q2
        have := (sk_le hh hc (m := j / 8) (by omega)).1 (j % 8)
        omega
    have cur : ∀ q, q < 8 → G0 m_above (8 * m + q) = s.1 q ∧ G0 m_mixed (8 * m + q) = s.2.1 q := fun q hq => by rw [o0 m_above (by decide) (by decide) (by decide), o0 m_mixed (by decide) (by decide) (by decide)]; exact z1 q hq
    have nxt : ∀ q, q < 8 → G0 m_above (8 * (m + 1) + q) = 0 ∧ G0 m_mixed (8 * (m + 1) + q) = 0 := fun q hq => by rw [o0 m_above (by decide) (by decide) (by decide), o0 m_mixed (by decide) (by decide) (by decide)]; exact i3 _ (by omega) (by omega)
    have e0 := r0.1
    -- the washing
    have wash : x_A y_M_burns 290 [some oM, some (xI c.1), some (xI c.2.1), some (xI c.2.2.1), some (xI c.2.2.2), some (xI (m : Int)), none, none] [] (S0, bW h (sk_ai h c m s) (sk_a h c m s) s.2.1 G0 m (h.2 0)) 0 0 Q := by
      generalize hmi : sk_DM h (sk_ai h c m s) (sk_a h c m s) s.2.1 0 (h.2 0) = mi
      have wm : ∀ q, q < 8 → bW h (sk_ai h c m s) (sk_a h c m s) s.2.1 G0 m (h.2 0) m_mixed (8 * (m + 1) + q) = mi q := fun q hq => by
        rw [bW_m, (nxt q hq).2, sk_DM_t, ← hmi]; omega
      have bmi : ∀ q, 0 ≤ mi q ∧ mi q ≤ 8 * (2 * 2100000) := fun q => by
        have := sk_DM_bd h (sk_ai h c m s) ba bx 0 (h.2 0) q
        rw [hmi] at this
        have : (h.2 0 : Int) * (2 * 2100000) ≤ 8 * (2 * 2100000) := Int.mul_le_mul_of_nonneg_right (by omega) (by omega)
        omega
      have bws : ∀ q, 0 ≤ sk_wash h m mi q ∧ sk_wash h m mi q ≤ mi q := fun q => by have := bmi q; unfold sk_wash; split <;> omega
      have rW := bW_rep (ai := sk_ai h c m s) (a := sk_a h c m s) (x := s.2.1) r0 m (h.2 0)
      have Wo : ∀ i, i ≠ m_above → i ≠ m_mixed → i ≠ m_gone → bW h (sk_ai h c m s) (sk_a h c m s) s.2.1 G0 m (h.2 0) i = G0 i := fun i a1 a2 a3 => bW_o a1 a2 a3
      have Wa := bW_a h (sk_ai h c m s) (sk_a h c m s) s.2.1 G0 m (h.2 0)
      have Wm := bW_m h (sk_ai h c m s) (sk_a h c m s) s.2.1 G0 m (h.2 0)
      have Wg := bW_g h (sk_ai h c m s) (sk_a h c m s) s.2.1 G0 m (h.2 0)
      have Wg2 : ∀ m', m' ≠ m + 1 → bW h (sk_ai h c m s) (sk_a h c m s) s.2.1 G0 m (h.2 0) m_gone m' = G0 m_gone m' := fun m' hne => by
        unfold bW; rw [radd_at, radd_cell (by decide), radd_cell (by decide)]; unfold pt; rw [if_neg hne]; omega
      generalize bW h (sk_ai h c m s) (sk_a h c m s) s.2.1 G0 m (h.2 0) = W at *
      refine x_iconst (0) d_M_burns_290 rfl ⟨by decide, by decide⟩ ?_
      refine x_istore d_M_burns_291 (by decide) ?_
      dsimp only [x_st1, x_st2, x_kill, List.set, List.getElem?_cons_zero, List.getElem?_cons_succ]
      have fin : x_A y_M_burns 378 [some oM, some (xI c.1), some (xI c.2.1), some (xI c.2.2.1), some (xI c.2.2.2), some (xI (m : Int)), none, none] [] (S0, bV h W mi m (h.2 0)) 0 0 Q := by
        refine x_iincN d_M_burns_378 rfl (by decide) (by omega) (by omega) ?_
        dsimp only [x_st1, x_st2, x_kill, List.set, List.getElem?_cons_zero, List.getElem?_cons_succ]
        refine x_goto (81) d_M_burns_381 (by decide) ?_
        have sMi : ∀ q, (sk h c (m + 1)).2.1 q = mi q - (if q < h.2 0 then sk_wash h m mi q else 0) := fun q => by rw [hs1, ← hmi]; rfl
        have sAb : ∀ q, (sk h c (m + 1)).1 q = sk_DA h (sk_ai h c m s) (sk_a h c m s) 0 (h.2 0) q := fun q => by rw [hs1]; rfl
        have cellA : bV h W mi m (h.2 0) m_above = W m_above := bV_o (by decide) (by decide)
        have lowM : ∀ j, ¬ (8 * (m + 1) ≤ j ∧ j < 8 * (m + 1) + h.2 0) → bV h W mi m (h.2 0) m_mixed j = W m_mixed j := fun j hj => by
          unfold bV; rw [if_neg (fun q => hj q.2), if_neg (fun q => absurd q.1 (by decide))]
        refine kk _ ⟨fun i hi => ?_, fun m' hm' => ?_, fun j j1 j2 => ?_, fun m' hm' w hw => ?_⟩ (fun f hf => ?_)
        · rw [bV_o (by intro q; subst q; exact absurd hi (by decide)) (by intro q; subst q; exact absurd hi (by decide)), Wo i (by intro q; subst q; exact absurd hi (by decide)) (by intro q; subst q; exact absurd hi (by decide)) (by intro q; subst q; exact absurd hi (by decide))]
          exact f0 i hi
        · by_cases q : m' = m + 1
          · subst q
            refine ⟨fun q hq => ⟨?_, ?_⟩, ?_, ?_, ?_⟩
            · rw [cellA, Wa, (nxt q hq).1, sk_DA_t, sAb]; omega
            · rw [sMi]
              by_cases q2 : q < h.2 0
              · unfold bV
                rw [if_pos ⟨rfl, by omega, by omega⟩, if_pos q2, wm q hq, Nat.add_sub_cancel_left]
              · rw [lowM _ (by omega), if_neg q2, wm q hq]; omega
            · rw [bV_o (by decide) (by decide), Wo _ (by decide) (by decide) (by decide), v1, if_pos rfl, hs1]; rfl
            · rw [bV_o (by decide) (by decide), Wg, v2, if_pos rfl, hs1]; rfl
            · unfold bV
              rw [if_neg (fun z => absurd z.1 (by decide)), if_pos ⟨rfl, rfl⟩, Wo _ (by decide) (by decide) (by decide), v3, if_pos rfl, hs1, ← hmi]; rfl
          · obtain ⟨y1, y2, y3, y4⟩ := i2 m' (by omega)
            refine ⟨fun q hq => ⟨?_, ?_⟩, ?_, ?_, ?_⟩
            · rw [cellA, Wa, sk_DA_o hh _ _ _ (Nat.le_refl _) (Or.inl (by omega)), o0 m_above (by decide) (by decide) (by decide), (y1 q hq).1]; omega
            · rw [lowM _ (by omega), Wm, sk_DM_o hh _ _ _ _ (Nat.le_refl _) (Or.inl (by omega)), o0 m_mixed (by decide) (by decide) (by decide), (y1 q hq).2]; omega
            · rw [bV_o (by decide) (by decide), Wo _ (by decide) (by decide) (by decide), v1, if_neg q]; exact y2
            · rw [bV_o (by decide) (by decide), Wg2 _ q, v2, if_neg q]; exact y3
            · unfold bV
              rw [if_neg (fun z => absurd z.1 (by decide)), if_neg (fun z => q z.2), Wo _ (by decide) (by decide) (by decide), v3, if_neg q]; exact y4
        · have y := i3 j (by omega) j2
          refine ⟨?_, ?_⟩
          · rw [cellA, Wa, sk_DA_o hh _ _ _ (Nat.le_refl _) (Or.inr (by omega)), o0 m_above (by decide) (by decide) (by decide), y.1]; rfl
          · rw [lowM _ (by omega), Wm, sk_DM_o hh _ _ _ _ (Nat.le_refl _) (Or.inr (by omega)), o0 m_mixed (by decide) (by decide) (by decide), y.2]; rfl
        · rw [bV_o (by decide) (by decide), Wo _ (by decide) (by decide) (by decide), o0 m_air (by decide) (by decide) (by decide)]
          by_cases q : m' = m
          · subst q; rw [hs]; exact hair w hw
          · exact i4 m' (by omega) w hw
        · rw [bV_o (by decide) (by decide), Wo _ (by decide) (by decide) (by decide), o0 m_lostAt (by decide) (by decide) (by decide), hlo f hf]
          show s.2.2.1 f = (sk h c m).2.2.1 f
          rw [hs]
      have start : x_A y_M_burns 293 [some oM, some (xI c.1), some (xI c.2.1), some (xI c.2.2.1), some (xI c.2.2.2), some (xI (m : Int)), some (xI ((0 : Nat) : Int)), none] [] (S0, bV h W mi m 0) 0 0 Q := by
        refine x_up_to (P := fun p => x_A y_M_burns 293 [some oM, some (xI c.1), some (xI c.2.1), some (xI c.2.2.1), some (xI c.2.2.2), some (xI (m : Int)), some (xI (p : Int)), none] [] (S0, bV h W mi m p) 0 0 Q) 0 (h.2 0) (Nat.zero_le _) ?_ (fun p _ hp k => ?_)
        · have e1 : bV h W mi m (h.2 0) o_M 1 = h.2 0 := by rw [bV_o (by decide) (by decide)]; exact rW.1.1
          refine x_iload d_M_burns_293 rfl ?_
          refine x_aload_n d_M_burns_295 rfl rfl ?_
          refine x_getIG (kf := 1) d_M_burns_296 rfl rfl rfl in_M f_M_228 ?_
          refine x_icmp_ge (378) d_M_burns_299 (by decide) (fun c1 => ?_) (fun c1 => ?_)
          · exact x_sub (fun j v hj => by
              match j, hj with
              | 0, hj => exact hj
              | 1, hj => exact hj
              | 2, hj => exact hj
              | 3, hj => exact hj
              | 4, hj => exact hj
              | 5, hj => exact hj
              | 6, hj => cases hj
              | 7, hj => cases hj
              | j + 8, hj => cases hj) fin
          · omega
        · have e1 : bV h W mi m p o_M 1 = h.2 0 := by rw [bV_o (by decide) (by decide)]; exact rW.1.1
          have e2 : bV h W mi m p m_water p = h.1 0 p 2 := by rw [bV_o (by decide) (by decide)]; exact (rW.2.1 p hp).2.2
          have e3 : bV h W mi m p m_mixed (8 * (m + 1) + p) = mi p := by
            unfold bV; rw [if_neg (by omega), if_neg (fun q => absurd q.1 (by decide)), wm p (by omega)]
          have e4 : bV h W mi m p m_washed (m + 1) = s.2.2.2.2.2 + su (sk_wash h m mi) p := by
            unfold bV; rw [if_neg (fun q => absurd q.1 (by decide)), if_pos ⟨rfl, rfl⟩, Wo _ (by decide) (by decide) (by decide), v3, if_pos rfl]
          have bp := bmi p
          have bsu := su_bd (f := sk_wash h m mi) (c := 0) (d := 8 * (2 * 2100000)) (n := p) (fun j _ => by have := bws j; have := bmi j; omega)
          have bsu2 : (p : Int) * (8 * (2 * 2100000)) ≤ 8 * (8 * (2 * 2100000)) := Int.mul_le_mul_of_nonneg_right (by omega) (by omega)
          refine x_iload d_M_burns_293 rfl ?_
          refine x_aload_n d_M_burns_295 rfl rfl ?_
          refine x_getIG (kf := 1) d_M_burns_296 rfl rfl rfl in_M f_M_228 ?_
          refine x_icmp_ge (378) d_M_burns_299 (by decide) (fun c1 => ?_) (fun c1 => ?_)
          · omega
          · refine x_aload_n d_M_burns_302 rfl rfl ?_
            refine x_getF (kf := 17) d_M_burns_303 rfl rfl rfl in_M f_M_29 ?_
            refine x_iload d_M_burns_306 rfl ?_
            refine x_ialdN (p) d_M_burns_308 rfl (by omega) (by omega) ?_
            rw [e2]
            refine x_iload d_M_burns_309 rfl ?_
            refine x_iconst (1) d_M_burns_311 rfl ⟨by decide, by decide⟩ ?_
            refine x_iaddN d_M_burns_312 (by omega) (by omega) ?_
            refine x_icmp_le (319) d_M_burns_313 (by decide) (fun c2 => ?_) (fun c2 => ?_)
            · refine x_aload_n d_M_burns_319 rfl rfl ?_
              refine x_getF (kf := 54) d_M_burns_320 rfl rfl rfl in_M f_M_132 ?_
              refine x_bipush (8) d_M_burns_323 rfl ⟨by decide, by decide⟩ ?_
              refine x_iload d_M_burns_325 rfl ?_
              refine x_iconst (1) d_M_burns_327 rfl ⟨by decide, by decide⟩ ?_
              refine x_iaddN d_M_burns_328 (by omega) (by omega) ?_
              refine x_imulN d_M_burns_329 (by omega) (by omega) ?_
              refine x_iload d_M_burns_330 rfl ?_
              refine x_iaddN d_M_burns_332 (by omega) (by omega) ?_
              refine x_ialdN (8 * (m + 1) + p) d_M_burns_333 rfl (by omega) (by omega) ?_
              rw [e3]
              refine x_iconst (4) d_M_burns_334 rfl ⟨by decide, by decide⟩ ?_
              refine x_idiv d_M_burns_335 (by decide) ?_
              rw [x_div_pos (by omega) (by omega) (by omega) (by omega)]
              have ew : sk_wash h m mi p = mi p / 4 := by unfold sk_wash; rw [if_pos c2]
              refine x_istore d_M_burns_336 (by decide) ?_
              dsimp only [x_st1, x_st2, x_kill, List.set, List.getElem?_cons_zero, List.getElem?_cons_succ]
              refine x_aload_n d_M_burns_338 rfl rfl ?_
              refine x_getF (kf := 54) d_M_burns_339 rfl rfl rfl in_M f_M_132 ?_
              refine x_bipush (8) d_M_burns_342 rfl ⟨by decide, by decide⟩ ?_
              refine x_iload d_M_burns_344 rfl ?_
              refine x_iconst (1) d_M_burns_346 rfl ⟨by decide, by decide⟩ ?_
              refine x_iaddN d_M_burns_347 (by omega) (by omega) ?_
              refine x_imulN d_M_burns_348 (by omega) (by omega) ?_
              refine x_iload d_M_burns_349 rfl ?_
              refine x_iaddN d_M_burns_351 (by omega) (by omega) ?_
              refine x_dup2 d_M_burns_352 rfl rfl ?_
              refine x_ialdN (8 * (m + 1) + p) d_M_burns_353 rfl (by omega) (by omega) ?_
              rw [e3]
              refine x_iload d_M_burns_354 rfl ?_
              refine x_isubN d_M_burns_356 (by omega) (by omega) ?_
              refine x_iastN (8 * (m + 1) + p) d_M_burns_357 rfl (by omega) (by omega) ?_
              refine x_aload_n d_M_burns_358 rfl rfl ?_
              refine x_getF (kf := 59) d_M_burns_359 rfl rfl rfl in_M f_M_147 ?_
              refine x_iload d_M_burns_362 rfl ?_
              refine x_iconst (1) d_M_burns_364 rfl ⟨by decide, by decide⟩ ?_
              refine x_iaddN d_M_burns_365 (by omega) (by omega) ?_
              refine x_dup2 d_M_burns_366 rfl rfl ?_
              refine x_ialdN (m + 1) d_M_burns_367 rfl (by omega) (by omega) ?_
              rw [up_cell (by decide), e4]
              refine x_iload d_M_burns_368 rfl ?_
              refine x_iaddN d_M_burns_370 (by omega) (by omega) ?_
              refine x_iastN (m + 1) d_M_burns_371 rfl (by omega) (by omega) ?_
              have eG : up (up (bV h W mi m p) m_mixed (8 * (m + 1) + p) (mi p - mi p / 4)) m_washed (m + 1) (s.2.2.2.2.2 + su (sk_wash h m mi) p + mi p / 4) = bV h W mi m (p + 1) := by
                funext i b
                by_cases q1 : i = m_mixed
                · subst q1
                  by_cases q2 : b = 8 * (m + 1) + p
                  · subst q2
                    rw [up_cell (by decide), up_same]
                    unfold bV
                    rw [if_pos ⟨rfl, by omega, by omega⟩, wm p (by omega), Nat.add_sub_cancel_left, ew]
                  · rw [up_cell (by decide), up_ne q2]
                    unfold bV
                    by_cases q3 : 8 * (m + 1) ≤ b ∧ b < 8 * (m + 1) + p
                    · rw [if_pos ⟨rfl, q3⟩, if_pos ⟨rfl, q3.1, by omega⟩]
                    · rw [if_neg (fun z => q3 z.2), if_neg (fun z => absurd z.1 (by decide)), if_neg (fun z => q3 ⟨z.2.1, by omega⟩), if_neg (fun z => absurd z.1 (by decide))]
                · by_cases q2 : i = m_washed
                  · subst q2
                    by_cases q3 : b = m + 1
                    · subst q3
                      rw [up_same]
                      unfold bV
                      rw [if_neg (fun z => absurd z.1 (by decide)), if_pos ⟨rfl, rfl⟩, Wo _ (by decide) (by decide) (by decide), v3, if_pos rfl]
                      show _ = s.2.2.2.2.2 + (su (sk_wash h m mi) p + sk_wash h m mi p)
                      rw [ew]; omega
                    · rw [up_ne q3, up_cell (by decide)]
                      unfold bV
                      rw [if_neg (fun z => absurd z.1 (by decide)), if_neg (fun z => q3 z.2), if_neg (fun z => absurd z.1 (by decide)), if_neg (fun z => q3 z.2)]
                  · rw [up_cell q2, up_cell q1, bV_o q1 q2, bV_o q1 q2]
              rw [eG]
              refine x_iincN d_M_burns_372 rfl (by decide) (by omega) (by omega) ?_
              dsimp only [x_st1, x_st2, x_kill, List.set, List.getElem?_cons_zero, List.getElem?_cons_succ]
              refine x_goto (293) d_M_burns_375 (by decide) ?_
              exact x_sub (fun j v hj => by
                match j, hj with
                | 0, hj => exact hj
                | 1, hj => exact hj
                | 2, hj => exact hj
                | 3, hj => exact hj
                | 4, hj => exact hj
                | 5, hj => exact hj
                | 6, hj => exact hj
                | 7, hj => cases hj
                | j + 8, hj => cases hj) k
            · have ew : sk_wash h m mi p = 0 := by unfold sk_wash; rw [if_neg c2]
              have eG : bV h W mi m (p + 1) = bV h W mi m p := by
                funext i b
                by_cases q1 : i = m_mixed
                · subst q1
                  unfold bV
                  by_cases q3 : 8 * (m + 1) ≤ b ∧ b < 8 * (m + 1) + p
                  · rw [if_pos ⟨rfl, q3.1, by omega⟩, if_pos ⟨rfl, q3⟩]
                  · by_cases q4 : b = 8 * (m + 1) + p
                    · subst q4
                      rw [if_pos ⟨rfl, by omega, by omega⟩, if_neg (fun z => q3 z.2), if_neg (fun z => absurd z.1 (by decide)), Nat.add_sub_cancel_left, ew]; omega
                    · rw [if_neg (fun z => q3 ⟨z.2.1, by omega⟩), if_neg (fun z => absurd z.1 (by decide)), if_neg (fun z => q3 z.2), if_neg (fun z => absurd z.1 (by decide))]
                · by_cases q2 : i = m_washed
                  · subst q2
                    unfold bV
                    by_cases q3 : b = m + 1
                    · rw [if_neg (fun z => absurd z.1 (by decide)), if_pos ⟨rfl, q3⟩, if_neg (fun z => absurd z.1 (by decide)), if_pos ⟨rfl, q3⟩]
                      show _ + (su (sk_wash h m mi) p + sk_wash h m mi p) = _
                      rw [ew]; omega
                    · rw [if_neg (fun z => absurd z.1 (by decide)), if_neg (fun z => q3 z.2), if_neg (fun z => absurd z.1 (by decide)), if_neg (fun z => q3 z.2)]
                  · rw [bV_o q1 q2, bV_o q1 q2]
              rw [eG] at k
              refine x_goto (372) d_M_burns_316 (by decide) ?_
              refine x_iincN d_M_burns_372 rfl (by decide) (by omega) (by omega) ?_
              dsimp only [x_st1, x_st2, x_kill, List.set, List.getElem?_cons_zero, List.getElem?_cons_succ]
              refine x_goto (293) d_M_burns_375 (by decide) ?_
              exact k
      have e00 : bV h W mi m 0 = W := by
        funext i b
        unfold bV
        rw [if_neg (by omega)]
        by_cases q : i = m_washed ∧ b = m + 1
        · rw [if_pos q]; show W i b + 0 = _; omega
        · rw [if_neg q]
      rw [e00] at start
      exact start
    refine x_iconst (0) d_M_burns_212 rfl ⟨by decide, by decide⟩ ?_
    refine x_istore d_M_burns_213 (by decide) ?_
    dsimp only [x_st1, x_st2, x_kill, List.set, List.getElem?_cons_zero, List.getElem?_cons_succ]
    have start : x_A y_M_burns 215 [some oM, some (xI c.1), some (xI c.2.1), some (xI c.2.2.1), some (xI c.2.2.2), some (xI (m : Int)), some (xI ((0 : Nat) : Int)), none] [] (S0, bW h (sk_ai h c m s) (sk_a h c m s) s.2.1 G0 m 0) 0 0 Q := by
      refine x_up_to (P := fun p => x_A y_M_burns 215 [some oM, some (xI c.1), some (xI c.2.1), some (xI c.2.2.1), some (xI c.2.2.2), some (xI (m : Int)), some (xI (p : Int)), none] [] (S0, bW h (sk_ai h c m s) (sk_a h c m s) s.2.1 G0 m p) 0 0 Q) 0 (h.2 0) (Nat.zero_le _) ?_ (fun p _ hp k => ?_)
      · have e1 := (bW_rep (ai := sk_ai h c m s) (a := sk_a h c m s) (x := s.2.1) r0 m (h.2 0)).1
        refine x_iload d_M_burns_215 rfl ?_
        refine x_aload_n d_M_burns_217 rfl rfl ?_
        refine x_getIG (kf := 1) d_M_burns_218 rfl rfl rfl in_M f_M_228 ?_
        refine x_icmp_ge (290) d_M_burns_221 (by decide) (fun c1 => ?_) (fun c1 => ?_)
        · exact x_sub (fun j v hj => by
            match j, hj with
            | 0, hj => exact hj
            | 1, hj => exact hj
            | 2, hj => exact hj
            | 3, hj => exact hj
            | 4, hj => exact hj
            | 5, hj => exact hj
            | 6, hj => cases hj
            | 7, hj => cases hj
            | j + 8, hj => cases hj) wash
        · omega
      · have rW := bW_rep (ai := sk_ai h c m s) (a := sk_a h c m s) (x := s.2.1) r0 m p
        have e1 := rW.1
        have Wa := bW_a h (sk_ai h c m s) (sk_a h c m s) s.2.1 G0 m p
        have Wm := bW_m h (sk_ai h c m s) (sk_a h c m s) s.2.1 G0 m p
        have Wg := bW_g h (sk_ai h c m s) (sk_a h c m s) s.2.1 G0 m p
        have Wai : ∀ w, w < h.2 1 → bW h (sk_ai h c m s) (sk_a h c m s) s.2.1 G0 m p m_air (12 * m + w) = sk_ai h c m s w ∧ -12 ≤ sk_ai h c m s w ∧ sk_ai h c m s w ≤ 12 := fun w hw => by rw [bW_o (by decide) (by decide) (by decide)]; exact ⟨ea w hw, bai w⟩
        have bp : (p : Int) * 2100000 ≤ 8 * 2100000 := Int.mul_le_mul_of_nonneg_right (by omega) (by omega)
        have bp2 : (p : Int) * (2 * 2100000) ≤ 8 * (2 * 2100000) := Int.mul_le_mul_of_nonneg_right (by omega) (by omega)
        have wA : ∀ j, j < 168 → 0 ≤ bW h (sk_ai h c m s) (sk_a h c m s) s.2.1 G0 m p m_above j ∧ bW h (sk_ai h c m s) (sk_a h c m s) s.2.1 G0 m p m_above j ≤ 100000000 := fun j hj => by
          have q1 := row j hj; have q2 := sk_DA_bd h (sk_ai h c m s) ba (8 * (m + 1)) p j; rw [Wa]; omega
        have wM : ∀ j, j < 168 → 0 ≤ bW h (sk_ai h c m s) (sk_a h c m s) s.2.1 G0 m p m_mixed j ∧ bW h (sk_ai h c m s) (sk_a h c m s) s.2.1 G0 m p m_mixed j ≤ 100000000 := fun j hj => by
          have q1 := row j hj; have q2 := sk_DM_bd h (sk_ai h c m s) ba bx (8 * (m + 1)) p j; rw [Wm]; omega
        have wG : 0 ≤ bW h (sk_ai h c m s) (sk_a h c m s) s.2.1 G0 m p m_gone (m + 1) ∧ bW h (sk_ai h c m s) (sk_a h c m s) s.2.1 G0 m p m_gone (m + 1) ≤ 100000000 := by
          have q2 := sk_go_bd h (sk_ai h c m s) ba bx p; rw [Wg, v2, if_pos rfl]; omega
        have wa : bW h (sk_ai h c m s) (sk_a h c m s) s.2.1 G0 m p m_above (8 * m + p) = s.1 p := by
          rw [Wa, (cur p (by omega)).1, sk_DA_o hh _ _ _ (by omega) (Or.inl (by omega))]; omega
        have wx : bW h (sk_ai h c m s) (sk_a h c m s) s.2.1 G0 m p m_mixed (8 * m + p) = s.2.1 p := by
          rw [Wm, (cur p (by omega)).2, sk_DM_o hh _ _ _ _ (by omega) (Or.inl (by omega))]; omega
        have step := bW_s h (sk_ai h c m s) (sk_a h c m s) s.2.1 G0 m p
        generalize bW h (sk_ai h c m s) (sk_a h c m s) s.2.1 G0 m p = W at *
        have bap := ba p
        have rest : ∀ z : Int, s.1 p + z = sk_a h c m s p → x_A y_M_burns 272 [some oM, some (xI c.1), some (xI c.2.1), some (xI c.2.2.1), some (xI c.2.2.2), some (xI (m : Int)), some (xI (p : Int)), none] [xI z, xI (s.1 p), xI (m : Int), xI (p : Int), oM] (S0, W) 0 0 Q := by
          intro z hz
          refine x_iaddN d_M_burns_272 (by omega) (by omega) ?_
          rw [hz]
          refine x_V0 d_M_burns_273 e_M_burns_M_rises ⟨rfl, rfl, Nat.zero_le _, Nat.zero_le _⟩ rfl rfl rfl rfl (Nat.le_of_ble_eq_true rfl) (s_rises hh rW p m _ hp hm ⟨bap.1, by omega⟩ Wai (fun j hj => by have := wA j hj; omega) (fun j hj => by have := wM j hj; omega) (by omega)) ?_
          have rR : mRep h (g_rise h (sk_ai h c m s) W p m (sk_a h c m s p)) := (((rW.radd (by decide) (Or.inr (by decide)) _).radd (by decide) (Or.inr (by decide)) _).radd (by decide) (Or.inr (by decide)) _).radd (by decide) (Or.inr (by decide)) _
          have gM : ∀ j, g_rise h (sk_ai h c m s) W p m (sk_a h c m s p) m_mixed j = W m_mixed j + pt (8 * (m + 1) + p) (f_fall h (sk_ai h c m s) p (sk_a h c m s p)) j := fun j => by
            unfold g_rise; rw [radd_at, radd_cell (by decide), radd_cell (by decide), radd_cell (by decide)]
          have gG : g_rise h (sk_ai h c m s) W p m (sk_a h c m s p) m_gone (m + 1) = W m_gone (m + 1) + f_ga h (sk_ai h c m s) p (sk_a h c m s p) := by
            unfold g_rise; rw [radd_cell (by decide), radd_cell (by decide), radd_at, radd_cell (by decide)]; unfold pt; rw [if_pos rfl]
          have gI : ∀ w, w < h.2 1 → g_rise h (sk_ai h c m s) W p m (sk_a h c m s p) m_air (12 * m + w) = sk_ai h c m s w ∧ -12 ≤ sk_ai h c m s w ∧ sk_ai h c m s w ≤ 12 := fun w hw => by
            unfold g_rise; rw [radd_cell (by decide), radd_cell (by decide), radd_cell (by decide), radd_cell (by decide)]; exact Wai w hw
          have fb := f_ra_bd h (sk_ai h c m s) p bap.1
          have lb := f_La_bd h (sk_ai h c m s) p bap.1 (h.2 1)
          generalize g_rise h (sk_ai h c m s) W p m (sk_a h c m s p) = G3 at *
          have bxp := bx p
          refine x_aload_n d_M_burns_276 rfl rfl ?_
          refine x_iload d_M_burns_277 rfl ?_
          refine x_iload d_M_burns_279 rfl ?_
          refine x_V0 d_M_burns_281 e_M_burns_M_drifts ⟨rfl, rfl, Nat.zero_le _, Nat.zero_le _⟩ rfl rfl rfl rfl (Nat.le_of_ble_eq_true rfl) (s_drifts (ai := sk_ai h c m s) hh rR p m (s.2.1 p) hp hm (by rw [gM, wx]; unfold pt; rw [if_neg (by omega)]; omega) ⟨bxp.1, by omega⟩ gI (fun j hj => by have := wM j hj; rw [gM]; unfold pt; split <;> omega) (by rw [gG]; omega)) ?_
          rw [step]
          refine x_iincN d_M_burns_284 rfl (by decide) (by omega) (by omega) ?_
          dsimp only [x_st1, x_st2, x_kill, List.set, List.getElem?_cons_zero, List.getElem?_cons_succ]
          refine x_goto (215) d_M_burns_287 (by decide) ?_
          exact k
        refine x_iload d_M_burns_215 rfl ?_
        refine x_aload_n d_M_burns_217 rfl rfl ?_
        refine x_getIG (kf := 1) d_M_burns_218 rfl rfl rfl in_M f_M_228 ?_
        refine x_icmp_ge (290) d_M_burns_221 (by decide) (fun c1 => ?_) (fun c1 => ?_)
        · omega
        · refine x_aload_n d_M_burns_224 rfl rfl ?_
          refine x_iload d_M_burns_225 rfl ?_
          refine x_iload d_M_burns_227 rfl ?_
          refine x_aload_n d_M_burns_229 rfl rfl ?_
          refine x_getF (kf := 53) d_M_burns_230 rfl rfl rfl in_M f_M_129 ?_
          refine x_bipush (8) d_M_burns_233 rfl ⟨by decide, by decide⟩ ?_
          refine x_iload d_M_burns_235 rfl ?_
          refine x_imulN d_M_burns_237 (by omega) (by omega) ?_
          refine x_iload d_M_burns_238 rfl ?_
          refine x_iaddN d_M_burns_240 (by omega) (by omega) ?_
          refine x_ialdN (8 * m + p) d_M_burns_241 rfl (by omega) (by omega) ?_
          rw [wa]
          refine x_iload d_M_burns_242 rfl ?_
          refine x_iconst (-1) d_M_burns_244 rfl ⟨by decide, by decide⟩ ?_
          refine x_icmp_eq (271) d_M_burns_245 (by decide) (fun c2 => ?_) (fun c2 => ?_)
          · refine x_iconst (0) d_M_burns_271 rfl ⟨by decide, by decide⟩ ?_
            exact rest 0 (by unfold sk_a; rw [if_neg (fun q => q.1 c2)])
          · obtain ⟨φ, hφ⟩ : ∃ φ : Nat, c.2.2.2 = φ := ⟨c.2.2.2.toNat, by omega⟩
            have hf2 : φ < h.2 2 := by omega
            obtain ⟨e2, -⟩ := rW.2.2.2.1 φ hf2
            refine x_aload_n d_M_burns_248 rfl rfl ?_
            refine x_getF (kf := 23) d_M_burns_249 rfl rfl rfl in_M f_M_47 ?_
            refine x_iload d_M_burns_252 rfl ?_
            refine x_ialdN (φ) d_M_burns_254 rfl (by omega) (by omega) ?_
            rw [e2]
            refine x_iload d_M_burns_255 rfl ?_
            have eφ : c.2.2.2.toNat = φ := by omega
            refine x_icmp_ne (271) d_M_burns_257 (by decide) (fun c3 => ?_) (fun c3 => ?_)
            · refine x_iconst (0) d_M_burns_271 rfl ⟨by decide, by decide⟩ ?_
              exact rest 0 (by unfold sk_a; rw [eφ, if_neg (fun q => c3 q.2)])
            · refine x_aload_n d_M_burns_260 rfl rfl ?_
              refine x_iload d_M_burns_261 rfl ?_
              refine x_iload d_M_burns_263 rfl ?_
              refine x_V1 d_M_burns_265 e_M_burns_M_gives ⟨rfl, rfl, Nat.zero_le _, Nat.zero_le _⟩ rfl rfl rfl rfl (Nat.le_of_ble_eq_true rfl) (s_gives hh rW _ m hc (by omega)) ?_
              refine x_goto (272) d_M_burns_268 (by decide) ?_
              exact rest _ (by unfold sk_a; rw [eφ, if_pos ⟨c2, c3⟩])
    rw [bW_0] at start
    exact start
  · omega
