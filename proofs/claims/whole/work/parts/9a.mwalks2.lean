/-! the reference: walksOn -/
section MWk2
variable {h : HH} {G : Nat → Nat → Int}
def isBkR (h : HH) (sh : Nat → Nat → Bool) (g : Nat → Nat → Int) : Prop := ∀ m, m ≤ 20 → ∀ p, p < h.2 0 → g m p = if 0 < h.1 0 p 1 then 0 else lB h sh g m p (h.2 1)
def wF (G G' : Nat → Nat → Int) : Prop := ∀ i, i ≠ m_there → i ≠ m_back → G' i = G i
theorem wF.tr {G1 G2 G3 : Nat → Nat → Int} (a : wF G1 G2) (b : wF G2 G3) : wF G1 G3 := fun i h1 h2 => (b i h1 h2).trans (a i h1 h2)
theorem wF.rep {G' : Nat → Nat → Int} (f : wF G G') (r : mRep h G) : mRep h G' := r.same (fun k _ _ => by rw [f o_M (by decide) (by decide)]) (fun i h1 h2 => f i (by intro z; subst z; revert h2; decide) (by intro z; subst z; revert h2; decide))
theorem wF.sh {G' : Nat → Nat → Int} (f : wF G G') : shM h G' = shM h G := by unfold shM; rw [f m_mixed (by decide) (by decide)]
theorem lB_bd' (hh : Hwf h) {sh : Nat → Nat → Bool} {g : Nat → Nat → Int} {m p : Nat} (hp : p < h.2 0) (hm : m ≤ 20) (e : ∀ m' q, m < m' → m' ≤ 20 → q < 8 → 0 ≤ g m' q ∧ g m' q ≤ 1000000 + 3 * (20 - (m' : Int))) {n : Nat} (hn : n ≤ h.2 1) : 1 ≤ lB h sh g m p n ∧ lB h sh g m p n ≤ 1000000 + 3 * (20 - (m : Int)) := by
  have b0 := hh.1
  induction n with
  | zero =>
    unfold lB
    split
    · have := e (m + 1) p (by omega) (by omega) (by omega)
      have := cm_bd sh p (m + 1)
      omega
    · omega
  | succ w ih =>
    have b := hh.2.2.1 w (by omega)
    have bo := f_oth_bd hh (p : Int) (w := w) (by omega)
    have ih := ih (by omega)
    unfold lB
    split
    · next c =>
      have := e ((m : Int) + h.1 1 w 2).toNat (f_oth h p w).toNat (by omega) (by omega) (by omega)
      have := cm_bd sh (f_oth h p w).toNat ((m : Int) + h.1 1 w 2).toNat
      omega
    · exact ih
def iBR (h : HH) (sh : Nat → Nat → Bool) (m p : Nat) (g : Nat → Nat → Int) : Prop := (∀ m' q, m' ≤ 20 → q < 8 → 0 ≤ g m' q ∧ g m' q ≤ 1000000 + 3 * (20 - (m' : Int))) ∧ ∀ m' q, m' ≤ 20 → q < h.2 0 → (m < m' ∨ (m' = m ∧ q < p)) → g m' q = if 0 < h.1 0 q 1 then 0 else lB h sh g m' q (h.2 1)
theorem iBR.next (hh : Hwf h) {sh : Nat → Nat → Bool} {m p : Nat} {G' : Nat → Nat → Int} (hm : m ≤ 20) (hp : p < h.2 0) (x : iBR h sh m p (g8 G' m_back)) {z : Int} (hz : z = if 0 < h.1 0 p 1 then 0 else lB h sh (g8 G' m_back) m p (h.2 1)) : iBR h sh m (p + 1) (g8 (up G' m_back (8 * m + p) z) m_back) := by
  obtain ⟨x2, x3⟩ := x
  have b0 := hh.1
  have bl := lB_bd' hh hp hm (fun m' q _ h2 h3 => x2 m' q h2 h3) (n := h.2 1) (sh := sh) (Nat.le_refl _)
  have eu := fun z => g8_up G' m_back m p z (by omega)
  have low : ∀ z m' q, m ≤ m' → q < h.2 0 → lB h sh (g8 (up G' m_back (8 * m + p) z) m_back) m' q (h.2 1) = lB h sh (g8 G' m_back) m' q (h.2 1) := fun z m' q h1 h2 => lB_cg hh h2 (fun a c h3 h4 h5 => by rw [eu z a c (by omega), if_neg (by omega)]) (Nat.le_refl _)
  refine ⟨fun m' q h1 h2 => ?_, fun m' q h1 h2 h3 => ?_⟩
  · rw [eu _ m' q h2]
    split
    · rw [hz]; split <;> omega
    · exact x2 m' q h1 h2
  · rw [eu _ m' q (by omega), low _ m' q (by omega) h2]
    by_cases e : m' = m ∧ q = p
    · obtain ⟨rfl, rfl⟩ := e
      rw [if_pos ⟨rfl, rfl⟩, hz]
    · rw [if_neg e]
      exact x3 m' q h1 h2 (by omega)
def mWalked (h : HH) (G : Nat → Nat → Int) : Option XV → XM → Prop := fun v τ => v = none ∧ ∃ G', τ = (S0, G') ∧ wF G G' ∧ (∀ m' q, m' ≤ 20 → q < 8 → 0 ≤ g8 G' m_there m' q ∧ g8 G' m_there m' q ≤ 1000000) ∧ isTh h (shM h G) (g8 G' m_there) ∧ (∀ m' q, m' ≤ 20 → q < 8 → 0 ≤ g8 G' m_back m' q ∧ g8 G' m_back m' q ≤ 1000000 + 3 * (20 - (m' : Int))) ∧ isBkR h (shM h G) (g8 G' m_back)
theorem s_walksOn (hh : Hwf h) (r : mRep h G) : x_M y_M_walksOn [oM] (S0, G) (fun r τ => ∃ v, r = .inl v ∧ mWalked h G v τ) := by
  have b0 := hh.1
  refine x_of 6 rfl (Nat.le_of_ble_eq_true rfl) ?_
  show x_A y_M_walksOn 0 [some oM, none, none, none, none, none, none] [] (S0, G) 0 0 _
  generalize hQ : (fun (r : XRes) (τ : XM) => ∃ v, r = .inl v ∧ mWalked h G v τ) = Q
  have ntb : m_there ≠ m_back := by decide
  -- back
  have third : ∀ G', wF G G' → (∀ m' q, m' ≤ 20 → q < 8 → 0 ≤ g8 G' m_there m' q ∧ g8 G' m_there m' q ≤ 1000000) → isTh h (shM h G) (g8 G' m_there) → (∀ m' q, m' ≤ 20 → q < 8 → g8 G' m_back m' q = 1000000) → ∀ z2 z3 z4 z5 z6, x_A y_M_walksOn 245 [some oM, some (xI (20 - ((0 : Nat) : Int))), z2, z3, z4, z5, z6] [] (S0, G') 0 0 Q := by
    intro G1 f1 t1 t2 bk0
    intro z2 z3 z4 z5 z6
    refine x_up_to (P := fun n => ∀ z2 z3 z4 z5 z6 G', (∀ i, i ≠ m_back → G' i = G1 i) → iBR h (shM h G) (20 - n) (if n = 21 then h.2 0 else 0) (g8 G' m_back) → x_A y_M_walksOn 245 [some oM, some (xI (20 - (n : Int))), z2, z3, z4, z5, z6] [] (S0, G') 0 0 Q) 0 21 (Nat.zero_le _) (fun z2 z3 z4 z5 z6 G' f2 hi => ?_) (fun n _ hn k z2 z3 z4 z5 z6 G' f2 hi => ?_) z2 z3 z4 z5 z6 G1 (fun _ _ => rfl) ⟨fun m' q h1 h2 => by rw [bk0 m' q h1 h2]; omega, fun m' q h1 h2 h3 => by rw [if_neg (by omega)] at h3; omega⟩
    · have et : g8 G' m_there = g8 G1 m_there := by unfold g8; rw [f2 m_there ntb]
      rw [if_pos rfl] at hi
      refine x_iload_n d_M_walksOn_245 rfl rfl ?_
      refine x_if_lt (429) d_M_walksOn_246 (by decide) (fun g => ?_) (fun g => ?_)
      · refine x_return d_M_walksOn_429 rfl ?_ (Nat.zero_le _) (Nat.zero_le _)
        rw [← hQ]
        refine ⟨_, rfl, rfl, G', rfl, f1.tr (fun i h1 h2 => f2 i h2), by rw [et]; exact t1, by rw [et]; exact t2, hi.1, fun m' h1 q h2 => hi.2 m' q h1 h2 (by omega)⟩
      · omega
    · rw [if_neg (by omega)] at hi
      obtain ⟨m, hm⟩ : ∃ m : Nat, m + n = 20 := ⟨20 - n, by omega⟩
      have em : (20 - (n : Int)) = (m : Int) := by omega
      have em2 : 20 - n = m := by omega
      rw [em2] at hi
      rw [em]
      have k' : ∀ z2 z3 z4 z5 z6 G', (∀ i, i ≠ m_back → G' i = G1 i) → iBR h (shM h G) m (h.2 0) (g8 G' m_back) → x_A y_M_walksOn 245 [some oM, some (xI ((m : Int) + -1)), z2, z3, z4, z5, z6] [] (S0, G') 0 0 Q := fun z2 z3 z4 z5 z6 G' f2 hi => by
        have := k z2 z3 z4 z5 z6 G' f2 (by
          by_cases e : n + 1 = 21
          · rw [if_pos e]
            have e1 : m = 0 := by omega
            have e2 : 20 - (n + 1) = 0 := by omega
            rw [e2]; rw [e1] at hi; exact hi
          · rw [if_neg e]
            exact ⟨hi.1, fun m' q h1 h2 h3 => hi.2 m' q h1 h2 (by omega)⟩)
        rw [show (20 - ((n + 1 : Nat) : Int)) = (m : Int) + -1 by omega] at this
        exact this
      refine x_iload_n d_M_walksOn_245 rfl rfl ?_
      refine x_if_lt (429) d_M_walksOn_246 (by decide) (fun g => ?_) (fun g => ?_)
      · omega
      · refine x_iconst (0) d_M_walksOn_249 rfl ⟨by decide, by decide⟩ ?_
        refine x_istore_n d_M_walksOn_250 rfl (by decide) ?_
        dsimp only [x_st1, x_st2, x_kill, List.set, List.getElem?_cons_zero, List.getElem?_cons_succ]
        refine x_up_to (P := fun p => ∀ z3 z4 z5 z6 G', (∀ i, i ≠ m_back → G' i = G1 i) → iBR h (shM h G) m p (g8 G' m_back) → x_A y_M_walksOn 251 [some oM, some (xI (m : Int)), some (xI (p : Int)), z3, z4, z5, z6] [] (S0, G') 0 0 Q) 0 (h.2 0) (Nat.zero_le _) (fun z3 z4 z5 z6 G' f2 hi => ?_) (fun p _ hp k2 z3 z4 z5 z6 G' f2 hi => ?_) z3 z4 z5 z6 G' f2 hi
        · have f3 : wF G G' := f1.tr (fun i h1 h2 => f2 i h2)
          have e1 := (f3.rep r).1.1
          refine x_iload_n d_M_walksOn_251 rfl rfl ?_
          refine x_aload_n d_M_walksOn_252 rfl rfl ?_
          refine x_getIG (kf := 1) d_M_walksOn_253 rfl rfl rfl in_M f_M_228 ?_
          rw [e1]
          refine x_icmp_ge (423) d_M_walksOn_256 (by decide) (fun g2 => ?_) (fun g2 => ?_)
          · refine x_iincN d_M_walksOn_423 rfl (by decide) (by omega) (by omega) ?_
            dsimp only [x_st1, x_st2, x_kill, List.set, List.getElem?_cons_zero, List.getElem?_cons_succ]
            refine x_goto (245) d_M_walksOn_426 (by decide) ?_
            exact k' _ _ _ _ _ _ f2 hi
          · omega
        · have f3 : wF G G' := f1.tr (fun i h1 h2 => f2 i h2)
          have r3 := f3.rep r
          have e1 := r3.1.1
          have e2 := r3.1.2.1
          have eo := (r3.2.1 p hp).2.1
          have bp := hh.2.1 p hp
          have esh := f3.sh (h := h)
          -- the end
          have fin : ∀ z z4 z5 z6, (z = if 0 < h.1 0 p 1 then 0 else lB h (shM h G) (g8 G' m_back) m p (h.2 1)) → x_A y_M_walksOn 405 [some oM, some (xI (m : Int)), some (xI (p : Int)), some (xI z), z4, z5, z6] [] (S0, G') 0 0 Q := by
            intro z z4 z5 z6 hz
            refine x_aload_n d_M_walksOn_405 rfl rfl ?_
            refine x_getF (kf := 74) d_M_walksOn_406 rfl rfl rfl in_M f_M_189 ?_
            refine x_bipush (8) d_M_walksOn_409 rfl ⟨by decide, by decide⟩ ?_
            refine x_iload_n d_M_walksOn_411 rfl rfl ?_
            refine x_imulN d_M_walksOn_412 (by omega) (by omega) ?_
            refine x_iload_n d_M_walksOn_413 rfl rfl ?_
            refine x_iaddN d_M_walksOn_414 (by omega) (by omega) ?_
            refine x_iload_n d_M_walksOn_415 rfl rfl ?_
            refine x_iastN ((8 * m + p)) d_M_walksOn_416 rfl (by omega) (by omega) ?_
            refine x_iincN d_M_walksOn_417 rfl (by decide) (by omega) (by omega) ?_
            dsimp only [x_st1, x_st2, x_kill, List.set, List.getElem?_cons_zero, List.getElem?_cons_succ]
            refine x_goto (251) d_M_walksOn_420 (by decide) ?_
            exact k2 _ _ _ _ _ (fun i hi' => by rw [up_cell hi']; exact f2 i hi') (hi.next hh (by omega) hp hz)
          refine x_iload_n d_M_walksOn_251 rfl rfl ?_
          refine x_aload_n d_M_walksOn_252 rfl rfl ?_
          refine x_getIG (kf := 1) d_M_walksOn_253 rfl rfl rfl in_M f_M_228 ?_
          rw [e1]
          refine x_icmp_ge (423) d_M_walksOn_256 (by decide) (fun g2 => ?_) (fun g2 => ?_)
          · omega
          · refine x_aload_n d_M_walksOn_259 rfl rfl ?_
            refine x_getF (kf := 16) d_M_walksOn_260 rfl rfl rfl in_M f_M_26 ?_
            refine x_iload_n d_M_walksOn_263 rfl rfl ?_
            refine x_ialdN (p) d_M_walksOn_264 rfl (by omega) (by omega) ?_
            rw [eo]
            by_cases co : 0 < h.1 0 p 1
            · refine x_if_le (272) d_M_walksOn_265 (by decide) (fun g3 => ?_) (fun g3 => ?_)
              · omega
              · refine x_iconst (0) d_M_walksOn_268 rfl ⟨by decide, by decide⟩ ?_
                refine x_goto (308) d_M_walksOn_269 (by decide) ?_
                refine x_istore_n d_M_walksOn_308 rfl (by decide) ?_
                dsimp only [x_st1, x_st2, x_kill, List.set, List.getElem?_cons_zero, List.getElem?_cons_succ]
                refine x_iconst (0) d_M_walksOn_309 rfl ⟨by decide, by decide⟩ ?_
                refine x_istore d_M_walksOn_310 (by decide) ?_
                dsimp only [x_st1, x_st2, x_kill, List.set, List.getElem?_cons_zero, List.getElem?_cons_succ]
                refine x_iload d_M_walksOn_312 rfl ?_
                refine x_aload_n d_M_walksOn_314 rfl rfl ?_
                refine x_getIG (kf := 2) d_M_walksOn_315 rfl rfl rfl in_M f_M_250 ?_
                rw [e2]
                refine x_icmp_ge (405) d_M_walksOn_318 (by decide) (fun g4 => ?_) (fun g4 => ?_)
                · exact fin _ _ _ _ (by rw [if_pos co])
                · refine x_iload_n d_M_walksOn_321 rfl rfl ?_
                  refine x_if_le (405) d_M_walksOn_322 (by decide) (fun g5 => ?_) (fun g5 => ?_)
                  · exact fin _ _ _ _ (by rw [if_pos co])
                  · omega
            · have lbd := fun n (hn : n ≤ h.2 1) => lB_bd' hh (m := m) (g := g8 G' m_back) hp (by omega) (fun m' q _ h2 h3 => hi.1 m' q h2 h3) (n := n) (sh := shM h G) hn
              have wl : ∀ z5 z6, x_A y_M_walksOn 312 [some oM, some (xI (m : Int)), some (xI (p : Int)), some (xI (lB h (shM h G) (g8 G' m_back) m p 0)), some (xI ((0 : Nat) : Int)), z5, z6] [] (S0, G') 0 0 Q := by
                refine x_up_to (P := fun w => ∀ z5 z6, x_A y_M_walksOn 312 [some oM, some (xI (m : Int)), some (xI (p : Int)), some (xI (lB h (shM h G) (g8 G' m_back) m p w)), some (xI (w : Int)), z5, z6] [] (S0, G') 0 0 Q) 0 (h.2 1) (Nat.zero_le _) (fun z5 z6 => ?_) (fun w _ hw k3 z5 z6 => ?_)
                · refine x_iload d_M_walksOn_312 rfl ?_
                  refine x_aload_n d_M_walksOn_314 rfl rfl ?_
                  refine x_getIG (kf := 2) d_M_walksOn_315 rfl rfl rfl in_M f_M_250 ?_
                  rw [e2]
                  refine x_icmp_ge (405) d_M_walksOn_318 (by decide) (fun g4 => ?_) (fun g4 => ?_)
                  · exact fin _ _ _ _ (by rw [if_neg co])
                  · omega
                · have lw := lbd w (by omega)
                  have b := hh.2.2.1 w hw
                  have bo := f_oth_bd hh (p : Int) hw
                  have el := (r3.2.2.1 w hw).2.2.1
                  have e5 : lB h (shM h G) (g8 G' m_back) m p (w + 1) = if f_at h p w = true ∧ (m : Int) + h.1 1 w 2 ≤ 20 then min (lB h (shM h G) (g8 G' m_back) m p w) (g8 G' m_back ((m : Int) + h.1 1 w 2).toNat (f_oth h p w).toNat + h.1 1 w 2 + cm (shM h G) (f_oth h p w).toNat ((m : Int) + h.1 1 w 2).toNat) else lB h (shM h G) (g8 G' m_back) m p w := rfl
                  rw [e5] at k3
                  generalize lB h (shM h G) (g8 G' m_back) m p w = s at *
                  refine x_iload d_M_walksOn_312 rfl ?_
                  refine x_aload_n d_M_walksOn_314 rfl rfl ?_
                  refine x_getIG (kf := 2) d_M_walksOn_315 rfl rfl rfl in_M f_M_250 ?_
                  rw [e2]
                  refine x_icmp_ge (405) d_M_walksOn_318 (by decide) (fun g4 => ?_) (fun g4 => ?_)
                  · omega
                  · refine x_iload_n d_M_walksOn_321 rfl rfl ?_
                    refine x_if_le (405) d_M_walksOn_322 (by decide) (fun g5 => ?_) (fun g5 => ?_)
                    · omega
                    · refine x_iload_n d_M_walksOn_325 rfl rfl ?_
                      refine x_aload_n d_M_walksOn_326 rfl rfl ?_
                      refine x_getF (kf := 20) d_M_walksOn_327 rfl rfl rfl in_M f_M_38 ?_
                      refine x_iload d_M_walksOn_330 rfl ?_
                      refine x_ialdN (w) d_M_walksOn_332 rfl (by omega) (by omega) ?_
                      rw [el]
                      refine x_iaddN d_M_walksOn_333 (by omega) (by omega) ?_
                      refine x_istore d_M_walksOn_334 (by decide) ?_
                      dsimp only [x_st1, x_st2, x_kill, List.set, List.getElem?_cons_zero, List.getElem?_cons_succ]
                      refine x_aload_n d_M_walksOn_336 rfl rfl ?_
                      refine x_iload_n d_M_walksOn_337 rfl rfl ?_
                      refine x_iload d_M_walksOn_338 rfl ?_
                      refine x_V1 d_M_walksOn_340 e_M_walksOn_M_isAt ⟨rfl, rfl, Nat.zero_le _, Nat.zero_le _⟩ rfl rfl rfl rfl (Nat.le_of_ble_eq_true rfl) (s_isAt hh r3 (p : Int) w hw) ?_
                      cases ca : f_at h p w with
                      | false =>
                        rw [if_neg (fun z => by rw [ca] at z; cases z.1)] at k3
                        refine x_if_eq (399) d_M_walksOn_343 (by decide) (fun g6 => ?_) (fun g6 => ?_)
                        · refine x_iincN d_M_walksOn_399 rfl (by decide) (by omega) (by omega) ?_
                          dsimp only [x_st1, x_st2, x_kill, List.set, List.getElem?_cons_zero, List.getElem?_cons_succ]
                          refine x_goto (312) d_M_walksOn_402 (by decide) ?_
                          exact k3 _ _
                        · exact absurd rfl g6
                      | true =>
                        refine x_if_eq (399) d_M_walksOn_343 (by decide) (fun g6 => ?_) (fun g6 => ?_)
                        · cases g6
                        · refine x_iload d_M_walksOn_346 rfl ?_
                          refine x_bipush (20) d_M_walksOn_348 rfl ⟨by decide, by decide⟩ ?_
                          refine x_icmp_le (356) d_M_walksOn_350 (by decide) (fun g7 => ?_) (fun g7 => ?_)
                          · rw [if_pos ⟨ca, by omega⟩] at k3
                            have bb := hi.1 ((m : Int) + h.1 1 w 2).toNat (f_oth h p w).toNat (by omega) (by omega)
                            have bc := cm_bd (shM h G) (f_oth h p w).toNat ((m : Int) + h.1 1 w 2).toNat
                            have cc := s_costs' r3 (f_oth h p w).toNat ((m : Int) + h.1 1 w 2).toNat (by omega) (by omega) (h.1 1 w 2) (by omega) (a := f_oth h p w) (b := (m : Int) + h.1 1 w 2) (by omega) (by omega)
                            rw [esh] at cc
                            unfold g8 at k3 bb
                            refine x_aload_n d_M_walksOn_356 rfl rfl ?_
                            refine x_iload_n d_M_walksOn_357 rfl rfl ?_
                            refine x_iload d_M_walksOn_358 rfl ?_
                            refine x_V1 d_M_walksOn_360 e_M_walksOn_M_otherEnd ⟨rfl, rfl, Nat.zero_le _, Nat.zero_le _⟩ rfl rfl rfl rfl (Nat.le_of_ble_eq_true rfl) (s_otherEnd hh r3 (p : Int) w hw) ?_
                            refine x_istore d_M_walksOn_363 (by decide) ?_
                            dsimp only [x_st1, x_st2, x_kill, List.set, List.getElem?_cons_zero, List.getElem?_cons_succ]
                            refine x_iload_n d_M_walksOn_365 rfl rfl ?_
                            refine x_aload_n d_M_walksOn_366 rfl rfl ?_
                            refine x_getF (kf := 74) d_M_walksOn_367 rfl rfl rfl in_M f_M_189 ?_
                            refine x_bipush (8) d_M_walksOn_370 rfl ⟨by decide, by decide⟩ ?_
                            refine x_iload d_M_walksOn_372 rfl ?_
                            refine x_imulN d_M_walksOn_374 (by omega) (by omega) ?_
                            refine x_iload d_M_walksOn_375 rfl ?_
                            refine x_iaddN d_M_walksOn_377 (by omega) (by omega) ?_
                            refine x_ialdN ((8 * ((m : Int) + h.1 1 w 2).toNat + (f_oth h p w).toNat)) d_M_walksOn_378 rfl (by omega) (by omega) ?_
                            generalize G' m_back (8 * ((m : Int) + h.1 1 w 2).toNat + (f_oth h p w).toNat) = t at *
                            refine x_aload_n d_M_walksOn_379 rfl rfl ?_
                            refine x_iload d_M_walksOn_380 rfl ?_
                            refine x_iload d_M_walksOn_382 rfl ?_
                            refine x_aload_n d_M_walksOn_384 rfl rfl ?_
                            refine x_getF (kf := 20) d_M_walksOn_385 rfl rfl rfl in_M f_M_38 ?_
                            refine x_iload d_M_walksOn_388 rfl ?_
                            refine x_ialdN (w) d_M_walksOn_390 rfl (by omega) (by omega) ?_
                            rw [el]
                            refine x_V1 d_M_walksOn_391 e_M_walksOn_M_costs ⟨rfl, rfl, Nat.zero_le _, Nat.zero_le _⟩ rfl rfl rfl rfl (Nat.le_of_ble_eq_true rfl) (cc) ?_
                            refine x_iaddN d_M_walksOn_394 (by omega) (by omega) ?_
                            refine x_S1 d_M_walksOn_395 e_M_walksOn_JM_min ⟨rfl, rfl, Nat.zero_le _, Nat.zero_le _⟩ rfl rfl (Nat.le_of_ble_eq_true rfl) (s_min _ _ _) ?_
                            rw [show t + (h.1 1 w 2 + cm (shM h G) (f_oth h p w).toNat ((m : Int) + h.1 1 w 2).toNat) = t + h.1 1 w 2 + cm (shM h G) (f_oth h p w).toNat ((m : Int) + h.1 1 w 2).toNat by omega]
                            refine x_istore_n d_M_walksOn_398 rfl (by decide) ?_
                            dsimp only [x_st1, x_st2, x_kill, List.set, List.getElem?_cons_zero, List.getElem?_cons_succ]
                            refine x_iincN d_M_walksOn_399 rfl (by decide) (by omega) (by omega) ?_
                            dsimp only [x_st1, x_st2, x_kill, List.set, List.getElem?_cons_zero, List.getElem?_cons_succ]
                            refine x_goto (312) d_M_walksOn_402 (by decide) ?_
                            exact k3 _ _
                          · rw [if_neg (by omega)] at k3
                            refine x_goto (399) d_M_walksOn_353 (by decide) ?_
                            refine x_iincN d_M_walksOn_399 rfl (by decide) (by omega) (by omega) ?_
                            dsimp only [x_st1, x_st2, x_kill, List.set, List.getElem?_cons_zero, List.getElem?_cons_succ]
                            refine x_goto (312) d_M_walksOn_402 (by decide) ?_
                            exact k3 _ _
              have e0 : lB h (shM h G) (g8 G' m_back) m p 0 = if m < 20 then g8 G' m_back (m + 1) p + 1 + cm (shM h G) p (m + 1) else 1000000 := rfl
              refine x_if_le (272) d_M_walksOn_265 (by decide) (fun g3 => ?_) (fun g3 => ?_)
              · refine x_iload_n d_M_walksOn_272 rfl rfl ?_
                refine x_bipush (20) d_M_walksOn_273 rfl ⟨by decide, by decide⟩ ?_
                refine x_icmp_ne (284) d_M_walksOn_275 (by decide) (fun g4 => ?_) (fun g4 => ?_)
                · rw [if_pos (by omega)] at e0
                  have bb := hi.1 (m + 1) p (by omega) (by omega)
                  have bc := cm_bd (shM h G) p (m + 1)
                  have cc := s_costs' r3 p (m + 1) (by omega) (by omega) 1 (by omega) (a := (p : Int)) (b := (m : Int) + 1) rfl (by omega)
                  rw [esh] at cc
                  rw [e0] at wl
                  unfold g8 at wl bb
                  refine x_aload_n d_M_walksOn_284 rfl rfl ?_
                  refine x_getF (kf := 74) d_M_walksOn_285 rfl rfl rfl in_M f_M_189 ?_
                  refine x_bipush (8) d_M_walksOn_288 rfl ⟨by decide, by decide⟩ ?_
                  refine x_iload_n d_M_walksOn_290 rfl rfl ?_
                  refine x_imulN d_M_walksOn_291 (by omega) (by omega) ?_
                  refine x_bipush (8) d_M_walksOn_292 rfl ⟨by decide, by decide⟩ ?_
                  refine x_iaddN d_M_walksOn_294 (by omega) (by omega) ?_
                  refine x_iload_n d_M_walksOn_295 rfl rfl ?_
                  refine x_iaddN d_M_walksOn_296 (by omega) (by omega) ?_
                  refine x_ialdN ((8 * (m + 1) + p)) d_M_walksOn_297 rfl (by omega) (by omega) ?_
                  generalize G' m_back (8 * (m + 1) + p) = t at *
                  refine x_aload_n d_M_walksOn_298 rfl rfl ?_
                  refine x_iload_n d_M_walksOn_299 rfl rfl ?_
                  refine x_iload_n d_M_walksOn_300 rfl rfl ?_
                  refine x_iconst (1) d_M_walksOn_301 rfl ⟨by decide, by decide⟩ ?_
                  refine x_iaddN d_M_walksOn_302 (by omega) (by omega) ?_
                  refine x_iconst (1) d_M_walksOn_303 rfl ⟨by decide, by decide⟩ ?_
                  refine x_V1 d_M_walksOn_304 e_M_walksOn_M_costs ⟨rfl, rfl, Nat.zero_le _, Nat.zero_le _⟩ rfl rfl rfl rfl (Nat.le_of_ble_eq_true rfl) (cc) ?_
                  refine x_iaddN d_M_walksOn_307 (by omega) (by omega) ?_
                  rw [show t + (1 + cm (shM h G) p (m + 1)) = t + 1 + cm (shM h G) p (m + 1) by omega]
                  refine x_istore_n d_M_walksOn_308 rfl (by decide) ?_
                  dsimp only [x_st1, x_st2, x_kill, List.set, List.getElem?_cons_zero, List.getElem?_cons_succ]
                  refine x_iconst (0) d_M_walksOn_309 rfl ⟨by decide, by decide⟩ ?_
                  refine x_istore d_M_walksOn_310 (by decide) ?_
                  dsimp only [x_st1, x_st2, x_kill, List.set, List.getElem?_cons_zero, List.getElem?_cons_succ]
                  exact wl _ _
                · rw [if_neg (by omega)] at e0
                  rw [e0] at wl
                  refine x_ldcw (1000000) d_M_walksOn_278 k_M_387 ⟨by decide, by decide⟩ ?_
                  refine x_goto (308) d_M_walksOn_281 (by decide) ?_
                  refine x_istore_n d_M_walksOn_308 rfl (by decide) ?_
                  dsimp only [x_st1, x_st2, x_kill, List.set, List.getElem?_cons_zero, List.getElem?_cons_succ]
                  refine x_iconst (0) d_M_walksOn_309 rfl ⟨by decide, by decide⟩ ?_
                  refine x_istore d_M_walksOn_310 (by decide) ?_
                  dsimp only [x_st1, x_st2, x_kill, List.set, List.getElem?_cons_zero, List.getElem?_cons_succ]
                  exact wl _ _
              · omega
  -- there
  have second : ∀ G', wF G G' → wInv h (shM h G) 0 0 0 (g8 G' m_there) → (∀ m' q, m' ≤ 20 → q < 8 → g8 G' m_back m' q = 1000000) → x_A y_M_walksOn 56 [some oM, some (xI ((0 : Nat) : Int)), none, none, none, none, none] [] (S0, G') 0 0 Q := by
    intro G1 f1 w1 bk0
    refine x_up_to (P := fun m => ∀ z2 z3 z4 z5 z6 G', (∀ i, i ≠ m_there → G' i = G1 i) → wInv h (shM h G) m 0 0 (g8 G' m_there) → x_A y_M_walksOn 56 [some oM, some (xI (m : Int)), z2, z3, z4, z5, z6] [] (S0, G') 0 0 Q) 0 20 (Nat.zero_le _) (fun z2 z3 z4 z5 z6 G' f2 hi => ?_) (fun m _ hm k z2 z3 z4 z5 z6 G' f2 hi => ?_) none none none none none G1 (fun _ _ => rfl) w1
    · refine x_iload_n d_M_walksOn_56 rfl rfl ?_
      refine x_bipush (20) d_M_walksOn_57 rfl ⟨by decide, by decide⟩ ?_
      refine x_icmp_ge (242) d_M_walksOn_59 (by decide) (fun g => ?_) (fun g => ?_)
      · refine x_bipush (20) d_M_walksOn_242 rfl ⟨by decide, by decide⟩ ?_
        refine x_istore_n d_M_walksOn_244 rfl (by decide) ?_
        dsimp only [x_st1, x_st2, x_kill, List.set, List.getElem?_cons_zero, List.getElem?_cons_succ]
        exact third G' (f1.tr (fun i h1 _ => f2 i h1)) hi.1 (hi.done hh) (by rw [show g8 G' m_back = g8 G1 m_back by unfold g8; rw [f2 m_back ntb.symm]]; exact bk0) _ _ _ _ _
      · omega
    · refine x_iload_n d_M_walksOn_56 rfl rfl ?_
      refine x_bipush (20) d_M_walksOn_57 rfl ⟨by decide, by decide⟩ ?_
      refine x_icmp_ge (242) d_M_walksOn_59 (by decide) (fun g => ?_) (fun g => ?_)
      · omega
      · refine x_iconst (0) d_M_walksOn_62 rfl ⟨by decide, by decide⟩ ?_
        refine x_istore_n d_M_walksOn_63 rfl (by decide) ?_
        dsimp only [x_st1, x_st2, x_kill, List.set, List.getElem?_cons_zero, List.getElem?_cons_succ]
        refine x_up_to (P := fun p => ∀ z3 z4 z5 z6 G', (∀ i, i ≠ m_there → G' i = G1 i) → wInv h (shM h G) m p 0 (g8 G' m_there) → x_A y_M_walksOn 64 [some oM, some (xI (m : Int)), some (xI (p : Int)), z3, z4, z5, z6] [] (S0, G') 0 0 Q) 0 (h.2 0) (Nat.zero_le _) (fun z3 z4 z5 z6 G' f2 hi => ?_) (fun p _ hp k2 z3 z4 z5 z6 G' f2 hi => ?_) z3 z4 z5 z6 G' f2 hi
        · have f3 : wF G G' := f1.tr (fun i h1 _ => f2 i h1)
          have e1 := (f3.rep r).1.1
          refine x_iload_n d_M_walksOn_64 rfl rfl ?_
          refine x_aload_n d_M_walksOn_65 rfl rfl ?_
          refine x_getIG (kf := 1) d_M_walksOn_66 rfl rfl rfl in_M f_M_228 ?_
          rw [e1]
          refine x_icmp_ge (236) d_M_walksOn_69 (by decide) (fun g2 => ?_) (fun g2 => ?_)
          · refine x_iincN d_M_walksOn_236 rfl (by decide) (by omega) (by omega) ?_
            dsimp only [x_st1, x_st2, x_kill, List.set, List.getElem?_cons_zero, List.getElem?_cons_succ]
            refine x_goto (56) d_M_walksOn_239 (by decide) ?_
            exact k _ _ _ _ _ _ f2 (hi.skip (fun m0 p0 e0 h1 => by have := h1.2.1; unfold eD; omega))
          · omega
        · have f3 : wF G G' := f1.tr (fun i h1 _ => f2 i h1)
          have r3 := f3.rep r
          have e1 := r3.1.1
          have bx := hi.1 m p (by omega) (by omega)
          have by1 := hi.1 (m + 1) p (by omega) (by omega)
          have bc := cm_bd (shM h G) p (m + 1)
          have cc := s_costs' r3 p (m + 1) (by omega) (by omega) 1 (by omega) (a := (p : Int)) (b := (m : Int) + 1) rfl (by omega)
          rw [f3.sh (h := h)] at cc
          -- the ways
          have wl : ∀ G' z5 z6, (∀ i, i ≠ m_there → G' i = G1 i) → wInv h (shM h G) m p 1 (g8 G' m_there) → x_A y_M_walksOn 129 [some oM, some (xI (m : Int)), some (xI (p : Int)), some (xI (g8 G' m_there m p)), some (xI ((0 : Nat) : Int)), z5, z6] [] (S0, G') 0 0 Q := by
            intro G' z5 z6 f2 hi
            refine x_up_to (P := fun w => ∀ z5 z6 G', (∀ i, i ≠ m_there → G' i = G1 i) → wInv h (shM h G) m p (w + 1) (g8 G' m_there) → x_A y_M_walksOn 129 [some oM, some (xI (m : Int)), some (xI (p : Int)), some (xI (g8 G' m_there m p)), some (xI (w : Int)), z5, z6] [] (S0, G') 0 0 Q) 0 (h.2 1) (Nat.zero_le _) (fun z5 z6 G' f2 hi => ?_) (fun w _ hw k3 z5 z6 G' f2 hi => ?_) z5 z6 G' f2 hi
            · have e2 := ((f1.tr (fun i h1 _ => f2 i h1) : wF G G').rep r).1.2.1
              refine x_iload d_M_walksOn_129 rfl ?_
              refine x_aload_n d_M_walksOn_131 rfl rfl ?_
              refine x_getIG (kf := 2) d_M_walksOn_132 rfl rfl rfl in_M f_M_250 ?_
              rw [e2]
              refine x_icmp_ge (230) d_M_walksOn_135 (by decide) (fun g3 => ?_) (fun g3 => ?_)
              · refine x_iincN d_M_walksOn_230 rfl (by decide) (by omega) (by omega) ?_
                dsimp only [x_st1, x_st2, x_kill, List.set, List.getElem?_cons_zero, List.getElem?_cons_succ]
                refine x_goto (64) d_M_walksOn_233 (by decide) ?_
                refine k2 _ _ _ _ _ f2 (hi.skip (fun m0 p0 e0 h1 => ?_))
                have h2 := h1.2.2
                have h3 := h1.2.1
                have h4 : e0 < h.2 1 + 1 := by
                  rcases h2 with h2 | ⟨w', h2, h4, _⟩ <;> omega
                unfold eD; omega
              · omega
            · have f3 : wF G G' := f1.tr (fun i h1 _ => f2 i h1)
              have r3 := f3.rep r
              have e2 := r3.1.2.1
              have el := (r3.2.2.1 w hw).2.2.1
              have b := hh.2.2.1 w hw
              have bo := f_oth_bd hh (p : Int) hw
              have bx := hi.1 m p (by omega) (by omega)
              have skip : ¬ (f_at h p w = true ∧ (m : Int) + h.1 1 w 2 ≤ 20) → ∀ z5, x_A y_M_walksOn 224 [some oM, some (xI (m : Int)), some (xI (p : Int)), some (xI (g8 G' m_there m p)), some (xI (w : Int)), z5, z6] [] (S0, G') 0 0 Q := by
                intro no z5
                refine x_iincN d_M_walksOn_224 rfl (by decide) (by omega) (by omega) ?_
                dsimp only [x_st1, x_st2, x_kill, List.set, List.getElem?_cons_zero, List.getElem?_cons_succ]
                refine x_goto (129) d_M_walksOn_227 (by decide) ?_
                refine k3 _ _ _ f2 (hi.skip (fun m0 p0 e0 h1 => ?_))
                have : ¬ (m0 = m ∧ p0 = p ∧ e0 = w + 1) := fun ⟨z1, z2, z3⟩ => by
                  subst z1 z2 z3
                  rcases h1.2.2 with z | ⟨w', z4, z5, z6, z7⟩
                  · omega
                  · have : w' = w := by omega
                    subst this
                    exact no ⟨z6, z7⟩
                unfold eD; omega
              refine x_iload d_M_walksOn_129 rfl ?_
              refine x_aload_n d_M_walksOn_131 rfl rfl ?_
              refine x_getIG (kf := 2) d_M_walksOn_132 rfl rfl rfl in_M f_M_250 ?_
              rw [e2]
              refine x_icmp_ge (230) d_M_walksOn_135 (by decide) (fun g3 => ?_) (fun g3 => ?_)
              · omega
              · refine x_iload_n d_M_walksOn_138 rfl rfl ?_
                refine x_aload_n d_M_walksOn_139 rfl rfl ?_
                refine x_getF (kf := 20) d_M_walksOn_140 rfl rfl rfl in_M f_M_38 ?_
                refine x_iload d_M_walksOn_143 rfl ?_
                refine x_ialdN (w) d_M_walksOn_145 rfl (by omega) (by omega) ?_
                rw [el]
                refine x_iaddN d_M_walksOn_146 (by omega) (by omega) ?_
                refine x_istore d_M_walksOn_147 (by decide) ?_
                dsimp only [x_st1, x_st2, x_kill, List.set, List.getElem?_cons_zero, List.getElem?_cons_succ]
                refine x_aload_n d_M_walksOn_149 rfl rfl ?_
                refine x_iload_n d_M_walksOn_150 rfl rfl ?_
                refine x_iload d_M_walksOn_151 rfl ?_
                refine x_V1 d_M_walksOn_153 e_M_walksOn_M_isAt ⟨rfl, rfl, Nat.zero_le _, Nat.zero_le _⟩ rfl rfl rfl rfl (Nat.le_of_ble_eq_true rfl) (s_isAt hh r3 (p : Int) w hw) ?_
                cases ca : f_at h p w with
                | false =>
                  refine x_if_eq (224) d_M_walksOn_156 (by decide) (fun g4 => ?_) (fun g4 => ?_)
                  · exact skip (fun z => by rw [ca] at z; cases z.1) _
                  · exact absurd rfl g4
                | true =>
                  refine x_if_eq (224) d_M_walksOn_156 (by decide) (fun g4 => ?_) (fun g4 => ?_)
                  · cases g4
                  · refine x_iload d_M_walksOn_159 rfl ?_
                    refine x_bipush (20) d_M_walksOn_161 rfl ⟨by decide, by decide⟩ ?_
                    refine x_icmp_le (169) d_M_walksOn_163 (by decide) (fun g5 => ?_) (fun g5 => ?_)
                    · have ok : eOk h m p (w + 1) := ⟨hm, hp, Or.inr ⟨w, rfl, hw, ca, by omega⟩⟩
                      have bt := hi.1 ((m : Int) + h.1 1 w 2).toNat (f_oth h p w).toNat (by omega) (by omega)
                      have bc := cm_bd (shM h G) (f_oth h p w).toNat ((m : Int) + h.1 1 w 2).toNat
                      have cc := s_costs' r3 (f_oth h p w).toNat ((m : Int) + h.1 1 w 2).toNat (by omega) (by omega) (h.1 1 w 2) (by omega) (a := f_oth h p w) (b := (m : Int) + h.1 1 w 2) (by omega) (by omega)
                      rw [f3.sh (h := h)] at cc
                      have em : eM h m (w + 1) = ((m : Int) + h.1 1 w 2).toNat := by unfold eM; rw [if_neg (by omega), show w + 1 - 1 = w by omega]
                      have ep : eP h p (w + 1) = (f_oth h p w).toNat := by unfold eP; rw [if_neg (by omega), show w + 1 - 1 = w by omega]
                      have ec : eC h (w + 1) = h.1 1 w 2 := by unfold eC; rw [if_neg (by omega), show w + 1 - 1 = w by omega]
                      refine x_aload_n d_M_walksOn_169 rfl rfl ?_
                      refine x_iload_n d_M_walksOn_170 rfl rfl ?_
                      refine x_iload d_M_walksOn_171 rfl ?_
                      refine x_V1 d_M_walksOn_173 e_M_walksOn_M_otherEnd ⟨rfl, rfl, Nat.zero_le _, Nat.zero_le _⟩ rfl rfl rfl rfl (Nat.le_of_ble_eq_true rfl) (s_otherEnd hh r3 (p : Int) w hw) ?_
                      refine x_istore d_M_walksOn_176 (by decide) ?_
                      dsimp only [x_st1, x_st2, x_kill, List.set, List.getElem?_cons_zero, List.getElem?_cons_succ]
                      refine x_aload_n d_M_walksOn_178 rfl rfl ?_
                      refine x_getF (kf := 73) d_M_walksOn_179 rfl rfl rfl in_M f_M_186 ?_
                      refine x_bipush (8) d_M_walksOn_182 rfl ⟨by decide, by decide⟩ ?_
                      refine x_iload d_M_walksOn_184 rfl ?_
                      refine x_imulN d_M_walksOn_186 (by omega) (by omega) ?_
                      refine x_iload d_M_walksOn_187 rfl ?_
                      refine x_iaddN d_M_walksOn_189 (by omega) (by omega) ?_
                      refine x_aload_n d_M_walksOn_190 rfl rfl ?_
                      refine x_getF (kf := 73) d_M_walksOn_191 rfl rfl rfl in_M f_M_186 ?_
                      refine x_bipush (8) d_M_walksOn_194 rfl ⟨by decide, by decide⟩ ?_
                      refine x_iload d_M_walksOn_196 rfl ?_
                      refine x_imulN d_M_walksOn_198 (by omega) (by omega) ?_
                      refine x_iload d_M_walksOn_199 rfl ?_
                      refine x_iaddN d_M_walksOn_201 (by omega) (by omega) ?_
                      refine x_ialdN ((8 * ((m : Int) + h.1 1 w 2).toNat + (f_oth h p w).toNat)) d_M_walksOn_202 rfl (by omega) (by omega) ?_
                      refine x_iload_n d_M_walksOn_203 rfl rfl ?_
                      refine x_aload_n d_M_walksOn_204 rfl rfl ?_
                      refine x_iload d_M_walksOn_205 rfl ?_
                      refine x_iload d_M_walksOn_207 rfl ?_
                      refine x_aload_n d_M_walksOn_209 rfl rfl ?_
                      refine x_getF (kf := 20) d_M_walksOn_210 rfl rfl rfl in_M f_M_38 ?_
                      refine x_iload d_M_walksOn_213 rfl ?_
                      refine x_ialdN (w) d_M_walksOn_215 rfl (by omega) (by omega) ?_
                      rw [el]
                      refine x_V1 d_M_walksOn_216 e_M_walksOn_M_costs ⟨rfl, rfl, Nat.zero_le _, Nat.zero_le _⟩ rfl rfl rfl rfl (Nat.le_of_ble_eq_true rfl) (cc) ?_
                      refine x_iaddN d_M_walksOn_219 (by omega) (by omega) ?_
                      refine x_S1 d_M_walksOn_220 e_M_walksOn_JM_min ⟨rfl, rfl, Nat.zero_le _, Nat.zero_le _⟩ rfl rfl (Nat.le_of_ble_eq_true rfl) (s_min _ _ _) ?_
                      refine x_iastN ((8 * ((m : Int) + h.1 1 w 2).toNat + (f_oth h p w).toNat)) d_M_walksOn_223 rfl (by omega) (by omega) ?_
                      refine x_iincN d_M_walksOn_224 rfl (by decide) (by omega) (by omega) ?_
                      dsimp only [x_st1, x_st2, x_kill, List.set, List.getElem?_cons_zero, List.getElem?_cons_succ]
                      refine x_goto (129) d_M_walksOn_227 (by decide) ?_
                      have gu := g8_up G' m_there ((m : Int) + h.1 1 w 2).toNat (f_oth h p w).toNat (min (G' m_there (8 * ((m : Int) + h.1 1 w 2).toNat + (f_oth h p w).toNat)) (g8 G' m_there m p + (h.1 1 w 2 + cm (shM h G) (f_oth h p w).toNat ((m : Int) + h.1 1 w 2).toNat))) (by omega)
                      have same : g8 (up G' m_there (8 * ((m : Int) + h.1 1 w 2).toNat + (f_oth h p w).toNat) (min (G' m_there (8 * ((m : Int) + h.1 1 w 2).toNat + (f_oth h p w).toNat)) (g8 G' m_there m p + (h.1 1 w 2 + cm (shM h G) (f_oth h p w).toNat ((m : Int) + h.1 1 w 2).toNat)))) m_there m p = g8 G' m_there m p := by rw [gu m p (by omega), if_neg (by omega)]
                      have := k3 (some (xI ((m : Int) + h.1 1 w 2))) (some (xI (f_oth h p w))) (up G' m_there (8 * ((m : Int) + h.1 1 w 2).toNat + (f_oth h p w).toNat) (min (G' m_there (8 * ((m : Int) + h.1 1 w 2).toNat + (f_oth h p w).toNat)) (g8 G' m_there m p + (h.1 1 w 2 + cm (shM h G) (f_oth h p w).toNat ((m : Int) + h.1 1 w 2).toNat)))) (fun i hi' => by rw [up_cell hi']; exact f2 i hi') (hi.step hh ok (fun m' q h1 h2 => by
                        rw [em, ep, ec, gu m' q h2]
                        by_cases c : m' = ((m : Int) + h.1 1 w 2).toNat ∧ q = (f_oth h p w).toNat
                        · rw [if_pos c, if_pos c, c.1, c.2]; rfl
                        · rw [if_neg c, if_neg c]))
                      rw [same] at this
                      exact this
                    · refine x_goto (224) d_M_walksOn_166 (by decide) ?_
                      exact skip (by omega) _
          have ok0 : eOk h m p 0 := ⟨hm, hp, Or.inl rfl⟩
          have gu := g8_up G' m_there (m + 1) p (min (G' m_there (8 * (m + 1) + p)) (G' m_there (8 * m + p) + (1 + cm (shM h G) p (m + 1)))) (by omega)
          have same : g8 (up G' m_there (8 * (m + 1) + p) (min (G' m_there (8 * (m + 1) + p)) (G' m_there (8 * m + p) + (1 + cm (shM h G) p (m + 1))))) m_there m p = G' m_there (8 * m + p) := by rw [gu m p (by omega), if_neg (by omega)]; rfl
          have st := hi.step hh ok0 (g' := g8 (up G' m_there (8 * (m + 1) + p) (min (G' m_there (8 * (m + 1) + p)) (G' m_there (8 * m + p) + (1 + cm (shM h G) p (m + 1))))) m_there) (fun m' q h1 h2 => by
            rw [gu m' q h2]
            show (if m' = m + 1 ∧ q = p then _ else _) = if m' = m + 1 ∧ q = p then _ else _
            by_cases c : m' = m + 1 ∧ q = p
            · rw [if_pos c, if_pos c, c.1, c.2]; rfl
            · rw [if_neg c, if_neg c])
          have wl0 := wl _ (z5) (z6) (fun i hi' => by rw [up_cell hi']; exact f2 i hi') st
          rw [same] at wl0
          unfold g8 at bx by1
          refine x_iload_n d_M_walksOn_64 rfl rfl ?_
          refine x_aload_n d_M_walksOn_65 rfl rfl ?_
          refine x_getIG (kf := 1) d_M_walksOn_66 rfl rfl rfl in_M f_M_228 ?_
          rw [e1]
          refine x_icmp_ge (236) d_M_walksOn_69 (by decide) (fun g2 => ?_) (fun g2 => ?_)
          · omega
          · refine x_aload_n d_M_walksOn_72 rfl rfl ?_
            refine x_getF (kf := 73) d_M_walksOn_73 rfl rfl rfl in_M f_M_186 ?_
            refine x_bipush (8) d_M_walksOn_76 rfl ⟨by decide, by decide⟩ ?_
            refine x_iload_n d_M_walksOn_78 rfl rfl ?_
            refine x_imulN d_M_walksOn_79 (by omega) (by omega) ?_
            refine x_iload_n d_M_walksOn_80 rfl rfl ?_
            refine x_iaddN d_M_walksOn_81 (by omega) (by omega) ?_
            refine x_ialdN ((8 * m + p)) d_M_walksOn_82 rfl (by omega) (by omega) ?_
            refine x_istore_n d_M_walksOn_83 rfl (by decide) ?_
            dsimp only [x_st1, x_st2, x_kill, List.set, List.getElem?_cons_zero, List.getElem?_cons_succ]
            refine x_aload_n d_M_walksOn_84 rfl rfl ?_
            refine x_getF (kf := 73) d_M_walksOn_85 rfl rfl rfl in_M f_M_186 ?_
            refine x_bipush (8) d_M_walksOn_88 rfl ⟨by decide, by decide⟩ ?_
            refine x_iload_n d_M_walksOn_90 rfl rfl ?_
            refine x_imulN d_M_walksOn_91 (by omega) (by omega) ?_
            refine x_bipush (8) d_M_walksOn_92 rfl ⟨by decide, by decide⟩ ?_
            refine x_iaddN d_M_walksOn_94 (by omega) (by omega) ?_
            refine x_iload_n d_M_walksOn_95 rfl rfl ?_
            refine x_iaddN d_M_walksOn_96 (by omega) (by omega) ?_
            refine x_aload_n d_M_walksOn_97 rfl rfl ?_
            refine x_getF (kf := 73) d_M_walksOn_98 rfl rfl rfl in_M f_M_186 ?_
            refine x_bipush (8) d_M_walksOn_101 rfl ⟨by decide, by decide⟩ ?_
            refine x_iload_n d_M_walksOn_103 rfl rfl ?_
            refine x_imulN d_M_walksOn_104 (by omega) (by omega) ?_
            refine x_bipush (8) d_M_walksOn_105 rfl ⟨by decide, by decide⟩ ?_
            refine x_iaddN d_M_walksOn_107 (by omega) (by omega) ?_
            refine x_iload_n d_M_walksOn_108 rfl rfl ?_
            refine x_iaddN d_M_walksOn_109 (by omega) (by omega) ?_
            refine x_ialdN ((8 * (m + 1) + p)) d_M_walksOn_110 rfl (by omega) (by omega) ?_
            refine x_iload_n d_M_walksOn_111 rfl rfl ?_
            refine x_aload_n d_M_walksOn_112 rfl rfl ?_
            refine x_iload_n d_M_walksOn_113 rfl rfl ?_
            refine x_iload_n d_M_walksOn_114 rfl rfl ?_
            refine x_iconst (1) d_M_walksOn_115 rfl ⟨by decide, by decide⟩ ?_
            refine x_iaddN d_M_walksOn_116 (by omega) (by omega) ?_
            refine x_iconst (1) d_M_walksOn_117 rfl ⟨by decide, by decide⟩ ?_
            refine x_V1 d_M_walksOn_118 e_M_walksOn_M_costs ⟨rfl, rfl, Nat.zero_le _, Nat.zero_le _⟩ rfl rfl rfl rfl (Nat.le_of_ble_eq_true rfl) (cc) ?_
            refine x_iaddN d_M_walksOn_121 (by omega) (by omega) ?_
            refine x_S1 d_M_walksOn_122 e_M_walksOn_JM_min ⟨rfl, rfl, Nat.zero_le _, Nat.zero_le _⟩ rfl rfl (Nat.le_of_ble_eq_true rfl) (s_min _ _ _) ?_
            refine x_iastN ((8 * (m + 1) + p)) d_M_walksOn_125 rfl (by omega) (by omega) ?_
            refine x_iconst (0) d_M_walksOn_126 rfl ⟨by decide, by decide⟩ ?_
            refine x_istore d_M_walksOn_127 (by decide) ?_
            dsimp only [x_st1, x_st2, x_kill, List.set, List.getElem?_cons_zero, List.getElem?_cons_succ]
            exact wl0
  -- first
  refine x_iconst (0) d_M_walksOn_0 rfl ⟨by decide, by decide⟩ ?_
  refine x_istore_n d_M_walksOn_1 rfl (by decide) ?_
  dsimp only [x_st1, x_st2, x_kill, List.set, List.getElem?_cons_zero, List.getElem?_cons_succ]
  refine x_up_to (P := fun n => ∀ G', wF G G' → (∀ j, j < n → G' m_there j = (if j < h.2 0 ∧ 0 < h.1 0 j 1 then 0 else 1000000) ∧ G' m_back j = 1000000) → x_A y_M_walksOn 2 [some oM, some (xI (n : Int)), none, none, none, none, none] [] (S0, G') 0 0 Q) 0 168 (Nat.zero_le _) (fun G' f1 f2 => ?_) (fun n _ hn k G' f1 f2 => ?_) G (fun _ _ _ => rfl) (fun j hj => by omega)
  · refine x_iload_n d_M_walksOn_2 rfl rfl ?_
    refine x_sipush (168) d_M_walksOn_3 rfl ⟨by decide, by decide⟩ ?_
    refine x_icmp_ge (54) d_M_walksOn_6 (by decide) (fun g => ?_) (fun g => ?_)
    · refine x_iconst (0) d_M_walksOn_54 rfl ⟨by decide, by decide⟩ ?_
      refine x_istore_n d_M_walksOn_55 rfl (by decide) ?_
      dsimp only [x_st1, x_st2, x_kill, List.set, List.getElem?_cons_zero, List.getElem?_cons_succ]
      have tin : ∀ m' q, m' ≤ 20 → q < h.2 0 → g8 G' m_there m' q = t_in h m' q := fun m' q h1 h2 => by
        show G' m_there (8 * m' + q) = _
        rw [(f2 (8 * m' + q) (by omega)).1]
        unfold t_in
        by_cases c : m' = 0
        · subst c
          rw [show 8 * 0 + q = q by omega]
          by_cases d : 0 < h.1 0 q 1
          · rw [if_pos ⟨h2, d⟩, if_pos ⟨rfl, d⟩]
          · rw [if_neg (fun z => d z.2), if_neg (fun z => d z.2)]
        · rw [if_neg (by omega), if_neg (fun z => c z.1)]
      refine second G' f1 ⟨fun m' q h1 h2 => ?_, fun m' q h1 h2 => by rw [tin m' q h1 h2]; exact Int.le_refl _, fun m0 p0 e0 h1 h2 => by unfold eD at h2; omega, fun m' q h1 h2 => Or.inl (tin m' q h1 h2)⟩ (fun m' q h1 h2 => (f2 (8 * m' + q) (by omega)).2)
      show 0 ≤ G' m_there (8 * m' + q) ∧ G' m_there (8 * m' + q) ≤ 1000000
      rw [(f2 (8 * m' + q) (by omega)).1]
      split <;> omega
    · omega
  · have r3 := f1.rep r
    have e1 := r3.1.1
    have tail : ∀ z : Int, (z = if n < h.2 0 ∧ 0 < h.1 0 n 1 then 0 else 1000000) → x_A y_M_walksOn 38 [some oM, some (xI (n : Int)), none, none, none, none, none] [xI z, xI (n : Int), xR (some m_there)] (S0, G') 0 0 Q := by
      intro z hz
      refine x_iastN (n) d_M_walksOn_38 rfl (by omega) (by omega) ?_
      refine x_aload_n d_M_walksOn_39 rfl rfl ?_
      refine x_getF (kf := 74) d_M_walksOn_40 rfl rfl rfl in_M f_M_189 ?_
      refine x_iload_n d_M_walksOn_43 rfl rfl ?_
      refine x_ldcw (1000000) d_M_walksOn_44 k_M_387 ⟨by decide, by decide⟩ ?_
      refine x_iastN (n) d_M_walksOn_47 rfl (by omega) (by omega) ?_
      refine x_iincN d_M_walksOn_48 rfl (by decide) (by omega) (by omega) ?_
      dsimp only [x_st1, x_st2, x_kill, List.set, List.getElem?_cons_zero, List.getElem?_cons_succ]
      refine x_goto (2) d_M_walksOn_51 (by decide) ?_
      refine k _ (fun i h1 h2 => by rw [up_cell h2, up_cell h1]; exact f1 i h1 h2) (fun j hj => ?_)
      rw [up_cell ntb]
      by_cases e : j = n
      · subst e
        rw [up_same, up_same]; exact ⟨hz, rfl⟩
      · rw [up_ne e, up_ne e, up_cell ntb.symm]; exact f2 j (by omega)
    refine x_iload_n d_M_walksOn_2 rfl rfl ?_
    refine x_sipush (168) d_M_walksOn_3 rfl ⟨by decide, by decide⟩ ?_
    refine x_icmp_ge (54) d_M_walksOn_6 (by decide) (fun g => ?_) (fun g => ?_)
    · omega
    · refine x_aload_n d_M_walksOn_9 rfl rfl ?_
      refine x_getF (kf := 73) d_M_walksOn_10 rfl rfl rfl in_M f_M_186 ?_
      refine x_iload_n d_M_walksOn_13 rfl rfl ?_
      refine x_iload_n d_M_walksOn_14 rfl rfl ?_
      refine x_aload_n d_M_walksOn_15 rfl rfl ?_
      refine x_getIG (kf := 1) d_M_walksOn_16 rfl rfl rfl in_M f_M_228 ?_
      rw [e1]
      refine x_icmp_ge (35) d_M_walksOn_19 (by decide) (fun g2 => ?_) (fun g2 => ?_)
      · refine x_ldcw (1000000) d_M_walksOn_35 k_M_387 ⟨by decide, by decide⟩ ?_
        exact tail _ (by rw [if_neg (by omega)])
      · have eo := (r3.2.1 n (by omega)).2.1
        have bp := hh.2.1 n (by omega)
        refine x_aload_n d_M_walksOn_22 rfl rfl ?_
        refine x_getF (kf := 16) d_M_walksOn_23 rfl rfl rfl in_M f_M_26 ?_
        refine x_iload_n d_M_walksOn_26 rfl rfl ?_
        refine x_ialdN (n) d_M_walksOn_27 rfl (by omega) (by omega) ?_
        rw [eo]
        refine x_if_le (35) d_M_walksOn_28 (by decide) (fun g3 => ?_) (fun g3 => ?_)
        · refine x_ldcw (1000000) d_M_walksOn_35 k_M_387 ⟨by decide, by decide⟩ ?_
          exact tail _ (by rw [if_neg (by omega)])
        · refine x_iconst (0) d_M_walksOn_31 rfl ⟨by decide, by decide⟩ ?_
          refine x_goto (38) d_M_walksOn_32 (by decide) ?_
          exact tail _ (by rw [if_pos (by omega)])
end MWk2
