/-! the reference: the net of who can be out -/
/-- what the parts of the net add to what goes off from S: groups; rooms of a minute; ways of a minute. sh: which piece is shut in which minute -/
def kG (h : HH) (by' : Nat) (S : Nat → Bool) (g : Nat) : Int := if h.1 5 g 2 ≤ by' then ind S 336 (16 * (h.1 5 g 2).toNat + (h.1 5 g 0).toNat) (h.1 5 g 1) else 0
def kP (h : HH) (sh : Nat → Nat → Bool) (by' : Nat) (set : Int) (S : Nat → Bool) (m p : Nat) : Int :=
  (if sh m p = true then 0 else ind S (16 * m + p) (16 * m + 8 + p) (h.1 0 p 0)) + (if m < by' then ind S (16 * m + 8 + p) (16 * (m + 1) + p) 1000000 + ind S (16 * m + 8 + p) 337 (f_wide h p set (h.2 6)) else 0)
def kW (h : HH) (by' times : Nat) (S : Nat → Bool) (m w : Nat) : Int :=
  if (m : Int) + h.1 1 w 2 * times ≤ by' then ind S (16 * m + 8 + (h.1 1 w 0).toNat) (16 * ((m : Int) + h.1 1 w 2 * times).toNat + (h.1 1 w 1).toNat) (h.1 1 w 3) + ind S (16 * m + 8 + (h.1 1 w 1).toNat) (16 * ((m : Int) + h.1 1 w 2 * times).toNat + (h.1 1 w 0).toNat) (h.1 1 w 3) else 0
def kM (h : HH) (sh : Nat → Nat → Bool) (by' times : Nat) (set : Int) (S : Nat → Bool) (m : Nat) : Int := su (kP h sh by' set S m) (h.2 0) + su (kW h by' times S m) (h.2 1)
def cutF (h : HH) (sh : Nat → Nat → Bool) (by' times : Nat) (set : Int) (S : Nat → Bool) : Int := su (kG h by' S) (h.2 5) + su (kM h sh by' times set S) (by' + 1)
theorem ind_0 (S : Nat → Bool) (a b : Nat) : ind S a b 0 = 0 := by unfold ind; split <;> rfl
/-- at first nothing has gone: all that is wide is left forward, nothing back -/
def L0 (N : NT) : Nat → Int := fun e => if e % 2 = 0 then N.2.2.2 (e / 2) else 0
theorem L0_add (N : NT) (a b : Nat) (c : Int) {e : Nat} (h : e < 2 * (N.1 + 1)) : lAdd N (L0 N) c e = L0 (nAdd N a b c) e := by
  unfold lAdd L0 nAdd
  by_cases q : e = 2 * N.1
  · subst q; simp
  · rw [if_neg q]
    by_cases q2 : e = 2 * N.1 + 1
    · subst q2; rw [if_pos rfl, if_neg (by omega)]
    · rw [if_neg q2]
      have : e / 2 ≠ N.1 := by omega
      simp [this]
theorem mNet.congr {N : NT} {L L' : Nat → Int} {G : Nat → Nat → Int} (h : mNet N L G) (e : ∀ i, i < 2 * N.1 → L i = L' i) : mNet N L' G :=
  ⟨h.1, fun i hi => ⟨(h.2.1 i hi).1, (h.2.1 i hi).2.1, (h.2.1 i hi).2.2.trans (e i hi)⟩, h.2.2⟩
/-- a net that stands for what is laid so far -/
def lInv (G : Nat → Nat → Int) (kmax : Nat) (F : (Nat → Bool) → Int) (G' : Nat → Nat → Int) : Prop := ∃ N : NT, nWf N ∧ N.1 ≤ kmax ∧ mNet N (L0 N) G' ∧ (∀ S, cut N S = F S) ∧ nFrame G G'
def mLaid (h : HH) (sh : Nat → Nat → Bool) (by' times : Nat) (set : Int) (G : Nat → Nat → Int) : Option XV → XM → Prop := fun v τ => v = none ∧ ∃ G', τ = (S0, G') ∧ lInv G 1018 (cutF h sh by' times set) G'
/-- one arc more -/
theorem x_arc {y : XY} {pc n : Nat} {lv : List (Option XV)} {st stk : List XV} {Q : XRes → XM → Prop} {index : Nat} {G G' : Nat → Nat → Int} {kmax : Nat} {F : (Nat → Bool) → Int} (a b : Nat) (c : Int) (d : decode y.2.1 pc = .ok (.invokevirtual index, 3)) (he : x_edgeV y y_M_arc index n) (hst : stk = [xI c, xI (b : Int), xI (a : Int), oM] ++ st) (hn : n = 3) (hst8 : x_words st ≤ 8) (hI : lInv G kmax F G') (hk : kmax < 1200) (ha : a < 338) (hb : b < 338) (hc : 0 ≤ c ∧ c ≤ 1000000)
    (k : ∀ G2, lInv G (kmax + 1) (fun S => F S + ind S a b c) G2 → x_A y (pc + 3) lv st (S0, G2) 0 0 Q) : x_A y pc lv stk (S0, G') 0 0 Q := by
  obtain ⟨N, h1, h2, h3, h4, h5⟩ := hI
  subst hn
  refine x_VQ (as := [xI (a : Int), xI (b : Int), xI c]) (i := o_M) d he ⟨rfl, rfl, Nat.zero_le _, Nat.zero_le _⟩ rfl rfl hst rfl hst8 (s_arc h1 h3 (by omega) a b c ha hb) (fun v τ hv => ?_)
  obtain ⟨rfl, G2, rfl, g1, g2⟩ := hv
  exact k G2 ⟨nAdd N a b c, nAdd_wf h1 (by omega) ha hb hc, by show N.1 + 1 ≤ _; omega, g2.congr (fun i hi => L0_add N a b c hi), fun S => by rw [cut_add, h4], h5.trans g1⟩
theorem lInv.to {G G' : Nat → Nat → Int} {k k' : Nat} {F F' : (Nat → Bool) → Int} (h : lInv G k F G') (hk : k ≤ k') (hF : ∀ S, F S = F' S) : lInv G k' F' G' := by
  obtain ⟨N, h1, h2, h3, h4, h5⟩ := h
  exact ⟨N, h1, by omega, h3, fun S => (h4 S).trans (hF S), h5⟩
theorem s_lays {h : HH} {G : Nat → Nat → Int} (hh : Hwf h) (r : mRep h G) (by' times : Nat) (set : Int) (hb : by' ≤ 20) (ht : 1 ≤ times ∧ times ≤ 3) : x_M y_M_lays [oM, xI (by' : Int), xI (times : Int), xI set] (S0, G) (fun r τ => ∃ v, r = .inl v ∧ mLaid h (fun m p => decide (h.1 9 0 0 < G m_mixed (8 * m + p))) by' times set G v τ) := by
  have b := hh.1
  generalize hsh : (fun m p => decide (h.1 9 0 0 < G m_mixed (8 * m + p))) = sh
  refine x_of 3 rfl (Nat.le_of_ble_eq_true rfl) ?_
  show x_A y_M_lays 0 [some oM, some (xI (by' : Int)), some (xI (times : Int)), some (xI set), none, none, none] [] (S0, G) 0 0 _
  generalize hQ : (fun (r : XRes) (τ : XM) => ∃ v, r = .inl v ∧ mLaid h sh by' times set G v τ) = Q
  have fr : ∀ {kmax F G'}, lInv G kmax F G' → mRep h G' ∧ G' m_mixed = G m_mixed := fun hI => by
    obtain ⟨N, -, -, -, -, h5⟩ := hI
    exact ⟨h5.rep r, h5.1 m_mixed (by decide) (Or.inl (by decide))⟩
  -- minutes
  have minutes : ∀ G', lInv G (10 + 48 * 0) (fun S => su (kG h by' S) (h.2 5) + su (kM h sh by' times set S) 0) G' → x_A y_M_lays 93 [some oM, some (xI (by' : Int)), some (xI (times : Int)), some (xI set), some (xI ((0 : Nat) : Int)), none, none] [] (S0, G') 0 0 Q := by
    refine x_up_to (P := fun m => ∀ G', lInv G (10 + 48 * m) (fun S => su (kG h by' S) (h.2 5) + su (kM h sh by' times set S) m) G' → x_A y_M_lays 93 [some oM, some (xI (by' : Int)), some (xI (times : Int)), some (xI set), some (xI (m : Int)), none, none] [] (S0, G') 0 0 Q) 0 (by' + 1) (Nat.zero_le _) ?_ (fun m _ hm k => ?_)
    · intro G' hI
      refine x_iload d_M_lays_93 rfl ?_
      refine x_iload_n d_M_lays_95 rfl rfl ?_
      refine x_icmp_gt (332) d_M_lays_96 (by decide) (fun c0 => ?_) (fun c0 => ?_)
      · refine x_return d_M_lays_332 rfl ?_ (Nat.zero_le _) (Nat.zero_le _)
        rw [← hQ]
        exact ⟨none, rfl, rfl, G', rfl, hI.to (by omega) (fun S => rfl)⟩
      · omega
    · intro G' hI
      -- ways
      have ways : ∀ G', lInv G (10 + 48 * m + 24 + 2 * 0) (fun S => su (kG h by' S) (h.2 5) + su (kM h sh by' times set S) m + su (kP h sh by' set S m) (h.2 0) + su (kW h by' times S m) 0) G' → x_A y_M_lays 218 [some oM, some (xI (by' : Int)), some (xI (times : Int)), some (xI set), some (xI (m : Int)), some (xI ((0 : Nat) : Int)), none] [] (S0, G') 0 0 Q := by
        refine x_up_to (P := fun w => ∀ G', lInv G (10 + 48 * m + 24 + 2 * w) (fun S => su (kG h by' S) (h.2 5) + su (kM h sh by' times set S) m + su (kP h sh by' set S m) (h.2 0) + su (kW h by' times S m) w) G' → x_A y_M_lays 218 [some oM, some (xI (by' : Int)), some (xI (times : Int)), some (xI set), some (xI (m : Int)), some (xI (w : Int)), none] [] (S0, G') 0 0 Q) 0 (h.2 1) (Nat.zero_le _) ?_ (fun w _ hw kw => ?_)
        · intro G2 hI2
          obtain ⟨r2, -⟩ := fr hI2
          have e0 := r2.1
          refine x_iload d_M_lays_218 rfl ?_
          refine x_aload_n d_M_lays_220 rfl rfl ?_
          refine x_getIG (kf := 2) d_M_lays_221 rfl rfl rfl in_M f_M_250 ?_
          refine x_icmp_ge (326) d_M_lays_224 (by decide) (fun c0 => ?_) (fun c0 => ?_)
          · refine x_iincN d_M_lays_326 rfl (by decide) (by omega) (by omega) ?_
            dsimp only [x_st1, x_st2, x_kill, List.set, List.getElem?_cons_zero, List.getElem?_cons_succ]
            refine x_goto (93) d_M_lays_329 (by decide) ?_
            exact x_sub (fun j v hj => by
              match j, hj with
              | 0, hj => exact hj
              | 1, hj => exact hj
              | 2, hj => exact hj
              | 3, hj => exact hj
              | 4, hj => exact hj
              | 5, hj => cases hj
              | 6, hj => cases hj
              | j + 7, hj => cases hj) (k G2 (hI2.to (by omega) (fun S => by show _ = _ + (su (kM h sh by' times set S) m + (su (kP h sh by' set S m) (h.2 0) + su (kW h by' times S m) (h.2 1))); omega)))
          · omega
        · intro G2 hI2
          obtain ⟨r2, -⟩ := fr hI2
          have e0 := r2.1
          obtain ⟨e1, e2, e3, e4, -⟩ := r2.2.2.1 w hw
          have g := hh.2.2.1 w hw
          have hl1 : 1 ≤ h.1 1 w 2 * times := by have := Int.mul_le_mul (a := 1) (b := 1) (c := h.1 1 w 2) (d := (times : Int)) (by omega) (by omega) (by omega) (by omega); omega
          have hl2 : h.1 1 w 2 * times ≤ 4 * 3 := Int.mul_le_mul (by omega) (by omega) (by omega) (by omega)
          obtain ⟨t, et⟩ : ∃ t : Nat, (m : Int) + h.1 1 w 2 * times = t := ⟨((m : Int) + h.1 1 w 2 * times).toNat, by omega⟩
          obtain ⟨pa, ea⟩ : ∃ pa : Nat, h.1 1 w 0 = pa := ⟨(h.1 1 w 0).toNat, by omega⟩
          obtain ⟨pb, eb⟩ : ∃ pb : Nat, h.1 1 w 1 = pb := ⟨(h.1 1 w 1).toNat, by omega⟩
          have ek : ∀ S, kW h by' times S m w = if t ≤ by' then ind S (16 * m + 8 + pa) (16 * t + pb) (h.1 1 w 3) + ind S (16 * m + 8 + pb) (16 * t + pa) (h.1 1 w 3) else 0 := fun S => by
            unfold kW
            rw [et, ea, eb, Int.toNat_natCast, Int.toNat_natCast, Int.toNat_natCast]
            by_cases q : t ≤ by'
            · rw [if_pos q, if_pos (by omega)]
            · rw [if_neg q, if_neg (by omega)]
          refine x_iload d_M_lays_218 rfl ?_
          refine x_aload_n d_M_lays_220 rfl rfl ?_
          refine x_getIG (kf := 2) d_M_lays_221 rfl rfl rfl in_M f_M_250 ?_
          refine x_icmp_ge (326) d_M_lays_224 (by decide) (fun c0 => ?_) (fun c0 => ?_)
          · omega
          · refine x_iload d_M_lays_227 rfl ?_
            refine x_aload_n d_M_lays_229 rfl rfl ?_
            refine x_getF (kf := 20) d_M_lays_230 rfl rfl rfl in_M f_M_38 ?_
            refine x_iload d_M_lays_233 rfl ?_
            refine x_ialdN (w) d_M_lays_235 rfl (by omega) (by omega) ?_
            rw [e3]
            refine x_iload_n d_M_lays_236 rfl rfl ?_
            refine x_imulN d_M_lays_237 (by omega) (by omega) ?_
            refine x_iaddN d_M_lays_238 (by omega) (by omega) ?_
            rw [et]
            refine x_istore d_M_lays_239 (by decide) ?_
            dsimp only [x_st1, x_st2, x_kill, List.set, List.getElem?_cons_zero, List.getElem?_cons_succ]
            refine x_iload d_M_lays_241 rfl ?_
            refine x_iload_n d_M_lays_243 rfl rfl ?_
            refine x_icmp_le (250) d_M_lays_244 (by decide) (fun c1 => ?_) (fun c1 => ?_)
            · refine x_aload_n d_M_lays_250 rfl rfl ?_
              refine x_aload_n d_M_lays_251 rfl rfl ?_
              refine x_getF (kf := 18) d_M_lays_252 rfl rfl rfl in_M f_M_32 ?_
              refine x_iload d_M_lays_255 rfl ?_
              refine x_ialdN (w) d_M_lays_257 rfl (by omega) (by omega) ?_
              rw [e1, ea]
              refine x_iload d_M_lays_258 rfl ?_
              refine x_S1 d_M_lays_260 e_M_lays_M_being ⟨rfl, rfl, Nat.zero_le _, Nat.zero_le _⟩ rfl rfl (Nat.le_of_ble_eq_true rfl) (s_being _ pa m (by omega) (by omega)) ?_
              refine x_aload_n d_M_lays_263 rfl rfl ?_
              refine x_getF (kf := 19) d_M_lays_264 rfl rfl rfl in_M f_M_35 ?_
              refine x_iload d_M_lays_267 rfl ?_
              refine x_ialdN (w) d_M_lays_269 rfl (by omega) (by omega) ?_
              rw [e2, eb]
              refine x_iload d_M_lays_270 rfl ?_
              refine x_S1 d_M_lays_272 e_M_lays_M_begin ⟨rfl, rfl, Nat.zero_le _, Nat.zero_le _⟩ rfl rfl (Nat.le_of_ble_eq_true rfl) (s_begin _ pb t (by omega) (by omega)) ?_
              refine x_aload_n d_M_lays_275 rfl rfl ?_
              refine x_getF (kf := 21) d_M_lays_276 rfl rfl rfl in_M f_M_41 ?_
              refine x_iload d_M_lays_279 rfl ?_
              refine x_ialdN (w) d_M_lays_281 rfl (by omega) (by omega) ?_
              rw [e4]
              refine x_arc (16 * m + 8 + pa) (16 * t + pb) (h.1 1 w 3) d_M_lays_282 e_M_lays_M_arc rfl rfl (Nat.le_of_ble_eq_true rfl) hI2 (by omega) (by omega) (by omega) (by omega) (fun G3 hI3 => ?_)
              obtain ⟨r3, -⟩ := fr hI3
              obtain ⟨f1, f2, -, f4, -⟩ := r3.2.2.1 w hw
              refine x_aload_n d_M_lays_285 rfl rfl ?_
              refine x_aload_n d_M_lays_286 rfl rfl ?_
              refine x_getF (kf := 19) d_M_lays_287 rfl rfl rfl in_M f_M_35 ?_
              refine x_iload d_M_lays_290 rfl ?_
              refine x_ialdN (w) d_M_lays_292 rfl (by omega) (by omega) ?_
              rw [f2, eb]
              refine x_iload d_M_lays_293 rfl ?_
              refine x_S1 d_M_lays_295 e_M_lays_M_being ⟨rfl, rfl, Nat.zero_le _, Nat.zero_le _⟩ rfl rfl (Nat.le_of_ble_eq_true rfl) (s_being _ pb m (by omega) (by omega)) ?_
              refine x_aload_n d_M_lays_298 rfl rfl ?_
              refine x_getF (kf := 18) d_M_lays_299 rfl rfl rfl in_M f_M_32 ?_
              refine x_iload d_M_lays_302 rfl ?_
              refine x_ialdN (w) d_M_lays_304 rfl (by omega) (by omega) ?_
              rw [f1, ea]
              refine x_iload d_M_lays_305 rfl ?_
              refine x_S1 d_M_lays_307 e_M_lays_M_begin ⟨rfl, rfl, Nat.zero_le _, Nat.zero_le _⟩ rfl rfl (Nat.le_of_ble_eq_true rfl) (s_begin _ pa t (by omega) (by omega)) ?_
              refine x_aload_n d_M_lays_310 rfl rfl ?_
              refine x_getF (kf := 21) d_M_lays_311 rfl rfl rfl in_M f_M_41 ?_
              refine x_iload d_M_lays_314 rfl ?_
              refine x_ialdN (w) d_M_lays_316 rfl (by omega) (by omega) ?_
              rw [f4]
              refine x_arc (16 * m + 8 + pb) (16 * t + pa) (h.1 1 w 3) d_M_lays_317 e_M_lays_M_arc rfl rfl (Nat.le_of_ble_eq_true rfl) hI3 (by omega) (by omega) (by omega) (by omega) (fun G4 hI4 => ?_)
              refine x_iincN d_M_lays_320 rfl (by decide) (by omega) (by omega) ?_
              dsimp only [x_st1, x_st2, x_kill, List.set, List.getElem?_cons_zero, List.getElem?_cons_succ]
              refine x_goto (218) d_M_lays_323 (by decide) ?_
              exact x_sub (fun j v hj => by
                match j, hj with
                | 0, hj => exact hj
                | 1, hj => exact hj
                | 2, hj => exact hj
                | 3, hj => exact hj
                | 4, hj => exact hj
                | 5, hj => exact hj
                | 6, hj => cases hj
                | j + 7, hj => cases hj) (kw G4 (hI4.to (by omega) (fun S => by show _ = _ + (su (kW h by' times S m) w + kW h by' times S m w); rw [ek, if_pos (by omega)]; omega)))
            · refine x_goto (320) d_M_lays_247 (by decide) ?_
              refine x_iincN d_M_lays_320 rfl (by decide) (by omega) (by omega) ?_
              dsimp only [x_st1, x_st2, x_kill, List.set, List.getElem?_cons_zero, List.getElem?_cons_succ]
              refine x_goto (218) d_M_lays_323 (by decide) ?_
              exact x_sub (fun j v hj => by
                match j, hj with
                | 0, hj => exact hj
                | 1, hj => exact hj
                | 2, hj => exact hj
                | 3, hj => exact hj
                | 4, hj => exact hj
                | 5, hj => exact hj
                | 6, hj => cases hj
                | j + 7, hj => cases hj) (kw G2 (hI2.to (by omega) (fun S => by show _ = _ + (su (kW h by' times S m) w + kW h by' times S m w); rw [ek, if_neg (by omega)]; omega)))
      -- pieces
      have pieces : ∀ G', lInv G (10 + 48 * m + 3 * 0) (fun S => su (kG h by' S) (h.2 5) + su (kM h sh by' times set S) m + su (kP h sh by' set S m) 0) G' → x_A y_M_lays 102 [some oM, some (xI (by' : Int)), some (xI (times : Int)), some (xI set), some (xI (m : Int)), some (xI ((0 : Nat) : Int)), none] [] (S0, G') 0 0 Q := by
        refine x_up_to (P := fun p => ∀ G', lInv G (10 + 48 * m + 3 * p) (fun S => su (kG h by' S) (h.2 5) + su (kM h sh by' times set S) m + su (kP h sh by' set S m) p) G' → x_A y_M_lays 102 [some oM, some (xI (by' : Int)), some (xI (times : Int)), some (xI set), some (xI (m : Int)), some (xI (p : Int)), none] [] (S0, G') 0 0 Q) 0 (h.2 0) (Nat.zero_le _) ?_ (fun p _ hp kp => ?_)
        · intro G2 hI2
          obtain ⟨r2, -⟩ := fr hI2
          have e0 := r2.1
          refine x_iload d_M_lays_102 rfl ?_
          refine x_aload_n d_M_lays_104 rfl rfl ?_
          refine x_getIG (kf := 1) d_M_lays_105 rfl rfl rfl in_M f_M_228 ?_
          refine x_icmp_ge (215) d_M_lays_108 (by decide) (fun c0 => ?_) (fun c0 => ?_)
          · refine x_iconst (0) d_M_lays_215 rfl ⟨by decide, by decide⟩ ?_
            refine x_istore d_M_lays_216 (by decide) ?_
            dsimp only [x_st1, x_st2, x_kill, List.set, List.getElem?_cons_zero, List.getElem?_cons_succ]
            exact ways G2 (hI2.to (by omega) (fun S => by show _ = _ + 0; omega))
          · omega
        · intro G2 hI2
          obtain ⟨r2, em⟩ := fr hI2
          have e0 := r2.1
          have gp := hh.2.1 p hp
          have es : decide (h.1 9 0 0 < G2 m_mixed (8 * m + p)) = sh m p := by rw [em, ← hsh]
          have bw := f_wide_bd hh hp set (Nat.le_refl (h.2 6))
          -- behind the room's arc
          have rest : ∀ G3, lInv G (10 + 48 * m + 3 * p + 1) (fun S => su (kG h by' S) (h.2 5) + su (kM h sh by' times set S) m + su (kP h sh by' set S m) p + (if sh m p = true then 0 else ind S (16 * m + p) (16 * m + 8 + p) (h.1 0 p 0))) G3 → x_A y_M_lays 147 [some oM, some (xI (by' : Int)), some (xI (times : Int)), some (xI set), some (xI (m : Int)), some (xI (p : Int)), none] [] (S0, G3) 0 0 Q := by
            intro G3 hI3
            obtain ⟨r3, -⟩ := fr hI3
            refine x_iload d_M_lays_147 rfl ?_
            refine x_iload_n d_M_lays_149 rfl rfl ?_
            refine x_icmp_ne (156) d_M_lays_150 (by decide) (fun c1 => ?_) (fun c1 => ?_)
            · refine x_aload_n d_M_lays_156 rfl rfl ?_
              refine x_iload d_M_lays_157 rfl ?_
              refine x_iload d_M_lays_159 rfl ?_
              refine x_S1 d_M_lays_161 e_M_lays_M_being ⟨rfl, rfl, Nat.zero_le _, Nat.zero_le _⟩ rfl rfl (Nat.le_of_ble_eq_true rfl) (s_being _ p m (by omega) (by omega)) ?_
              refine x_iload d_M_lays_164 rfl ?_
              refine x_iload d_M_lays_166 rfl ?_
              refine x_iconst (1) d_M_lays_168 rfl ⟨by decide, by decide⟩ ?_
              refine x_iaddN d_M_lays_169 (by omega) (by omega) ?_
              rw [show (m : Int) + 1 = ((m + 1 : Nat) : Int) by omega]
              refine x_S1 d_M_lays_170 e_M_lays_M_begin ⟨rfl, rfl, Nat.zero_le _, Nat.zero_le _⟩ rfl rfl (Nat.le_of_ble_eq_true rfl) (s_begin _ p (m + 1) (by omega) (by omega)) ?_
              refine x_ldcw (1000000) d_M_lays_173 k_M_387 ⟨by decide, by decide⟩ ?_
              refine x_arc (16 * m + 8 + p) (16 * (m + 1) + p) 1000000 d_M_lays_176 e_M_lays_M_arc rfl rfl (Nat.le_of_ble_eq_true rfl) hI3 (by omega) (by omega) (by omega) (by omega) (fun G4 hI4 => ?_)
              obtain ⟨r4, -⟩ := fr hI4
              have last : ∀ G5, lInv G (10 + 48 * m + 3 * (p + 1)) (fun S => su (kG h by' S) (h.2 5) + su (kM h sh by' times set S) m + su (kP h sh by' set S m) p + (if sh m p = true then 0 else ind S (16 * m + p) (16 * m + 8 + p) (h.1 0 p 0)) + ind S (16 * m + 8 + p) (16 * (m + 1) + p) 1000000 + ind S (16 * m + 8 + p) 337 (f_wide h p set (h.2 6))) G5 → x_A y_M_lays 209 [some oM, some (xI (by' : Int)), some (xI (times : Int)), some (xI set), some (xI (m : Int)), some (xI (p : Int)), none] [] (S0, G5) 0 0 Q := by
                intro G5 hI5
                refine x_iincN d_M_lays_209 rfl (by decide) (by omega) (by omega) ?_
                dsimp only [x_st1, x_st2, x_kill, List.set, List.getElem?_cons_zero, List.getElem?_cons_succ]
                refine x_goto (102) d_M_lays_212 (by decide) ?_
                refine kp G5 (hI5.to (Nat.le_refl _) (fun S => ?_))
                show _ = _ + (su (kP h sh by' set S m) p + kP h sh by' set S m p)
                unfold kP
                rw [if_pos (show m < by' by omega)]
                omega
              refine x_aload_n d_M_lays_179 rfl rfl ?_
              refine x_iload d_M_lays_180 rfl ?_
              refine x_iload_n d_M_lays_182 rfl rfl ?_
              refine x_V1 d_M_lays_183 e_M_lays_M_wideOut ⟨rfl, rfl, Nat.zero_le _, Nat.zero_le _⟩ rfl rfl rfl rfl (Nat.le_of_ble_eq_true rfl) (s_wideOut hh r4 p hp set) ?_
              refine x_istore d_M_lays_186 (by decide) ?_
              dsimp only [x_st1, x_st2, x_kill, List.set, List.getElem?_cons_zero, List.getElem?_cons_succ]
              refine x_iload d_M_lays_188 rfl ?_
              refine x_if_le (209) d_M_lays_190 (by decide) (fun c2 => ?_) (fun c2 => ?_)
              · refine x_sub (lv' := [some oM, some (xI (by' : Int)), some (xI (times : Int)), some (xI set), some (xI (m : Int)), some (xI (p : Int)), none]) (fun j v hj => by
                  match j, hj with
                  | 0, hj => exact hj
                  | 1, hj => exact hj
                  | 2, hj => exact hj
                  | 3, hj => exact hj
                  | 4, hj => exact hj
                  | 5, hj => exact hj
                  | 6, hj => cases hj
                  | j + 7, hj => cases hj) (last G4 (hI4.to (by omega) (fun S => ?_)))
                rw [show f_wide h p set (h.2 6) = 0 by omega, ind_0]; omega
              · refine x_aload_n d_M_lays_193 rfl rfl ?_
                refine x_iload d_M_lays_194 rfl ?_
                refine x_iload d_M_lays_196 rfl ?_
                refine x_S1 d_M_lays_198 e_M_lays_M_being ⟨rfl, rfl, Nat.zero_le _, Nat.zero_le _⟩ rfl rfl (Nat.le_of_ble_eq_true rfl) (s_being _ p m (by omega) (by omega)) ?_
                refine x_sipush (337) d_M_lays_201 rfl ⟨by decide, by decide⟩ ?_
                refine x_iload d_M_lays_204 rfl ?_
                refine x_arc (16 * m + 8 + p) 337 (f_wide h p set (h.2 6)) d_M_lays_206 e_M_lays_M_arc rfl rfl (Nat.le_of_ble_eq_true rfl) hI4 (by omega) (by omega) (by omega) (by omega) (fun G5 hI5 => ?_)
                exact x_sub (fun j v hj => by
                  match j, hj with
                  | 0, hj => exact hj
                  | 1, hj => exact hj
                  | 2, hj => exact hj
                  | 3, hj => exact hj
                  | 4, hj => exact hj
                  | 5, hj => exact hj
                  | 6, hj => cases hj
                  | j + 7, hj => cases hj) (last G5 (hI5.to (by omega) (fun S => rfl)))
            · refine x_goto (209) d_M_lays_153 (by decide) ?_
              refine x_iincN d_M_lays_209 rfl (by decide) (by omega) (by omega) ?_
              dsimp only [x_st1, x_st2, x_kill, List.set, List.getElem?_cons_zero, List.getElem?_cons_succ]
              refine x_goto (102) d_M_lays_212 (by decide) ?_
              refine kp G3 (hI3.to (by omega) (fun S => ?_))
              show _ = _ + (su (kP h sh by' set S m) p + kP h sh by' set S m p)
              unfold kP
              rw [if_neg (show ¬ m < by' by omega)]
              omega
          refine x_iload d_M_lays_102 rfl ?_
          refine x_aload_n d_M_lays_104 rfl rfl ?_
          refine x_getIG (kf := 1) d_M_lays_105 rfl rfl rfl in_M f_M_228 ?_
          refine x_icmp_ge (215) d_M_lays_108 (by decide) (fun c0 => ?_) (fun c0 => ?_)
          · omega
          · refine x_aload_n d_M_lays_111 rfl rfl ?_
            refine x_iload d_M_lays_112 rfl ?_
            refine x_iload d_M_lays_114 rfl ?_
            refine x_V1 d_M_lays_116 e_M_lays_M_isShut ⟨rfl, rfl, Nat.zero_le _, Nat.zero_le _⟩ rfl rfl rfl rfl (Nat.le_of_ble_eq_true rfl) (s_isShut r2 p m (by omega) (by omega)) ?_
            rw [es]
            refine x_if_ne (147) d_M_lays_119 (by decide) (fun c1 => ?_) (fun c1 => ?_)
            · exact rest G2 (hI2.to (by omega) (fun S => by rw [if_pos (b2i_t.mp c1)]; omega))
            · refine x_aload_n d_M_lays_122 rfl rfl ?_
              refine x_iload d_M_lays_123 rfl ?_
              refine x_iload d_M_lays_125 rfl ?_
              refine x_S1 d_M_lays_127 e_M_lays_M_begin ⟨rfl, rfl, Nat.zero_le _, Nat.zero_le _⟩ rfl rfl (Nat.le_of_ble_eq_true rfl) (s_begin _ p m (by omega) (by omega)) ?_
              refine x_iload d_M_lays_130 rfl ?_
              refine x_iload d_M_lays_132 rfl ?_
              refine x_S1 d_M_lays_134 e_M_lays_M_being ⟨rfl, rfl, Nat.zero_le _, Nat.zero_le _⟩ rfl rfl (Nat.le_of_ble_eq_true rfl) (s_being _ p m (by omega) (by omega)) ?_
              refine x_aload_n d_M_lays_137 rfl rfl ?_
              refine x_getF (kf := 15) d_M_lays_138 rfl rfl rfl in_M f_M_22 ?_
              refine x_iload d_M_lays_141 rfl ?_
              refine x_ialdN (p) d_M_lays_143 rfl (by omega) (by omega) ?_
              rw [(r2.2.1 p hp).1]
              refine x_arc (16 * m + p) (16 * m + 8 + p) (h.1 0 p 0) d_M_lays_144 e_M_lays_M_arc rfl rfl (Nat.le_of_ble_eq_true rfl) hI2 (by omega) (by omega) (by omega) (by omega) (fun G3 hI3 => ?_)
              exact rest G3 (hI3.to (by omega) (fun S => by rw [if_neg (by rw [b2i_f.mp c1]; decide)]))
      refine x_iload d_M_lays_93 rfl ?_
      refine x_iload_n d_M_lays_95 rfl rfl ?_
      refine x_icmp_gt (332) d_M_lays_96 (by decide) (fun c0 => ?_) (fun c0 => ?_)
      · omega
      · refine x_iconst (0) d_M_lays_99 rfl ⟨by decide, by decide⟩ ?_
        refine x_istore d_M_lays_100 (by decide) ?_
        dsimp only [x_st1, x_st2, x_kill, List.set, List.getElem?_cons_zero, List.getElem?_cons_succ]
        exact pieces G' (hI.to (by omega) (fun S => by show _ = _ + 0; omega))
  -- groups
  have groups : ∀ G', lInv G 0 (fun S => su (kG h by' S) 0) G' → x_A y_M_lays 33 [some oM, some (xI (by' : Int)), some (xI (times : Int)), some (xI set), some (xI ((0 : Nat) : Int)), none, none] [] (S0, G') 0 0 Q := by
    refine x_up_to (P := fun g => ∀ G', lInv G g (fun S => su (kG h by' S) g) G' → x_A y_M_lays 33 [some oM, some (xI (by' : Int)), some (xI (times : Int)), some (xI set), some (xI (g : Int)), none, none] [] (S0, G') 0 0 Q) 0 (h.2 5) (Nat.zero_le _) ?_ (fun g _ hg k => ?_)
    · intro G2 hI2
      obtain ⟨r2, -⟩ := fr hI2
      have e0 := r2.1
      refine x_iload d_M_lays_33 rfl ?_
      refine x_aload_n d_M_lays_35 rfl rfl ?_
      refine x_getIG (kf := 6) d_M_lays_36 rfl rfl rfl in_M f_M_262 ?_
      refine x_icmp_ge (90) d_M_lays_39 (by decide) (fun c0 => ?_) (fun c0 => ?_)
      · refine x_iconst (0) d_M_lays_90 rfl ⟨by decide, by decide⟩ ?_
        refine x_istore d_M_lays_91 (by decide) ?_
        dsimp only [x_st1, x_st2, x_kill, List.set, List.getElem?_cons_zero, List.getElem?_cons_succ]
        exact minutes G2 (hI2.to (by omega) (fun S => by show _ = _ + 0; omega))
      · omega
    · intro G2 hI2
      obtain ⟨r2, -⟩ := fr hI2
      have e0 := r2.1
      obtain ⟨e1, e2, e3⟩ := r2.2.2.2.2.2.2.1 g hg
      have gg := hh.2.2.2.2.2.2.1 g hg
      obtain ⟨pa, ea⟩ : ∃ pa : Nat, h.1 5 g 0 = pa := ⟨(h.1 5 g 0).toNat, by omega⟩
      obtain ⟨s0, es⟩ : ∃ s0 : Nat, h.1 5 g 2 = s0 := ⟨(h.1 5 g 2).toNat, by omega⟩
      have ek : ∀ S, kG h by' S g = if s0 ≤ by' then ind S 336 (16 * s0 + pa) (h.1 5 g 1) else 0 := fun S => by
        unfold kG
        rw [es, ea, Int.toNat_natCast, Int.toNat_natCast]
        by_cases q : s0 ≤ by'
        · rw [if_pos q, if_pos (by omega)]
        · rw [if_neg q, if_neg (by omega)]
      refine x_iload d_M_lays_33 rfl ?_
      refine x_aload_n d_M_lays_35 rfl rfl ?_
      refine x_getIG (kf := 6) d_M_lays_36 rfl rfl rfl in_M f_M_262 ?_
      refine x_icmp_ge (90) d_M_lays_39 (by decide) (fun c0 => ?_) (fun c0 => ?_)
      · omega
      · refine x_aload_n d_M_lays_42 rfl rfl ?_
        refine x_getF (kf := 39) d_M_lays_43 rfl rfl rfl in_M f_M_95 ?_
        refine x_iload d_M_lays_46 rfl ?_
        refine x_ialdN (g) d_M_lays_48 rfl (by omega) (by omega) ?_
        rw [e3, es]
        refine x_iload_n d_M_lays_49 rfl rfl ?_
        refine x_icmp_gt (84) d_M_lays_50 (by decide) (fun c1 => ?_) (fun c1 => ?_)
        · refine x_iincN d_M_lays_84 rfl (by decide) (by omega) (by omega) ?_
          dsimp only [x_st1, x_st2, x_kill, List.set, List.getElem?_cons_zero, List.getElem?_cons_succ]
          refine x_goto (33) d_M_lays_87 (by decide) ?_
          exact k G2 (hI2.to (by omega) (fun S => by show _ = su (kG h by' S) g + kG h by' S g; rw [ek, if_neg (by omega)]; omega))
        · refine x_aload_n d_M_lays_53 rfl rfl ?_
          refine x_sipush (336) d_M_lays_54 rfl ⟨by decide, by decide⟩ ?_
          refine x_aload_n d_M_lays_57 rfl rfl ?_
          refine x_getF (kf := 37) d_M_lays_58 rfl rfl rfl in_M f_M_89 ?_
          refine x_iload d_M_lays_61 rfl ?_
          refine x_ialdN (g) d_M_lays_63 rfl (by omega) (by omega) ?_
          rw [e1, ea]
          refine x_aload_n d_M_lays_64 rfl rfl ?_
          refine x_getF (kf := 39) d_M_lays_65 rfl rfl rfl in_M f_M_95 ?_
          refine x_iload d_M_lays_68 rfl ?_
          refine x_ialdN (g) d_M_lays_70 rfl (by omega) (by omega) ?_
          rw [e3, es]
          refine x_S1 d_M_lays_71 e_M_lays_M_begin ⟨rfl, rfl, Nat.zero_le _, Nat.zero_le _⟩ rfl rfl (Nat.le_of_ble_eq_true rfl) (s_begin _ pa s0 (by omega) (by omega)) ?_
          refine x_aload_n d_M_lays_74 rfl rfl ?_
          refine x_getF (kf := 38) d_M_lays_75 rfl rfl rfl in_M f_M_92 ?_
          refine x_iload d_M_lays_78 rfl ?_
          refine x_ialdN (g) d_M_lays_80 rfl (by omega) (by omega) ?_
          rw [e2]
          refine x_arc 336 (16 * s0 + pa) (h.1 5 g 1) d_M_lays_81 e_M_lays_M_arc rfl rfl (Nat.le_of_ble_eq_true rfl) hI2 (by omega) (by omega) (by omega) (by omega) (fun G3 hI3 => ?_)
          refine x_iincN d_M_lays_84 rfl (by decide) (by omega) (by omega) ?_
          dsimp only [x_st1, x_st2, x_kill, List.set, List.getElem?_cons_zero, List.getElem?_cons_succ]
          refine x_goto (33) d_M_lays_87 (by decide) ?_
          exact k G3 (hI3.to (by omega) (fun S => by show _ = su (kG h by' S) g + kG h by' S g; rw [ek, if_pos (by omega)]))
  -- heads
  have heads : ∀ G', nFrame G G' → (∀ n, n < 0 → G' m_head n = -1) → x_A y_M_lays 3 [some oM, some (xI (by' : Int)), some (xI (times : Int)), some (xI set), some (xI ((0 : Nat) : Int)), none, none] [] (S0, G') 0 0 Q := by
    refine x_up_to (P := fun i => ∀ G', nFrame G G' → (∀ n, n < i → G' m_head n = -1) → x_A y_M_lays 3 [some oM, some (xI (by' : Int)), some (xI (times : Int)), some (xI set), some (xI (i : Int)), none, none] [] (S0, G') 0 0 Q) 0 338 (Nat.zero_le _) ?_ (fun i _ hi k => ?_)
    · intro G2 f1 f2
      refine x_iload d_M_lays_3 rfl ?_
      refine x_sipush (338) d_M_lays_5 rfl ⟨by decide, by decide⟩ ?_
      refine x_icmp_ge (25) d_M_lays_8 (by decide) (fun c0 => ?_) (fun c0 => ?_)
      · refine x_aload_n d_M_lays_25 rfl rfl ?_
        refine x_iconst (0) d_M_lays_26 rfl ⟨by decide, by decide⟩ ?_
        refine x_putIG (kf := 68) tyX12 d_M_lays_27 rfl rfl rfl in_M f_M_375 tyX12_ok nmX12 (by decide +kernel) rfl ?_
        refine x_iconst (0) d_M_lays_30 rfl ⟨by decide, by decide⟩ ?_
        refine x_istore d_M_lays_31 (by decide) ?_
        dsimp only [x_st1, x_st2, x_kill, List.set, List.getElem?_cons_zero, List.getElem?_cons_succ]
        refine groups _ ⟨(0, fun _ => 0, fun _ => 0, fun _ => 0), ⟨by decide, fun k hk => absurd hk (Nat.not_lt_zero k)⟩, Nat.le_refl 0, ⟨?_, fun e he => absurd he (Nat.not_lt_zero e), fun n hn => ?_⟩, fun S => rfl, f1.put68⟩
        · rw [up_same]; rfl
        · rw [up_cell (by decide)]; exact f2 n hn
      · omega
    · intro G2 f1 f2
      refine x_iload d_M_lays_3 rfl ?_
      refine x_sipush (338) d_M_lays_5 rfl ⟨by decide, by decide⟩ ?_
      refine x_icmp_ge (25) d_M_lays_8 (by decide) (fun c0 => ?_) (fun c0 => ?_)
      · omega
      · refine x_aload_n d_M_lays_11 rfl rfl ?_
        refine x_getF (kf := 60) d_M_lays_12 rfl rfl rfl in_M f_M_150 ?_
        refine x_iload d_M_lays_15 rfl ?_
        refine x_iconst (-1) d_M_lays_17 rfl ⟨by decide, by decide⟩ ?_
        refine x_iastN (i) d_M_lays_18 rfl (by omega) (by omega) ?_
        refine x_iincN d_M_lays_19 rfl (by decide) (by omega) (by omega) ?_
        dsimp only [x_st1, x_st2, x_kill, List.set, List.getElem?_cons_zero, List.getElem?_cons_succ]
        refine x_goto (3) d_M_lays_22 (by decide) ?_
        refine k _ (f1.put (by decide) (by decide)) (fun n hn => ?_)
        by_cases q : n = i
        · subst q; rw [up_same]
        · rw [up_ne q]; exact f2 n (by omega)
  refine x_iconst (0) d_M_lays_0 rfl ⟨by decide, by decide⟩ ?_
  refine x_istore d_M_lays_1 (by decide) ?_
  dsimp only [x_st1, x_st2, x_kill, List.set, List.getElem?_cons_zero, List.getElem?_cons_succ]
  exact heads G (nFrame.rf G) (fun n hn => absurd hn (Nat.not_lt_zero n))
