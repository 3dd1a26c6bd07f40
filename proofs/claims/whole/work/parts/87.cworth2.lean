/-! the class: worthOf, firstForAll, fitsDrills -/
section CWo2
variable {h : HH} {G : Nat → Nat → Int}
def mCW (h : HH) (S : Nat → Bool) (sh : Nat → Nat → Bool) (y : Nat) (G : Nat → Nat → Int) : Option XV → XM → Prop := fun v τ => τ = (S0, G) ∧ ∃ V, v = some (xI V) ∧ (((∃ m p, p < h.2 0 ∧ f_bad h S y m p) ∧ V = -1) ∨ ((∀ m p, p < h.2 0 → ¬ f_bad h S y m p) ∧ V = f_wv h S sh y))
theorem vP_bd (hh : Hwf h) (S : Nat → Bool) (sh : Nat → Nat → Bool) (y m : Nat) {p : Nat} (hp : p < h.2 0) : 0 ≤ vP h S sh y m p ∧ vP h S sh y m p ≤ 500 := by
  have b := hh.2.1 p hp
  have b0 := hh.1
  have bw := f_wide_bd hh hp (f_made h (h.2 6)) (d := h.2 6) (Nat.le_refl _)
  unfold vP
  split <;> split <;> omega
theorem c_worthOf (hh : Hwf h) (r : fRep h G) (x y : Nat) (hx : x < 4) (hl : G ro_lengths x ≤ 30) (hy : (y : Int) < G ro_lengths x) (hy2 : y ≤ 20) : x_M y_Es_worthOf [oEs, oRo, xI (x : Int), xI (y : Int)] (S0, G) (fun r τ => ∃ v, r = .inl v ∧ mCW h (cS G x) (fun m p => decide (h.1 9 0 0 < G sm_mixed (8 * m + p))) y G v τ) := by
  have b := hh.1
  generalize hsh : (fun m p => decide (h.1 9 0 0 < G sm_mixed (8 * m + p))) = sh
  generalize hS : cS G x = S
  refine x_of 5 rfl (Nat.le_of_ble_eq_true rfl) ?_
  show x_A y_Es_worthOf 0 [some oEs, some oRo, some (xI (x : Int)), some (xI (y : Int)), none, none, none, none, none] [] (S0, G) 0 0 _
  generalize hQ : (fun (r : XRes) (τ : XM) => ∃ v, r = .inl v ∧ mCW h S sh y G v τ) = Q
  refine x_iconst (0) d_Es_worthOf_0 rfl ⟨by decide, by decide⟩ ?_
  refine x_istore d_Es_worthOf_1 (by decide) ?_
  dsimp only [x_st1, x_st2, x_kill, List.set, List.getElem?_cons_zero, List.getElem?_cons_succ]
  refine x_iconst (0) d_Es_worthOf_3 rfl ⟨by decide, by decide⟩ ?_
  refine x_istore d_Es_worthOf_4 (by decide) ?_
  dsimp only [x_st1, x_st2, x_kill, List.set, List.getElem?_cons_zero, List.getElem?_cons_succ]
  refine x_up_to (P := fun m => ∀ z6 z7 z8, (∀ m' p, m' < m → p < h.2 0 → ¬ f_bad h S y m' p) → x_A y_Es_worthOf 6 [some oEs, some oRo, some (xI (x : Int)), some (xI (y : Int)), some (xI (su (fun m => su (vP h S sh y m) (h.2 0)) m)), some (xI (m : Int)), z6, z7, z8] [] (S0, G) 0 0 Q) 0 (y + 1) (Nat.zero_le _) (fun z6 z7 z8 hb => ?_) (fun m _ hm k z6 z7 z8 hb => ?_) none none none (fun m' p hm' => by omega)
  · have b1 := su_bd (f := fun m => su (vP h S sh y m) (h.2 0)) (c := 0) (d := 4000) (n := y + 1) (fun j hj => by
      have := su_bd (f := vP h S sh y j) (c := 0) (d := 500) (n := h.2 0) (fun p hp => vP_bd hh S sh y j hp)
      omega)
    have b2 := su_bd (f := f_wg h S y) (c := 0) (d := 60) (n := h.2 5) (fun j hj => f_wg_bd hh hj)
    have b3 := su_bd (f := fun w => su (fun m => vW h S y m w) (y + 1)) (c := 0) (d := 1680) (n := h.2 1) (fun j hj => by
      have := su_bd (f := fun m => vW h S y m j) (c := 0) (d := 80) (n := y + 1) (fun m _ => vW_bd hh S y m hj)
      omega)
    have cg := c_worthOfGroups hh r x y hx hl hy
    have cw := c_worthOfWays hh r x y hx hl hy hy2
    rw [hS] at cg cw
    refine x_iload d_Es_worthOf_6 rfl ?_
    refine x_iload_n d_Es_worthOf_8 rfl rfl ?_
    refine x_icmp_gt (168) d_Es_worthOf_9 (by decide) (fun g => ?_) (fun g => ?_)
    · refine x_iload d_Es_worthOf_168 rfl ?_
      refine x_aload_n d_Es_worthOf_170 rfl rfl ?_
      refine x_aload_n d_Es_worthOf_171 rfl rfl ?_
      refine x_iload_n d_Es_worthOf_172 rfl rfl ?_
      refine x_iload_n d_Es_worthOf_173 rfl rfl ?_
      refine x_V1 d_Es_worthOf_174 e_Es_worthOf_Es_worthOfGroups ⟨rfl, rfl, Nat.zero_le _, Nat.zero_le _⟩ rfl rfl rfl rfl (Nat.le_of_ble_eq_true rfl) (cg) ?_
      refine x_iaddN d_Es_worthOf_177 (by omega) (by omega) ?_
      refine x_aload_n d_Es_worthOf_178 rfl rfl ?_
      refine x_aload_n d_Es_worthOf_179 rfl rfl ?_
      refine x_iload_n d_Es_worthOf_180 rfl rfl ?_
      refine x_iload_n d_Es_worthOf_181 rfl rfl ?_
      refine x_V1 d_Es_worthOf_182 e_Es_worthOf_Es_worthOfWays ⟨rfl, rfl, Nat.zero_le _, Nat.zero_le _⟩ rfl rfl rfl rfl (Nat.le_of_ble_eq_true rfl) (cw) ?_
      refine x_iaddN d_Es_worthOf_185 (by omega) (by omega) ?_
      refine x_ireturn d_Es_worthOf_186 rfl ?_ (Nat.zero_le _) (Nat.zero_le _)
      rw [← hQ, f_wv_v hh S sh y]
      refine ⟨_, rfl, rfl, _, rfl, Or.inr ⟨fun m p hp hbad => ?_, rfl⟩⟩
      exact hb m p (by have := hbad.1; omega) hp hbad
    · omega
  · have b1 := su_bd (f := fun m => su (vP h S sh y m) (h.2 0)) (c := 0) (d := 4000) (n := m) (fun j hj => by
      have := su_bd (f := vP h S sh y j) (c := 0) (d := 500) (n := h.2 0) (fun p hp => vP_bd hh S sh y j hp)
      omega)
    refine x_iload d_Es_worthOf_6 rfl ?_
    refine x_iload_n d_Es_worthOf_8 rfl rfl ?_
    refine x_icmp_gt (168) d_Es_worthOf_9 (by decide) (fun g => ?_) (fun g => ?_)
    · omega
    · refine x_iconst (0) d_Es_worthOf_12 rfl ⟨by decide, by decide⟩ ?_
      refine x_istore d_Es_worthOf_13 (by decide) ?_
      dsimp only [x_st1, x_st2, x_kill, List.set, List.getElem?_cons_zero, List.getElem?_cons_succ]
      rw [show su (fun m => su (vP h S sh y m) (h.2 0)) m = su (fun m => su (vP h S sh y m) (h.2 0)) m + su (vP h S sh y m) 0 from by show _ = _ + (0 : Int); omega]
      refine x_up_to (P := fun p => ∀ z7 z8, (∀ p', p' < p → ¬ f_bad h S y m p') → x_A y_Es_worthOf 15 [some oEs, some oRo, some (xI (x : Int)), some (xI (y : Int)), some (xI (su (fun m => su (vP h S sh y m) (h.2 0)) m + su (vP h S sh y m) p)), some (xI (m : Int)), some (xI (p : Int)), z7, z8] [] (S0, G) 0 0 Q) 0 (h.2 0) (Nat.zero_le _) (fun z7 z8 hb2 => ?_) (fun p _ hp k2 z7 z8 hb2 => ?_) z7 z8 (fun p' hp' => by omega)
      · refine x_iload d_Es_worthOf_15 rfl ?_
        refine x_aload_n d_Es_worthOf_17 rfl rfl ?_
        refine x_getF (kf := 0) d_Es_worthOf_18 rfl rfl rfl in_Es f_Es_18 ?_
        refine x_getF (kf := 0) d_Es_worthOf_21 rfl rfl rfl in_Ho f_Es_74 ?_
        refine x_V1 d_Es_worthOf_24 e_Es_worthOf_Ta_size ⟨rfl, rfl, Nat.zero_le _, Nat.zero_le _⟩ rfl rfl rfl rfl (Nat.le_of_ble_eq_true rfl) (k_size r 0 (by decide)) ?_
        refine x_icmp_ge (162) d_Es_worthOf_27 (by decide) (fun g => ?_) (fun g => ?_)
        · refine x_iincN d_Es_worthOf_162 rfl (by decide) (by omega) (by omega) ?_
          dsimp only [x_st1, x_st2, x_kill, List.set, List.getElem?_cons_zero, List.getElem?_cons_succ]
          refine x_goto (6) d_Es_worthOf_165 (by decide) ?_
          refine k _ _ _ (fun m' p hm' hp => ?_)
          by_cases e : m' = m
          · subst e; exact hb2 p hp
          · exact hb m' p (by omega) hp
        · omega
      · have b2 := su_bd (f := vP h S sh y m) (c := 0) (d := 500) (n := p) (fun q hq => vP_bd hh S sh y m (by omega))
        have bp := hh.2.1 p hp
        have bw := f_wide_bd hh hp (f_made h (h.2 6)) (d := h.2 6) (Nat.le_refl _)
        have eshut : decide (h.1 9 0 0 < G sm_mixed (8 * m + p)) = sh m p := by rw [← hsh]
        have e5 : su (vP h S sh y m) (p + 1) = su (vP h S sh y m) p + ((if S (16 * m + p) = true ∧ S (16 * m + 8 + p) = false ∧ sh m p = false then h.1 0 p 0 else 0) + (if S (16 * m + 8 + p) = true ∧ m < y then f_wide h p (f_made h (h.2 6)) (h.2 6) else 0)) := rfl
        rw [e5] at k2
        generalize hs0 : su (fun m => su (vP h S sh y m) (h.2 0)) m = s0 at *
        generalize hs1 : su (vP h S sh y m) p = s1 at *
        -- the last of the three: the out
        have third : ∀ s2 : Int, 0 ≤ s2 ∧ s2 ≤ 200 → (if S (16 * m + p) = true ∧ S (16 * m + 8 + p) = false ∧ sh m p = false then h.1 0 p 0 else 0) = s2 → ¬ f_bad h S y m p → ∀ z, x_A y_Es_worthOf 124 [some oEs, some oRo, some (xI (x : Int)), some (xI (y : Int)), some (xI (s0 + s1 + s2)), some (xI (m : Int)), some (xI (p : Int)), z, some (xI (b2i (S (16 * m + 8 + p))))] [] (S0, G) 0 0 Q := by
          intro s2 bs2 hs2 hnb z
          rw [hs2] at k2
          have hb3 : ∀ p', p' < p + 1 → ¬ f_bad h S y m p' := fun p' hp' => by
            by_cases e : p' = p
            · subst e; exact hnb
            · exact hb2 p' (by omega)
          refine x_iload d_Es_worthOf_124 rfl ?_
          by_cases c : S (16 * m + 8 + p) = true
          · rw [c]
            refine x_if_eq (156) d_Es_worthOf_126 (by decide) (fun g2 => ?_) (fun g2 => ?_)
            · cases g2
            · refine x_iload d_Es_worthOf_129 rfl ?_
              refine x_iload_n d_Es_worthOf_131 rfl rfl ?_
              refine x_icmp_ge (156) d_Es_worthOf_132 (by decide) (fun g3 => ?_) (fun g3 => ?_)
              · refine x_iincN d_Es_worthOf_156 rfl (by decide) (by omega) (by omega) ?_
                dsimp only [x_st1, x_st2, x_kill, List.set, List.getElem?_cons_zero, List.getElem?_cons_succ]
                refine x_goto (15) d_Es_worthOf_159 (by decide) ?_
                have := k2 z (some (xI (b2i (S (16 * m + 8 + p))))) hb3
                rw [if_neg (fun q => by omega), c, show s0 + (s1 + (s2 + 0)) = s0 + s1 + s2 by omega] at this
                exact this
              · refine x_iload d_Es_worthOf_135 rfl ?_
                refine x_aload_n d_Es_worthOf_137 rfl rfl ?_
                refine x_getF (kf := 0) d_Es_worthOf_138 rfl rfl rfl in_Es f_Es_18 ?_
                refine x_iload d_Es_worthOf_141 rfl ?_
                refine x_aload_n d_Es_worthOf_143 rfl rfl ?_
                refine x_getF (kf := 0) d_Es_worthOf_144 rfl rfl rfl in_Es f_Es_18 ?_
                refine x_V1 d_Es_worthOf_147 e_Es_worthOf_Ho_madeDoors ⟨rfl, rfl, Nat.zero_le _, Nat.zero_le _⟩ rfl rfl rfl rfl (Nat.le_of_ble_eq_true rfl) (c_madeDoors hh r) ?_
                refine x_V1 d_Es_worthOf_150 e_Es_worthOf_Ho_exitWidth ⟨rfl, rfl, Nat.zero_le _, Nat.zero_le _⟩ rfl rfl rfl rfl (Nat.le_of_ble_eq_true rfl) (c_exitWidth hh r p hp _) ?_
                refine x_iaddN d_Es_worthOf_153 (by omega) (by omega) ?_
                refine x_istore d_Es_worthOf_154 (by decide) ?_
                dsimp only [x_st1, x_st2, x_kill, List.set, List.getElem?_cons_zero, List.getElem?_cons_succ]
                refine x_iincN d_Es_worthOf_156 rfl (by decide) (by omega) (by omega) ?_
                dsimp only [x_st1, x_st2, x_kill, List.set, List.getElem?_cons_zero, List.getElem?_cons_succ]
                refine x_goto (15) d_Es_worthOf_159 (by decide) ?_
                have := k2 z (some (xI (b2i (S (16 * m + 8 + p))))) hb3
                rw [if_pos ⟨c, by omega⟩, c, show s0 + (s1 + (s2 + f_wide h p (f_made h (h.2 6)) (h.2 6))) = s0 + s1 + s2 + f_wide h p (f_made h (h.2 6)) (h.2 6) by omega] at this
                exact this
          · have c' : S (16 * m + 8 + p) = false := by simpa using c
            rw [c']
            refine x_if_eq (156) d_Es_worthOf_126 (by decide) (fun g2 => ?_) (fun g2 => ?_)
            · refine x_iincN d_Es_worthOf_156 rfl (by decide) (by omega) (by omega) ?_
              dsimp only [x_st1, x_st2, x_kill, List.set, List.getElem?_cons_zero, List.getElem?_cons_succ]
              refine x_goto (15) d_Es_worthOf_159 (by decide) ?_
              have := k2 z (some (xI (b2i (S (16 * m + 8 + p))))) hb3
              rw [if_neg (fun q => c q.1), c', show s0 + (s1 + (s2 + 0)) = s0 + s1 + s2 by omega] at this
              exact this
            · exact absurd rfl g2
        have second : ¬ f_bad h S y m p → x_A y_Es_worthOf 82 [some oEs, some oRo, some (xI (x : Int)), some (xI (y : Int)), some (xI (s0 + s1)), some (xI (m : Int)), some (xI (p : Int)), some (xI (b2i (S (16 * m + p)))), some (xI (b2i (S (16 * m + 8 + p))))] [] (S0, G) 0 0 Q := by
          intro hnb
          have none' : (¬ (S (16 * m + p) = true ∧ S (16 * m + 8 + p) = false ∧ sh m p = false)) → ∀ z, x_A y_Es_worthOf 124 [some oEs, some oRo, some (xI (x : Int)), some (xI (y : Int)), some (xI (s0 + s1)), some (xI (m : Int)), some (xI (p : Int)), z, some (xI (b2i (S (16 * m + 8 + p))))] [] (S0, G) 0 0 Q := by
            intro hn z
            have := third 0 (by omega) (if_neg hn) hnb z
            rw [Int.add_zero] at this
            exact this
          refine x_iload d_Es_worthOf_82 rfl ?_
          by_cases c1 : S (16 * m + p) = true
          · rw [c1]
            refine x_if_eq (124) d_Es_worthOf_84 (by decide) (fun g2 => ?_) (fun g2 => ?_)
            · cases g2
            · refine x_iload d_Es_worthOf_87 rfl ?_
              by_cases c2 : S (16 * m + 8 + p) = true
              · have := none' (fun q => by rw [c2] at q; cases q.2.1)
                rw [c2] at this ⊢
                refine x_if_ne (124) d_Es_worthOf_89 (by decide) (fun g3 => ?_) (fun g3 => ?_)
                · exact this _
                · cases g3
              · have c2' : S (16 * m + 8 + p) = false := by simpa using c2
                have t3 := third
                rw [c2'] at none' t3 ⊢
                refine x_if_ne (124) d_Es_worthOf_89 (by decide) (fun g3 => ?_) (fun g3 => ?_)
                · exact absurd rfl g3
                · refine x_aload_n d_Es_worthOf_92 rfl rfl ?_
                  refine x_getF (kf := 1) d_Es_worthOf_93 rfl rfl rfl in_Es f_Es_22 ?_
                  refine x_iload d_Es_worthOf_96 rfl ?_
                  refine x_iload d_Es_worthOf_98 rfl ?_
                  refine x_V1 d_Es_worthOf_100 e_Es_worthOf_Sm_isShut ⟨rfl, rfl, Nat.zero_le _, Nat.zero_le _⟩ rfl rfl rfl rfl (Nat.le_of_ble_eq_true rfl) (c_isShut hh r p m (by omega) (by omega)) ?_
                  rw [eshut]
                  by_cases c3 : sh m p = true
                  · rw [c3]
                    refine x_if_ne (124) d_Es_worthOf_103 (by decide) (fun g4 => ?_) (fun g4 => ?_)
                    · exact none' (fun q => by rw [c3] at q; cases q.2.2) _
                    · cases g4
                  · have c3' : sh m p = false := by simpa using c3
                    rw [c3']
                    refine x_if_ne (124) d_Es_worthOf_103 (by decide) (fun g4 => ?_) (fun g4 => ?_)
                    · exact absurd rfl g4
                    · refine x_iload d_Es_worthOf_106 rfl ?_
                      refine x_aload_n d_Es_worthOf_108 rfl rfl ?_
                      refine x_getF (kf := 0) d_Es_worthOf_109 rfl rfl rfl in_Es f_Es_18 ?_
                      refine x_getF (kf := 0) d_Es_worthOf_112 rfl rfl rfl in_Ho f_Es_74 ?_
                      refine x_iload d_Es_worthOf_115 rfl ?_
                      refine x_iconst (0) d_Es_worthOf_117 rfl ⟨by decide, by decide⟩ ?_
                      refine x_V1 d_Es_worthOf_118 e_Es_worthOf_Ta_at ⟨rfl, rfl, Nat.zero_le _, Nat.zero_le _⟩ rfl rfl rfl rfl (Nat.le_of_ble_eq_true rfl) (k_at hh r 0 p 0 (by decide) hp (by decide) rfl rfl) ?_
                      refine x_iaddN d_Es_worthOf_121 (by omega) (by omega) ?_
                      refine x_istore d_Es_worthOf_122 (by decide) ?_
                      dsimp only [x_st1, x_st2, x_kill, List.set, List.getElem?_cons_zero, List.getElem?_cons_succ]
                      exact t3 (h.1 0 p 0) (by omega) (if_pos ⟨c1, rfl, c3'⟩) hnb _
          · have c1' : S (16 * m + p) = false := by simpa using c1
            rw [c1']
            refine x_if_eq (124) d_Es_worthOf_84 (by decide) (fun g2 => ?_) (fun g2 => ?_)
            · exact none' (fun q => c1 q.1) _
            · exact absurd rfl g2
        refine x_iload d_Es_worthOf_15 rfl ?_
        refine x_aload_n d_Es_worthOf_17 rfl rfl ?_
        refine x_getF (kf := 0) d_Es_worthOf_18 rfl rfl rfl in_Es f_Es_18 ?_
        refine x_getF (kf := 0) d_Es_worthOf_21 rfl rfl rfl in_Ho f_Es_74 ?_
        refine x_V1 d_Es_worthOf_24 e_Es_worthOf_Ta_size ⟨rfl, rfl, Nat.zero_le _, Nat.zero_le _⟩ rfl rfl rfl rfl (Nat.le_of_ble_eq_true rfl) (k_size r 0 (by decide)) ?_
        refine x_icmp_ge (162) d_Es_worthOf_27 (by decide) (fun g => ?_) (fun g => ?_)
        · omega
        · refine x_aload_n d_Es_worthOf_30 rfl rfl ?_
          refine x_iload_n d_Es_worthOf_31 rfl rfl ?_
          refine x_iload d_Es_worthOf_32 rfl ?_
          refine x_iload d_Es_worthOf_34 rfl ?_
          refine x_S1 d_Es_worthOf_36 e_Es_worthOf_Es_isIn ⟨rfl, rfl, Nat.zero_le _, Nat.zero_le _⟩ rfl rfl (Nat.le_of_ble_eq_true rfl) (c_in (y := y) hx hl hy (show m ≤ y by omega) (show p < 16 by omega)) ?_
          rw [hS]
          refine x_istore d_Es_worthOf_39 (by decide) ?_
          dsimp only [x_st1, x_st2, x_kill, List.set, List.getElem?_cons_zero, List.getElem?_cons_succ]
          refine x_aload_n d_Es_worthOf_41 rfl rfl ?_
          refine x_iload_n d_Es_worthOf_42 rfl rfl ?_
          refine x_iload d_Es_worthOf_43 rfl ?_
          refine x_bipush (8) d_Es_worthOf_45 rfl ⟨by decide, by decide⟩ ?_
          refine x_iload d_Es_worthOf_47 rfl ?_
          refine x_iaddN d_Es_worthOf_49 (by omega) (by omega) ?_
          rw [show (8 : Int) + p = ((8 + p : Nat) : Int) by omega]
          refine x_S1 d_Es_worthOf_50 e_Es_worthOf_Es_isIn ⟨rfl, rfl, Nat.zero_le _, Nat.zero_le _⟩ rfl rfl (Nat.le_of_ble_eq_true rfl) (c_in (y := y) hx hl hy (show m ≤ y by omega) (show 8 + p < 16 by omega)) ?_
          rw [hS, show 16 * m + (8 + p) = 16 * m + 8 + p by omega]
          refine x_istore d_Es_worthOf_53 (by decide) ?_
          dsimp only [x_st1, x_st2, x_kill, List.set, List.getElem?_cons_zero, List.getElem?_cons_succ]
          refine x_iload d_Es_worthOf_55 rfl ?_
          by_cases c : S (16 * m + 8 + p) = true
          · rw [c] at second ⊢
            refine x_if_eq (82) d_Es_worthOf_57 (by decide) (fun g2 => ?_) (fun g2 => ?_)
            · cases g2
            · refine x_iload d_Es_worthOf_60 rfl ?_
              refine x_iload_n d_Es_worthOf_62 rfl rfl ?_
              refine x_icmp_ge (82) d_Es_worthOf_63 (by decide) (fun g3 => ?_) (fun g3 => ?_)
              · exact second (fun q => by have := q.1; omega)
              · refine x_aload_n d_Es_worthOf_66 rfl rfl ?_
                refine x_iload_n d_Es_worthOf_67 rfl rfl ?_
                refine x_iload d_Es_worthOf_68 rfl ?_
                refine x_iconst (1) d_Es_worthOf_70 rfl ⟨by decide, by decide⟩ ?_
                refine x_iaddN d_Es_worthOf_71 (by omega) (by omega) ?_
                rw [show (m : Int) + 1 = ((m + 1 : Nat) : Int) by omega]
                refine x_iload d_Es_worthOf_72 rfl ?_
                refine x_S1 d_Es_worthOf_74 e_Es_worthOf_Es_isIn ⟨rfl, rfl, Nat.zero_le _, Nat.zero_le _⟩ rfl rfl (Nat.le_of_ble_eq_true rfl) (c_in (y := y) hx hl hy (show m + 1 ≤ y by omega) (show p < 16 by omega)) ?_
                rw [hS]
                by_cases c2 : S (16 * (m + 1) + p) = true
                · rw [c2]
                  refine x_if_ne (82) d_Es_worthOf_77 (by decide) (fun g4 => ?_) (fun g4 => ?_)
                  · exact second (fun q => by have := q.2.2; rw [c2] at this; cases this)
                  · cases g4
                · have c2' : S (16 * (m + 1) + p) = false := by simpa using c2
                  rw [c2']
                  refine x_if_ne (82) d_Es_worthOf_77 (by decide) (fun g4 => ?_) (fun g4 => ?_)
                  · exact absurd rfl g4
                  · refine x_iconst (-1) d_Es_worthOf_80 rfl ⟨by decide, by decide⟩ ?_
                    refine x_ireturn d_Es_worthOf_81 rfl ?_ (Nat.zero_le _) (Nat.zero_le _)
                    rw [← hQ]
                    exact ⟨_, rfl, rfl, _, rfl, Or.inl ⟨⟨m, p, hp, by omega, c, c2'⟩, rfl⟩⟩
          · have c' : S (16 * m + 8 + p) = false := by simpa using c
            rw [c'] at second ⊢
            refine x_if_eq (82) d_Es_worthOf_57 (by decide) (fun g2 => ?_) (fun g2 => ?_)
            · exact second (fun q => c q.2.1)
            · exact absurd rfl g2
/-! firstForAll: halving finds the first -/
theorem f_all_is (h : HH) (c : CC) {n : Nat} (hn : n ≤ 21) : (f_all h c n = -1 ∧ ∀ y, 21 - n ≤ y → y ≤ 20 → f_out h c y (f_made h (h.2 6)) ≠ f_people h) ∨ ∃ y : Nat, f_all h c n = y ∧ 21 - n ≤ y ∧ y ≤ 20 ∧ f_out h c y (f_made h (h.2 6)) = f_people h ∧ ∀ z, 21 - n ≤ z → z < y → f_out h c z (f_made h (h.2 6)) ≠ f_people h := by
  induction n with
  | zero => exact Or.inl ⟨rfl, fun y h1 h2 => by omega⟩
  | succ n ih =>
    have e : f_all h c (n + 1) = if f_out h c (20 - n) (f_made h (h.2 6)) = f_people h then ((20 - n : Nat) : Int) else f_all h c n := rfl
    rw [e]
    by_cases q : f_out h c (20 - n) (f_made h (h.2 6)) = f_people h
    · rw [if_pos q]
      exact Or.inr ⟨20 - n, rfl, by omega, by omega, q, fun z h1 h2 => by omega⟩
    · rw [if_neg q]
      rcases ih (by omega) with ⟨a1, a2⟩ | ⟨y, a1, a2, a3, a4, a5⟩
      · refine Or.inl ⟨a1, fun y h1 h2 => ?_⟩
        by_cases q2 : y = 20 - n
        · subst q2; exact q
        · exact a2 y (by omega) h2
      · refine Or.inr ⟨y, a1, by omega, a3, a4, fun z h1 h2 => ?_⟩
        by_cases q2 : z = 20 - n
        · subst q2; exact q
        · exact a5 z (by omega) h2
theorem c_firstForAll (hh : Hwf h) (q : cQ h G) (c : CC) (s : fSmoke h c G) : x_M y_Es_firstForAll [oEs] (S0, G) (fun r τ => ∃ v, r = .inl v ∧ mZ h (f_all h c 21) G v τ) := by
  obtain ⟨wt, ew, hw1, hw2⟩ := f_wt hh
  have mono : ∀ y z : Nat, y ≤ z → z ≤ 20 → f_out h c y (f_made h (h.2 6)) = f_people h → f_out h c z (f_made h (h.2 6)) = f_people h := fun y z h1 h2 h3 => by
    have a := f_out_up hh c h1 (f_made h (h.2 6))
    have b := f_out_b hh c h2 (f_made h (h.2 6))
    omega
  refine x_of 5 rfl (Nat.le_of_ble_eq_true rfl) ?_
  show x_A y_Es_firstForAll 0 [some oEs, none, none, none, none, none] [] (S0, G) 0 0 _
  generalize hQ : (fun (r : XRes) (τ : XM) => ∃ v, r = .inl v ∧ mZ h (f_all h c 21) G v τ) = Q
  refine x_aload_n d_Es_firstForAll_0 rfl rfl ?_
  refine x_getF (kf := 0) d_Es_firstForAll_1 rfl rfl rfl in_Es f_Es_18 ?_
  refine x_V1 d_Es_firstForAll_4 e_Es_firstForAll_Ho_allPeople ⟨rfl, rfl, Nat.zero_le _, Nat.zero_le _⟩ rfl rfl rfl rfl (Nat.le_of_ble_eq_true rfl) (c_allPeople hh q.1) ?_
  refine x_istore_n d_Es_firstForAll_7 rfl (by decide) ?_
  dsimp only [x_st1, x_st2, x_kill, List.set, List.getElem?_cons_zero, List.getElem?_cons_succ]
  refine x_iconst (0) d_Es_firstForAll_8 rfl ⟨by decide, by decide⟩ ?_
  refine x_istore_n d_Es_firstForAll_9 rfl (by decide) ?_
  dsimp only [x_st1, x_st2, x_kill, List.set, List.getElem?_cons_zero, List.getElem?_cons_succ]
  refine x_bipush (21) d_Es_firstForAll_10 rfl ⟨by decide, by decide⟩ ?_
  refine x_istore_n d_Es_firstForAll_12 rfl (by decide) ?_
  dsimp only [x_st1, x_st2, x_kill, List.set, List.getElem?_cons_zero, List.getElem?_cons_succ]
  refine x_iconst (0) d_Es_firstForAll_13 rfl ⟨by decide, by decide⟩ ?_
  refine x_istore d_Es_firstForAll_14 (by decide) ?_
  dsimp only [x_st1, x_st2, x_kill, List.set, List.getElem?_cons_zero, List.getElem?_cons_succ]
  have last : ∀ (lo : Nat) G' z3 z4 z5, zFrame G G' → cQ h G' → lo ≤ 21 → (∀ y, y < lo → f_out h c y (f_made h (h.2 6)) ≠ f_people h) → (∀ y, lo ≤ y → y ≤ 20 → f_out h c y (f_made h (h.2 6)) = f_people h) → x_A y_Es_firstForAll 76 [some oEs, some (xI (f_people h)), some (xI (lo : Int)), z3, z4, z5] [] (S0, G') 0 0 Q := by
    intro lo G' z3 z4 z5 f1 f2 h1 h2 h3
    have key : f_all h c 21 = if lo = 21 then -1 else (lo : Int) := by
      rcases f_all_is h c (Nat.le_refl 21) with ⟨a1, a2⟩ | ⟨y, a1, a2, a3, a4, a5⟩
      · by_cases e : lo = 21
        · rw [if_pos e, a1]
        · exact absurd (h3 lo (Nat.le_refl _) (by omega)) (a2 lo (by omega) (by omega))
      · have e1 : ¬ y < lo := fun z => h2 y z a4
        have e2 : ¬ lo < y := fun z => a5 lo (by omega) z (h3 lo (Nat.le_refl _) (by omega))
        have : y = lo := by omega
        subst this
        rw [if_neg (by omega), a1]
    refine x_iload_n d_Es_firstForAll_76 rfl rfl ?_
    refine x_bipush (21) d_Es_firstForAll_77 rfl ⟨by decide, by decide⟩ ?_
    refine x_icmp_ne (86) d_Es_firstForAll_79 (by decide) (fun g => ?_) (fun g => ?_)
    · refine x_iload_n d_Es_firstForAll_86 rfl rfl ?_
      refine x_ireturn d_Es_firstForAll_87 rfl ?_ (Nat.zero_le _) (Nat.zero_le _)
      rw [← hQ, key, if_neg (by omega)]
      exact ⟨_, rfl, rfl, G', rfl, f1, f2⟩
    · refine x_iconst (-1) d_Es_firstForAll_82 rfl ⟨by decide, by decide⟩ ?_
      refine x_goto (87) d_Es_firstForAll_83 (by decide) ?_
      refine x_ireturn d_Es_firstForAll_87 rfl ?_ (Nat.zero_le _) (Nat.zero_le _)
      rw [← hQ, key, if_pos (by omega)]
      exact ⟨_, rfl, rfl, G', rfl, f1, f2⟩
  have loop : ∀ t : Nat, ∀ (lo hi hv : Nat) G' z5, hi - lo < t → hv + (hi - lo) ≤ 21 → zFrame G G' → cQ h G' → fSmoke h c G' → lo ≤ hi → hi ≤ 21 → (∀ y, y < lo → f_out h c y (f_made h (h.2 6)) ≠ f_people h) → (∀ y, hi ≤ y → y ≤ 20 → f_out h c y (f_made h (h.2 6)) = f_people h) →
      x_A y_Es_firstForAll 16 [some oEs, some (xI (f_people h)), some (xI (lo : Int)), some (xI (hi : Int)), some (xI (hv : Int)), z5] [] (S0, G') 0 0 Q := by
    intro t
    induction t with
    | zero => intro lo hi hv G' z5 ht; omega
    | succ t ih =>
      intro lo hi hv G' z5 ht h0 f1 f2 f3 h1 h2 h3 h4
      refine x_iload d_Es_firstForAll_16 rfl ?_
      refine x_bipush (21) d_Es_firstForAll_18 rfl ⟨by decide, by decide⟩ ?_
      refine x_icmp_ge (76) d_Es_firstForAll_20 (by decide) (fun g => ?_) (fun g => ?_)
      · have : hi = lo := by omega
        subst this
        exact last hi G' _ _ _ f1 f2 h2 h3 h4
      · refine x_iload_n d_Es_firstForAll_23 rfl rfl ?_
        refine x_iload_n d_Es_firstForAll_24 rfl rfl ?_
        refine x_icmp_ge (76) d_Es_firstForAll_25 (by decide) (fun g2 => ?_) (fun g2 => ?_)
        · have : hi = lo := by omega
          subst this
          exact last hi G' _ _ _ f1 f2 h2 h3 h4
        · refine x_iload_n d_Es_firstForAll_28 rfl rfl ?_
          refine x_iload_n d_Es_firstForAll_29 rfl rfl ?_
          refine x_iaddN d_Es_firstForAll_30 (by omega) (by omega) ?_
          refine x_iconst (2) d_Es_firstForAll_31 rfl ⟨by decide, by decide⟩ ?_
          refine x_idiv d_Es_firstForAll_32 (by decide) ?_
          rw [x_div_pos (by omega) (by omega) (by omega) (by omega), show ((lo : Int) + hi) / 2 = (((lo + hi) / 2 : Nat) : Int) by omega]
          generalize hy : (lo + hi) / 2 = y
          refine x_istore d_Es_firstForAll_33 (by decide) ?_
          dsimp only [x_st1, x_st2, x_kill, List.set, List.getElem?_cons_zero, List.getElem?_cons_succ]
          refine x_aload_n d_Es_firstForAll_35 rfl rfl ?_
          refine x_iload d_Es_firstForAll_36 rfl ?_
          refine x_aload_n d_Es_firstForAll_38 rfl rfl ?_
          refine x_getF (kf := 0) d_Es_firstForAll_39 rfl rfl rfl in_Es f_Es_18 ?_
          refine x_V1 d_Es_firstForAll_42 e_Es_firstForAll_Ho_walkTimes ⟨rfl, rfl, Nat.zero_le _, Nat.zero_le _⟩ rfl rfl rfl rfl (Nat.le_of_ble_eq_true rfl) (c_walkTimes hh f2.1) ?_
          rw [ew]
          refine x_aload_n d_Es_firstForAll_45 rfl rfl ?_
          refine x_getF (kf := 0) d_Es_firstForAll_46 rfl rfl rfl in_Es f_Es_18 ?_
          refine x_V1 d_Es_firstForAll_49 e_Es_firstForAll_Ho_madeDoors ⟨rfl, rfl, Nat.zero_le _, Nat.zero_le _⟩ rfl rfl rfl rfl (Nat.le_of_ble_eq_true rfl) (c_madeDoors hh f2.1) ?_
          refine x_VQ d_Es_firstForAll_52 e_Es_firstForAll_Es_most ⟨rfl, rfl, Nat.zero_le _, Nat.zero_le _⟩ rfl rfl rfl rfl (Nat.le_of_ble_eq_true rfl) (c_emost hh f2.1 (f_sh h c) (f_sh_c f3) y wt (f_made h (h.2 6)) (by omega) ⟨hw1, hw2⟩) (fun v τ hv' => ?_)
          obtain ⟨G2, rfl, rfl, e1, e2, e3, e4⟩ := hv'
          have ev : mv (cutF h (f_sh h c) y wt (f_made h (h.2 6))) = f_out h c y (f_made h (h.2 6)) := by
            unfold f_out
            rw [ew, Int.toNat_natCast]
          show x_A y_Es_firstForAll 55 [some oEs, some (xI (f_people h)), some (xI (lo : Int)), some (xI (hi : Int)), some (xI (hv : Int)), some (xI (y : Int))] [xI (mv (cutF h (f_sh h c) y wt (f_made h (h.2 6))))] (S0, G2) 0 0 Q
          rw [ev]
          have f3' : fSmoke h c G2 := f3.same (fun i _ h2 => e1 i (Or.inl (by simp only [sm_lost, o_Ne] at *; omega)))
          refine x_iload_n d_Es_firstForAll_55 rfl rfl ?_
          refine x_icmp_ne (65) d_Es_firstForAll_56 (by decide) (fun g3 => ?_) (fun g3 => ?_)
          · refine x_iload d_Es_firstForAll_65 rfl ?_
            refine x_iconst (1) d_Es_firstForAll_67 rfl ⟨by decide, by decide⟩ ?_
            refine x_iaddN d_Es_firstForAll_68 (by omega) (by omega) ?_
            refine x_istore_n d_Es_firstForAll_69 rfl (by decide) ?_
            dsimp only [x_st1, x_st2, x_kill, List.set, List.getElem?_cons_zero, List.getElem?_cons_succ]
            refine x_iincN d_Es_firstForAll_70 rfl (by decide) (by omega) (by omega) ?_
            dsimp only [x_st1, x_st2, x_kill, List.set, List.getElem?_cons_zero, List.getElem?_cons_succ]
            refine x_goto (16) d_Es_firstForAll_73 (by decide) ?_
            rw [show (y : Int) + 1 = ((y + 1 : Nat) : Int) by omega]
            refine ih (y + 1) hi (hv + 1) G2 _ (by omega) (by omega) (f1.tr e1.z) (f2.most e1) f3' (by omega) h2 (fun z hz => ?_) h4
            intro q2
            exact g3 (mono z y (by omega) (by omega) q2)
          · refine x_iload d_Es_firstForAll_59 rfl ?_
            refine x_istore_n d_Es_firstForAll_61 rfl (by decide) ?_
            dsimp only [x_st1, x_st2, x_kill, List.set, List.getElem?_cons_zero, List.getElem?_cons_succ]
            refine x_goto (70) d_Es_firstForAll_62 (by decide) ?_
            refine x_iincN d_Es_firstForAll_70 rfl (by decide) (by omega) (by omega) ?_
            dsimp only [x_st1, x_st2, x_kill, List.set, List.getElem?_cons_zero, List.getElem?_cons_succ]
            refine x_goto (16) d_Es_firstForAll_73 (by decide) ?_
            exact ih lo y (hv + 1) G2 _ (by omega) (by omega) (f1.tr e1.z) (f2.most e1) f3' (by omega) (by omega) h3 (fun z z1 z2 => mono y z z1 z2 (by omega))
  exact loop 22 0 21 0 G none (by omega) (by omega) (fun _ _ => rfl) q s (by omega) (by omega) (fun y hy => by omega) (fun y h1 h2 => by omega)
theorem c_fitsDrills (hh : Hwf h) (q : cQ h G) (s : fSmoke h (0, 0, 0, -1) G) (t : Nat) (ht : 1 ≤ t ∧ t ≤ 3) : x_M y_Es_fitsDrills [oEs, xI (t : Int)] (S0, G) (fun r τ => ∃ v, r = .inl v ∧ v = some (xI (b2i (f_fits h t (h.2 7)))) ∧ ∃ G', τ = (S0, G') ∧ eFrame G G') := by
  have b := hh.1
  refine x_of 2 rfl (Nat.le_of_ble_eq_true rfl) ?_
  show x_A y_Es_fitsDrills 0 [some oEs, some (xI (t : Int)), none, none] [] (S0, G) 0 0 _
  generalize hQ : (fun (r : XRes) (τ : XM) => ∃ v, r = .inl v ∧ v = some (xI (b2i (f_fits h t (h.2 7)))) ∧ ∃ G', τ = (S0, G') ∧ eFrame G G') = Q
  refine x_iconst (0) d_Es_fitsDrills_0 rfl ⟨by decide, by decide⟩ ?_
  refine x_istore_n d_Es_fitsDrills_1 rfl (by decide) ?_
  dsimp only [x_st1, x_st2, x_kill, List.set, List.getElem?_cons_zero, List.getElem?_cons_succ]
  refine x_up_to (P := fun d => ∀ G' z, eFrame G G' → f_fits h t d = true → x_A y_Es_fitsDrills 2 [some oEs, some (xI (t : Int)), some (xI (d : Int)), z] [] (S0, G') 0 0 Q) 0 (h.2 7) (Nat.zero_le _) (fun G' z f1 f2 => ?_) (fun d _ hd k G' z f1 f2 => ?_) G none (eFrame.rf G) rfl
  · have r2 := f1.rep q.1
    refine x_iload_n d_Es_fitsDrills_2 rfl rfl ?_
    refine x_aload_n d_Es_fitsDrills_3 rfl rfl ?_
    refine x_getF (kf := 0) d_Es_fitsDrills_4 rfl rfl rfl in_Es f_Es_18 ?_
    refine x_getF (kf := 7) d_Es_fitsDrills_7 rfl rfl rfl in_Ho f_Es_61 ?_
    refine x_V1 d_Es_fitsDrills_10 e_Es_fitsDrills_Ta_size ⟨rfl, rfl, Nat.zero_le _, Nat.zero_le _⟩ rfl rfl rfl rfl (Nat.le_of_ble_eq_true rfl) (k_size r2 7 (by decide)) ?_
    refine x_icmp_ge (65) d_Es_fitsDrills_13 (by decide) (fun g => ?_) (fun g => ?_)
    · refine x_iconst (1) d_Es_fitsDrills_65 rfl ⟨by decide, by decide⟩ ?_
      refine x_zreturn d_Es_fitsDrills_66 rfl (by first | exact Or.inl rfl | exact Or.inr rfl | (split <;> first | exact Or.inl rfl | exact Or.inr rfl) | assumption) ?_ (Nat.zero_le _) (Nat.zero_le _)
      rw [← hQ, f2]
      exact ⟨_, rfl, rfl, G', rfl, f1⟩
    · omega
  · have r2 := f1.rep q.1
    have bd := hh.2.2.2.2.2.2.2.2.1 d hd
    obtain ⟨y, ey⟩ : ∃ y : Nat, h.1 7 d 0 = (y : Int) := ⟨(h.1 7 d 0).toNat, by omega⟩
    have s2 : fSmoke h (0, 0, 0, -1) G' := s.same (fun i _ h2 => f1 i (Or.inl (by simp only [sm_lost, o_Ne] at *; omega)))
    have es := f_fits_s h t d
    rw [f2, ey, Int.toNat_natCast] at es
    refine x_iload_n d_Es_fitsDrills_2 rfl rfl ?_
    refine x_aload_n d_Es_fitsDrills_3 rfl rfl ?_
    refine x_getF (kf := 0) d_Es_fitsDrills_4 rfl rfl rfl in_Es f_Es_18 ?_
    refine x_getF (kf := 7) d_Es_fitsDrills_7 rfl rfl rfl in_Ho f_Es_61 ?_
    refine x_V1 d_Es_fitsDrills_10 e_Es_fitsDrills_Ta_size ⟨rfl, rfl, Nat.zero_le _, Nat.zero_le _⟩ rfl rfl rfl rfl (Nat.le_of_ble_eq_true rfl) (k_size r2 7 (by decide)) ?_
    refine x_icmp_ge (65) d_Es_fitsDrills_13 (by decide) (fun g => ?_) (fun g => ?_)
    · omega
    · refine x_aload_n d_Es_fitsDrills_16 rfl rfl ?_
      refine x_getF (kf := 0) d_Es_fitsDrills_17 rfl rfl rfl in_Es f_Es_18 ?_
      refine x_getF (kf := 7) d_Es_fitsDrills_20 rfl rfl rfl in_Ho f_Es_61 ?_
      refine x_iload_n d_Es_fitsDrills_23 rfl rfl ?_
      refine x_iconst (0) d_Es_fitsDrills_24 rfl ⟨by decide, by decide⟩ ?_
      refine x_V1 d_Es_fitsDrills_25 e_Es_fitsDrills_Ta_at ⟨rfl, rfl, Nat.zero_le _, Nat.zero_le _⟩ rfl rfl rfl rfl (Nat.le_of_ble_eq_true rfl) (k_at hh r2 7 d 0 (by decide) hd (by decide) rfl rfl) ?_
      rw [ey]
      refine x_istore_n d_Es_fitsDrills_28 rfl (by decide) ?_
      dsimp only [x_st1, x_st2, x_kill, List.set, List.getElem?_cons_zero, List.getElem?_cons_succ]
      refine x_aload_n d_Es_fitsDrills_29 rfl rfl ?_
      refine x_iload_n d_Es_fitsDrills_30 rfl rfl ?_
      refine x_iload_n d_Es_fitsDrills_31 rfl rfl ?_
      refine x_aload_n d_Es_fitsDrills_32 rfl rfl ?_
      refine x_getF (kf := 0) d_Es_fitsDrills_33 rfl rfl rfl in_Es f_Es_18 ?_
      refine x_V1 d_Es_fitsDrills_36 e_Es_fitsDrills_Ho_madeDoors ⟨rfl, rfl, Nat.zero_le _, Nat.zero_le _⟩ rfl rfl rfl rfl (Nat.le_of_ble_eq_true rfl) (c_madeDoors hh r2) ?_
      refine x_VQ d_Es_fitsDrills_39 e_Es_fitsDrills_Es_most ⟨rfl, rfl, Nat.zero_le _, Nat.zero_le _⟩ rfl rfl rfl rfl (Nat.le_of_ble_eq_true rfl) (c_emost hh r2 (f_sh h (0, 0, 0, -1)) (f_sh_c s2) y t (f_made h (h.2 6)) (by omega) ht) (fun v τ hv' => ?_)
      obtain ⟨G2, rfl, rfl, e1, e2, e3, e4⟩ := hv'
      show x_A y_Es_fitsDrills 42 [some oEs, some (xI (t : Int)), some (xI (d : Int)), some (xI (y : Int))] [xI (mv (cutF h (f_sh h (0, 0, 0, -1)) y t (f_made h (h.2 6))))] (S0, G2) 0 0 Q
      have r3 := e1.rep r2
      refine x_aload_n d_Es_fitsDrills_42 rfl rfl ?_
      refine x_getF (kf := 0) d_Es_fitsDrills_43 rfl rfl rfl in_Es f_Es_18 ?_
      refine x_getF (kf := 7) d_Es_fitsDrills_46 rfl rfl rfl in_Ho f_Es_61 ?_
      refine x_iload_n d_Es_fitsDrills_49 rfl rfl ?_
      refine x_iconst (1) d_Es_fitsDrills_50 rfl ⟨by decide, by decide⟩ ?_
      refine x_V1 d_Es_fitsDrills_51 e_Es_fitsDrills_Ta_at ⟨rfl, rfl, Nat.zero_le _, Nat.zero_le _⟩ rfl rfl rfl rfl (Nat.le_of_ble_eq_true rfl) (k_at hh r3 7 d 1 (by decide) hd (by decide) rfl rfl) ?_
      refine x_icmp_ge (59) d_Es_fitsDrills_54 (by decide) (fun g2 => ?_) (fun g2 => ?_)
      · refine x_iincN d_Es_fitsDrills_59 rfl (by decide) (by omega) (by omega) ?_
        dsimp only [x_st1, x_st2, x_kill, List.set, List.getElem?_cons_zero, List.getElem?_cons_succ]
        refine x_goto (2) d_Es_fitsDrills_62 (by decide) ?_
        exact k G2 _ (f1.trans e1) (by rw [es, decide_eq_true (by omega)]; rfl)
      · refine x_iconst (0) d_Es_fitsDrills_57 rfl ⟨by decide, by decide⟩ ?_
        refine x_zreturn d_Es_fitsDrills_58 rfl (by first | exact Or.inl rfl | exact Or.inr rfl | (split <;> first | exact Or.inl rfl | exact Or.inr rfl) | assumption) ?_ (Nat.zero_le _) (Nat.zero_le _)
        have : f_fits h t (h.2 7) = false := f_fits_0 (d := d + 1) (by rw [es, decide_eq_false (by omega)]; rfl) (by omega)
        rw [← hQ, this]
        exact ⟨_, rfl, rfl, G2, rfl, f1.trans e1⟩
end CWo2
