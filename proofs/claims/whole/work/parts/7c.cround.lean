/-! the class: a round of the search -/
theorem pend_cg {N : NT} {p p' : Nat → Nat} {s d : Nat} (e : ∀ j, j < d → p' j = p j) : ∀ j, j ≤ d → pend N p' s j = pend N p s j := by
  intro j hj
  cases j with
  | zero => rfl
  | succ j => show he N (p' j) = he N (p j); rw [e j (by omega)]
section CN4
variable {G : Nat → Nat → Int}
/-- what is seen is shut, and can be reached (as long as nothing was sent in this round) -/
def rC (N : NT) (L : Nat → Int) (p : Nat → Nat) (d : Nat) (G' : Nat → Nat → Int) : Prop :=
  (∀ n, n < 338 → G' ne_seen n = 1 → (∀ q : Nat, q < 2 * N.1 → te N q = n → G' ne_pointers n < (q : Int) → L q ≤ 0 ∨ G' ne_seen (he N q) ≠ 0) ∧ ((∀ j, j ≤ d → pend N p 336 j ≠ n) → G' ne_pointers n = -1)) ∧
  (∀ n, n < 338 → G' ne_seen n = 0 → G' ne_pointers n = prv N n (2 * N.1)) ∧ (∀ S : Nat → Bool, S 336 = true → nShut N L S → ∀ n, n < 338 → G' ne_seen n = 1 → S n = true)
def rI (N : NT) (val : Int) (G : Nat → Nat → Int) (sum : Int) (d node : Nat) (p : Nat → Nat) (L : Nat → Int) (G' : Nat → Nat → Int) : Prop :=
  (∀ i, i ≠ ne_pointers → i ≠ ne_path → i ≠ ne_seen → i ≠ ne_free → G' i = G i) ∧ (∀ e, e < 2 * N.1 → G' ne_free e = L e) ∧ fOK N L (val + sum) ∧ (∀ e, 0 ≤ L e ∧ L e ≤ 1000000) ∧ 0 ≤ sum ∧
  (∀ j, j < d → G' ne_path j = p j ∧ p j < 2 * N.1 ∧ te N (p j) = pend N p 336 j ∧ 1 ≤ L (p j)) ∧ node = pend N p 336 d ∧ (∀ i j, i ≤ d → j ≤ d → pend N p 336 i = pend N p 336 j → i = j) ∧
  (∀ j, j ≤ d → G' ne_seen (pend N p 336 j) = 1) ∧ (∀ x, x < 338 → G' ne_seen x = 0 ∨ G' ne_seen x = 1) ∧ G' ne_seen 337 = 0 ∧ (d : Int) + 1 ≤ su (G' ne_seen) 338 ∧ (∀ n, n < 338 → okP N n (G' ne_pointers n)) ∧ (sum = 0 → rC N L p d G')
def rSeen (G : Nat → Nat → Int) : Nat → Bool := fun n => decide (n < 338 ∧ G ne_seen n = 1)
def mRound (N : NT) (val : Int) (G : Nat → Nat → Int) : Option XV → XM → Prop := fun v τ => ∃ G' L s, τ = (S0, G') ∧ v = some (xI s) ∧ 0 ≤ s ∧ (∀ i, i ≠ ne_pointers → i ≠ ne_path → i ≠ ne_seen → i ≠ ne_free → G' i = G i) ∧ (∀ e, e < 2 * N.1 → G' ne_free e = L e) ∧ fOK N L (val + s) ∧ (∀ e, 0 ≤ L e ∧ L e ≤ 1000000) ∧ (s = 0 → nR N L (rSeen G') ∧ rSeen G' 337 = false ∧ ∀ n, n < 338 → (G' ne_seen n = 0 ∨ G' ne_seen n = 1))
theorem c_searchRound {N : NT} {Lb : Nat → Int} {val : Int} (hw : nWf N) (hK : N.1 ≤ 1024) (hn : cNet N Lb G) (hf : fOK N Lb val) (hv : 0 ≤ val) (hB : ∃ S, nOut S ∧ cut N S ≤ 1000) : x_M y_Ne_searchRound [oNe] (S0, G) (fun r τ => ∃ v, r = .inl v ∧ mRound N val G v τ) := by
  obtain ⟨n1, n2, n3⟩ := hn
  have cutB : ∀ (L : Nat → Int) (V : Int), fOK N L V → V ≤ 1000 := fun L V h => by
    obtain ⟨S, s1, s2⟩ := hB
    have := f_le h s1
    omega
  refine x_of 6 rfl (Nat.le_of_ble_eq_true rfl) ?_
  show x_A y_Ne_searchRound 0 [some oNe, none, none, none, none, none, none] [] (S0, G) 0 0 _
  generalize hQ : (fun (r : XRes) (τ : XM) => ∃ v, r = .inl v ∧ mRound N val G v τ) = Q
  have loop : ∀ t : Nat, ∀ (sum : Int) (d node : Nat) (p : Nat → Nat) (L : Nat → Int) (G' : Nat → Nat → Int) (step : Int) z5 z6, rI N val G sum d node p L G' → (1000 - (val + sum)) * 340 + 2 * (338 - su (G' ne_seen) 338) + d < t → 0 ≤ step → step + t ≤ 900000 →
      x_A y_Ne_searchRound 54 [some oNe, some (xI sum), some (xI (d : Int)), some (xI (node : Int)), some (xI step), z5, z6] [] (S0, G') 0 0 Q := by
    intro t
    induction t with
    | zero =>
      intro sum d node p L G' step z5 z6 hI ht
      obtain ⟨i1, i2, i3, i4, i5, i6, i7, i8, i9, i10, i11, i12, i13, i14⟩ := hI
      have := cutB _ _ i3
      have := su_bd (f := G' ne_seen) (c := 0) (d := 1) (n := 338) (fun x hx => by rcases i10 x hx with h | h <;> omega)
      omega
    | succ t ih =>
      intro sum d node p L G' step z5 z6 hI ht hs1 hs2
      obtain ⟨i1, i2, i3, i4, i5, i6, i7, i8, i9, i10, i11, i12, i13, i14⟩ := hI
      have cb := cutB _ _ i3
      have csb := su_bd (f := G' ne_seen) (c := 0) (d := 1) (n := 338) (fun x hx => by rcases i10 x hx with h | h <;> omega)
      have hnode : node < 338 := by
        rw [i7]
        cases d with
        | zero => show 336 < 338; omega
        | succ d => exact (te_lt hw (i6 d (by omega)).2.1).2
      have hnet : ∀ e, e < 2 * N.1 → G' ne_ends e = he N e ∧ G' ne_later e = prv N (te N e) e ∧ G' ne_free e = L e := fun e he => by
        rw [i1 ne_ends (by decide) (by decide) (by decide) (by decide), i1 ne_later (by decide) (by decide) (by decide) (by decide)]
        exact ⟨(n2 e he).1, (n2 e he).2.1, i2 e he⟩
      refine x_iload d_Ne_searchRound_54 rfl ?_
      refine x_ldc (1000000) d_Ne_searchRound_56 k_Ne_42 ⟨by decide, by decide⟩ ?_
      refine x_icmp_ge (197) d_Ne_searchRound_58 (by decide) (fun g => ?_) (fun g => ?_)
      · omega
      · refine x_iload_n d_Ne_searchRound_61 rfl rfl ?_
        refine x_sipush (338) d_Ne_searchRound_62 rfl ⟨by decide, by decide⟩ ?_
        refine x_icmp_ge (197) d_Ne_searchRound_65 (by decide) (fun g => ?_) (fun g => ?_)
        · omega
        · refine x_aload_n d_Ne_searchRound_68 rfl rfl ?_
          refine x_iload_n d_Ne_searchRound_69 rfl rfl ?_
          refine x_VQ d_Ne_searchRound_70 e_Ne_searchRound_Ne_nextArc ⟨rfl, rfl, Nat.zero_le _, Nat.zero_le _⟩ rfl rfl rfl rfl (Nat.le_of_ble_eq_true rfl) (c_nextArc hw hK hnet node hnode (i13 node hnode)) (fun v τ hv => ?_)
          obtain ⟨z, rfl, rfl, z1, z2, z3⟩ := hv
          show x_A y_Ne_searchRound 73 [some oNe, some (xI sum), some (xI (d : Int)), some (xI (node : Int)), some (xI step), z5, z6] [xI z] (S0, up G' ne_pointers node z) 0 0 Q
          have seenNode : G' ne_seen node = 1 := by rw [i7]; exact i9 d (Nat.le_refl d)
          have oth : ∀ i, i ≠ ne_pointers → up G' ne_pointers node z i = G' i := fun i hi => up_cell hi
          have ptr : ∀ n, n < 338 → okP N n (up G' ne_pointers node z ne_pointers n) := fun n hn => by
            by_cases q : n = node
            · subst q; rw [up_same]; exact z1
            · rw [up_ne q]; exact i13 n hn
          -- the pointer has moved on
          have rc0 : sum = 0 → (∀ n, n < 338 → G' ne_seen n = 1 → (∀ q : Nat, q < 2 * N.1 → te N q = n → up G' ne_pointers node z ne_pointers n < (q : Int) → L q ≤ 0 ∨ G' ne_seen (he N q) ≠ 0) ∧ (n ≠ node → (∀ j, j ≤ d → pend N p 336 j ≠ n) → up G' ne_pointers node z ne_pointers n = -1)) ∧
              (∀ n, n < 338 → G' ne_seen n = 0 → up G' ne_pointers node z ne_pointers n = prv N n (2 * N.1)) ∧ (∀ S : Nat → Bool, S 336 = true → nShut N L S → ∀ n, n < 338 → G' ne_seen n = 1 → S n = true) := by
            intro hz
            obtain ⟨r1, r2, r3⟩ := i14 hz
            refine ⟨fun n hn hsn => ⟨fun q q1 q2 q3 => ?_, fun hne hp => ?_⟩, fun n hn hsn => ?_, r3⟩
            · by_cases c : n = node
              · subst c
                rw [up_same] at q3
                by_cases c2 : (q : Int) ≤ G' ne_pointers n
                · exact z2 q q1 q2 q3 c2
                · exact (r1 n hn hsn).1 q q1 q2 (by omega)
              · rw [up_ne c] at q3
                exact (r1 n hn hsn).1 q q1 q2 q3
            · rw [up_ne hne]
              exact (r1 n hn hsn).2 hp
            · by_cases c : n = node
              · subst c; omega
              · rw [up_ne c]; exact r2 n hn hsn
          refine x_istore d_Ne_searchRound_73 (by decide) ?_
          dsimp only [x_st1, x_st2, x_kill, List.set, List.getElem?_cons_zero, List.getElem?_cons_succ]
          refine x_iload d_Ne_searchRound_75 rfl ?_
          refine x_iconst (-1) d_Ne_searchRound_77 rfl ⟨by decide, by decide⟩ ?_
          have retreat : z = -1 → d ≠ 0 → x_A y_Ne_searchRound 88 [some oNe, some (xI sum), some (xI (d : Int)), some (xI (node : Int)), some (xI step), some (xI z), z6] [] (S0, up G' ne_pointers node z) 0 0 Q := by
            intro hz hd
            obtain ⟨d', rfl⟩ : ∃ d', d = d' + 1 := ⟨d - 1, by omega⟩
            obtain ⟨p1, p2, p3, p4⟩ := i6 d' (by omega)
            have hx := xr_lt (K := N.1) p2
            refine x_iload d_Ne_searchRound_88 rfl ?_
            refine x_iconst (-1) d_Ne_searchRound_90 rfl ⟨by decide, by decide⟩ ?_
            refine x_icmp_ne (114) d_Ne_searchRound_91 (by decide) (fun g => ?_) (fun g => ?_)
            · exact absurd hz g
            · refine x_iincN d_Ne_searchRound_94 rfl (by decide) (by omega) (by omega) ?_
              dsimp only [x_st1, x_st2, x_kill, List.set, List.getElem?_cons_zero, List.getElem?_cons_succ]
              refine x_aload_n d_Ne_searchRound_97 rfl rfl ?_
              refine x_getF (kf := 5) d_Ne_searchRound_98 rfl rfl rfl in_Ne f_Ne_28 ?_
              refine x_aload_n d_Ne_searchRound_101 rfl rfl ?_
              refine x_getF (kf := 2) d_Ne_searchRound_102 rfl rfl rfl in_Ne f_Ne_18 ?_
              refine x_iload_n d_Ne_searchRound_105 rfl rfl ?_
              rw [show (((d' + 1 : Nat) : Int) + -1) = (d' : Int) by omega]
              refine x_ialdN (d') d_Ne_searchRound_106 rfl (by omega) (by omega) ?_
              rw [oth ne_path (by decide), p1]
              refine x_iconst (1) d_Ne_searchRound_107 rfl ⟨by decide, by decide⟩ ?_
              refine x_ixor d_Ne_searchRound_108 ?_
              rw [x_xor1 (by omega)]
              refine x_ialdN (xr (p d')) d_Ne_searchRound_109 rfl (by omega) (by omega) ?_
              rw [oth ne_ends (by decide), (hnet _ hx).1, he_xr, p3]
              refine x_istore_n d_Ne_searchRound_110 rfl (by decide) ?_
              dsimp only [x_st1, x_st2, x_kill, List.set, List.getElem?_cons_zero, List.getElem?_cons_succ]
              refine x_goto (140) d_Ne_searchRound_111 (by decide) ?_
              refine x_iload_n d_Ne_searchRound_140 rfl rfl ?_
              refine x_sipush (337) d_Ne_searchRound_141 rfl ⟨by decide, by decide⟩ ?_
              have hne : pend N p 336 d' ≠ 337 := fun q => by
                have := i9 d' (by omega)
                rw [q] at this
                omega
              refine x_icmp_ne (191) d_Ne_searchRound_144 (by decide) (fun g2 => ?_) (fun g2 => ?_)
              · refine x_iincN d_Ne_searchRound_191 rfl (by decide) (by omega) (by omega) ?_
                dsimp only [x_st1, x_st2, x_kill, List.set, List.getElem?_cons_zero, List.getElem?_cons_succ]
                refine x_goto (54) d_Ne_searchRound_194 (by decide) ?_
                refine ih sum d' _ p L _ _ _ _ ⟨fun i q1 q2 q3 q4 => by rw [oth i q1]; exact i1 i q1 q2 q3 q4, fun e he => by rw [oth _ (by decide)]; exact i2 e he, i3, i4, i5, fun j hj => by rw [oth _ (by decide)]; exact i6 j (by omega), rfl, fun i j q1 q2 => i8 i j (by omega) (by omega), fun j hj => by rw [oth _ (by decide)]; exact i9 j (by omega), fun x hx => by rw [oth _ (by decide)]; exact i10 x hx, by rw [oth _ (by decide)]; exact i11, by rw [oth _ (by decide)]; omega, ptr, fun h0 => ?_⟩ (by rw [oth _ (by decide)]; omega) (by omega) (by omega)
                obtain ⟨r1, r2, r3⟩ := rc0 h0
                refine ⟨fun n hn hsn => ?_, fun n hn hsn => ?_, fun S s1 s2 n hn hsn => ?_⟩
                · rw [oth ne_seen (by decide)] at hsn ⊢
                  refine ⟨(r1 n hn hsn).1, fun hp => ?_⟩
                  by_cases c : n = node
                  · subst c; rw [up_same]; exact hz
                  · exact (r1 n hn hsn).2 c (fun j hj => by
                      by_cases c2 : j = d' + 1
                      · subst c2; rw [← i7]; exact fun q => c q.symm
                      · exact hp j (by omega))
                · rw [oth ne_seen (by decide)] at hsn
                  exact r2 n hn hsn
                · rw [oth ne_seen (by decide)] at hsn
                  exact r3 S s1 s2 n hn hsn
              · omega
          have advance : z ≠ -1 → x_A y_Ne_searchRound 88 [some oNe, some (xI sum), some (xI (d : Int)), some (xI (node : Int)), some (xI step), some (xI z), z6] [] (S0, up G' ne_pointers node z) 0 0 Q := by
            intro hz
            rcases z1 with h | ⟨e, rfl, e1, e2⟩
            · exact absurd h hz
            · obtain ⟨y1, y2⟩ := z3 e rfl
              obtain ⟨-, hl⟩ := te_lt hw e1
              have eE : up (up G' ne_pointers node e) ne_path d e ne_ends e = he N e := by rw [up_cell (by decide), oth _ (by decide)]; exact (hnet e e1).1
              refine x_iload d_Ne_searchRound_88 rfl ?_
              refine x_iconst (-1) d_Ne_searchRound_90 rfl ⟨by decide, by decide⟩ ?_
              refine x_icmp_ne (114) d_Ne_searchRound_91 (by decide) (fun g => ?_) (fun g => ?_)
              · refine x_aload_n d_Ne_searchRound_114 rfl rfl ?_
                refine x_getF (kf := 2) d_Ne_searchRound_115 rfl rfl rfl in_Ne f_Ne_18 ?_
                refine x_iload_n d_Ne_searchRound_118 rfl rfl ?_
                refine x_iload d_Ne_searchRound_119 rfl ?_
                refine x_iastN (d) d_Ne_searchRound_121 rfl (by omega) (by omega) ?_
                refine x_iincN d_Ne_searchRound_122 rfl (by decide) (by omega) (by omega) ?_
                dsimp only [x_st1, x_st2, x_kill, List.set, List.getElem?_cons_zero, List.getElem?_cons_succ]
                refine x_aload_n d_Ne_searchRound_125 rfl rfl ?_
                refine x_getF (kf := 5) d_Ne_searchRound_126 rfl rfl rfl in_Ne f_Ne_28 ?_
                refine x_iload d_Ne_searchRound_129 rfl ?_
                refine x_ialdN (e) d_Ne_searchRound_131 rfl (by omega) (by omega) ?_
                rw [eE]
                refine x_istore_n d_Ne_searchRound_132 rfl (by decide) ?_
                dsimp only [x_st1, x_st2, x_kill, List.set, List.getElem?_cons_zero, List.getElem?_cons_succ]
                refine x_aload_n d_Ne_searchRound_133 rfl rfl ?_
                refine x_getF (kf := 3) d_Ne_searchRound_134 rfl rfl rfl in_Ne f_Ne_21 ?_
                refine x_iload_n d_Ne_searchRound_137 rfl rfl ?_
                refine x_iconst (1) d_Ne_searchRound_138 rfl ⟨by decide, by decide⟩ ?_
                refine x_bastN (he N e) d_Ne_searchRound_139 rfl (by omega) (by omega) (by first | exact Or.inl rfl | exact Or.inr rfl | assumption) ?_
                refine x_iload_n d_Ne_searchRound_140 rfl rfl ?_
                refine x_sipush (337) d_Ne_searchRound_141 rfl ⟨by decide, by decide⟩ ?_
                generalize hp' : (fun j => if j = d then e else p j) = p'
                have pp : ∀ j, j < d → p' j = p j := fun j hj => by rw [← hp']; dsimp only; rw [if_neg (by omega)]
                have pd : p' d = e := by rw [← hp']; dsimp only; rw [if_pos rfl]
                have pe : ∀ j, j ≤ d → pend N p' 336 j = pend N p 336 j := pend_cg pp
                have pe1 : pend N p' 336 (d + 1) = he N e := by show he N (p' d) = _; rw [pd]
                generalize hG3 : up (up (up G' ne_pointers node e) ne_path d e) ne_seen (he N e) 1 = G3
                have f1 : ∀ i, i ≠ ne_pointers → i ≠ ne_path → i ≠ ne_seen → G3 i = G' i := fun i q1 q2 q3 => by rw [← hG3, up_cell q3, up_cell q2, up_cell q1]
                have f2 : G3 ne_pointers = up G' ne_pointers node e ne_pointers := by rw [← hG3, up_cell (by decide), up_cell (by decide)]
                have f3 : ∀ j, G3 ne_path j = if j = d then (e : Int) else G' ne_path j := fun j => by
                  rw [← hG3, up_cell (by decide), up_row, up_cell (by decide)]
                have f4 : G3 ne_seen (he N e) = 1 := by rw [← hG3, up_same]
                have f5 : ∀ x, x ≠ he N e → G3 ne_seen x = G' ne_seen x := fun x hx => by rw [← hG3, up_ne hx, up_cell (by decide), up_cell (by decide)]
                have path' : ∀ j, j < d + 1 → G3 ne_path j = p' j ∧ p' j < 2 * N.1 ∧ te N (p' j) = pend N p' 336 j ∧ 1 ≤ L (p' j) := fun j hj => by
                  rw [f3, pe j (by omega)]
                  by_cases c : j = d
                  · subst c
                    rw [if_pos rfl, pd]
                    exact ⟨rfl, e1, by rw [e2, i7], by omega⟩
                  · rw [if_neg c, pp j (by omega)]
                    exact i6 j (by omega)
                have nw : ∀ j, j ≤ d → pend N p 336 j ≠ he N e := fun j hj q => by
                  have := i9 j hj
                  rw [q, y2] at this
                  cases this
                have inj' : ∀ i j, i ≤ d + 1 → j ≤ d + 1 → pend N p' 336 i = pend N p' 336 j → i = j := fun i j h1 h2 h3 => by
                  by_cases c1 : i = d + 1
                  · by_cases c2 : j = d + 1
                    · omega
                    · subst c1
                      rw [pe1, pe j (by omega)] at h3
                      exact absurd h3.symm (nw j (by omega))
                  · by_cases c2 : j = d + 1
                    · subst c2
                      rw [pe1, pe i (by omega)] at h3
                      exact absurd h3 (nw i (by omega))
                    · rw [pe i (by omega), pe j (by omega)] at h3
                      exact i8 i j (by omega) (by omega) h3
                have seen' : ∀ j, j ≤ d + 1 → G3 ne_seen (pend N p' 336 j) = 1 := fun j hj => by
                  by_cases c : j = d + 1
                  · subst c; rw [pe1]; exact f4
                  · rw [pe j (by omega), f5 _ (nw j (by omega))]; exact i9 j (by omega)
                have bool' : ∀ x, x < 338 → G3 ne_seen x = 0 ∨ G3 ne_seen x = 1 := fun x hx => by
                  by_cases c : x = he N e
                  · rw [c]; exact Or.inr f4
                  · rw [f5 x c]; exact i10 x hx
                have cnt' : su (G3 ne_seen) 338 = su (G' ne_seen) 338 + 1 := by
                  rw [su_step (f := G' ne_seen) (g := G3 ne_seen) hl (fun x _ hx => f5 x hx), f4, y2]; omega
                have free' : ∀ e, e < 2 * N.1 → G3 ne_free e = L e := fun e he => by rw [f1 _ (by decide) (by decide) (by decide)]; exact i2 e he
                have frame' : ∀ i, i ≠ ne_pointers → i ≠ ne_path → i ≠ ne_seen → i ≠ ne_free → G3 i = G i := fun i q1 q2 q3 q4 => by rw [f1 i q1 q2 q3]; exact i1 i q1 q2 q3 q4
                have ptr' : ∀ n, n < 338 → okP N n (G3 ne_pointers n) := fun n hn => by rw [f2]; exact ptr n hn
                refine x_icmp_ne (191) d_Ne_searchRound_144 (by decide) (fun g2 => ?_) (fun g2 => ?_)
                · refine x_iincN d_Ne_searchRound_191 rfl (by decide) (by omega) (by omega) ?_
                  dsimp only [x_st1, x_st2, x_kill, List.set, List.getElem?_cons_zero, List.getElem?_cons_succ]
                  refine x_goto (54) d_Ne_searchRound_194 (by decide) ?_
                  refine ih sum (d + 1) _ p' L G3 _ _ _ ⟨frame', free', i3, i4, i5, path', pe1.symm, inj', seen', bool', by rw [f5 _ (by omega)]; exact i11, by rw [cnt']; omega, ptr', fun h0 => ?_⟩ (by rw [cnt']; omega) (by omega) (by omega)
                  obtain ⟨r1, r2, r3⟩ := rc0 h0
                  have sub : ∀ x, G' ne_seen x ≠ 0 → G3 ne_seen x ≠ 0 := fun x hx => by
                    by_cases c : x = he N e
                    · rw [c, f4]; decide
                    · rw [f5 x c]; exact hx
                  rw [← f2] at r1 r2
                  refine ⟨fun n hn hsn => ?_, fun n hn hsn => ?_, fun S s1 s2 n hn hsn => ?_⟩
                  · by_cases c : n = he N e
                    · subst c
                      have pz := r2 _ hl y2
                      refine ⟨fun q q1 q2 q3 => ?_, fun hp => absurd pe1 (hp (d + 1) (Nat.le_refl _))⟩
                      rw [pz] at q3
                      have := prv_max (N := N) (e := 2 * N.1) q2 q1
                      omega
                    · rw [f5 n c] at hsn
                      refine ⟨fun q q1 q2 q3 => ?_, fun hp => ?_⟩
                      · rcases (r1 n hn hsn).1 q q1 q2 q3 with h | h
                        · exact Or.inl h
                        · exact Or.inr (sub _ h)
                      · by_cases c2 : n = node
                        · exact absurd (by rw [pe d (by omega), ← i7, c2]) (hp d (by omega))
                        · exact (r1 n hn hsn).2 c2 (fun j hj => by rw [← pe j hj]; exact hp j (by omega))
                  · have c : n ≠ he N e := fun c => by rw [c, f4] at hsn; cases hsn
                    rw [f5 n c] at hsn
                    exact r2 n hn hsn
                  · by_cases c : n = he N e
                    · subst c
                      exact s2 e e1 (by rw [e2]; exact r3 S s1 s2 node hnode seenNode) y1
                    · rw [f5 n c] at hsn
                      exact r3 S s1 s2 n hn hsn
                · have hsink : he N e = 337 := by omega
                  have hnet3 : cNet N L G3 := ⟨by rw [frame' o_Ne (by decide) (by decide) (by decide) (by decide)]; exact n1, fun e he => by
                      rw [frame' ne_ends (by decide) (by decide) (by decide) (by decide), frame' ne_later (by decide) (by decide) (by decide) (by decide)]
                      exact ⟨(n2 e he).1, (n2 e he).2.1, free' e he⟩, fun n hn => by rw [frame' ne_heads (by decide) (by decide) (by decide) (by decide)]; exact n3 n hn⟩
                  have pm1 := pmin_pos (L := L) (p := p') (n := d + 1) (fun i hi => (path' i hi).2.2.2)
                  have pm2 := pmin_le L p' (d + 1)
                  have ex : ∃ j, j < d + 1 ∧ L (p' j) = pmin L p' (d + 1) := by
                    have : ∀ k, (∃ j, j < k ∧ L (p' j) = pmin L p' k) ∨ pmin L p' k = 1000000 := by
                      intro k
                      induction k with
                      | zero => exact Or.inr rfl
                      | succ k ihk =>
                        have em : pmin L p' (k + 1) = min (pmin L p' k) (L (p' k)) := rfl
                        by_cases c : L (p' k) ≤ pmin L p' k
                        · exact Or.inl ⟨k, by omega, by omega⟩
                        · rcases ihk with ⟨j, j1, j2⟩ | h
                          · exact Or.inl ⟨j, by omega, by omega⟩
                          · exact Or.inr (by omega)
                    rcases this (d + 1) with h | h
                    · exact h
                    · have a1 := pm2.2 d (by omega)
                      have a2 := (i4 (p' d)).2
                      exact ⟨d, by omega, by omega⟩
                  have injp : ∀ j k, j < d + 1 → k < d + 1 → p' j = p' k → j = k := fun j k h1 h2 h3 => by
                    have a1 := (path' j h1).2.2.1
                    have a2 := (path' k h2).2.2.1
                    rw [h3] at a1
                    exact inj' j k (by omega) (by omega) (a1.symm.trans a2)
                  have norev : ∀ j k, j < d + 1 → k < d + 1 → xr (p' j) ≠ p' k := fun j k h1 h2 h3 => by
                    have a1 := (path' j h1).2.2.1
                    have a2 := (path' k h2).2.2.1
                    rw [← h3, te_xr] at a2
                    have b1 : pend N p' 336 (j + 1) = pend N p' 336 k := a2
                    have b2 : he N (xr (p' j)) = pend N p' 336 (k + 1) := by rw [h3]; rfl
                    rw [he_xr, a1] at b2
                    have c1 := inj' (j + 1) k (by omega) (by omega) b1
                    have c2 := inj' j (k + 1) (by omega) (by omega) b2
                    omega
                  have hdist : ∀ j k, j < d + 1 → k < d + 1 → he N (p' j) = he N (p' k) → j = k := fun j k h1 h2 h3 => by
                    have := inj' (j + 1) (k + 1) (by omega) (by omega) h3
                    omega
                  refine x_aload_n d_Ne_searchRound_147 rfl rfl ?_
                  refine x_iload_n d_Ne_searchRound_148 rfl rfl ?_
                  rw [show (d : Int) + 1 = ((d + 1 : Nat) : Int) by omega]
                  refine x_V1 d_Ne_searchRound_149 e_Ne_searchRound_Ne_leastFree ⟨rfl, rfl, Nat.zero_le _, Nat.zero_le _⟩ rfl rfl rfl rfl (Nat.le_of_ble_eq_true rfl) (c_leastFree hw hnet3 p' (d + 1) (fun i hi => ⟨(path' i hi).1, (path' i hi).2.1⟩) (by omega) hK) ?_
                  generalize hgo : pmin L p' (d + 1) = go at *
                  refine x_istore d_Ne_searchRound_152 (by decide) ?_
                  dsimp only [x_st1, x_st2, x_kill, List.set, List.getElem?_cons_zero, List.getElem?_cons_succ]
                  refine x_iload_n d_Ne_searchRound_154 rfl rfl ?_
                  refine x_iload d_Ne_searchRound_155 rfl ?_
                  refine x_iaddN d_Ne_searchRound_157 (by omega) (by omega) ?_
                  refine x_istore_n d_Ne_searchRound_158 rfl (by decide) ?_
                  dsimp only [x_st1, x_st2, x_kill, List.set, List.getElem?_cons_zero, List.getElem?_cons_succ]
                  refine x_aload_n d_Ne_searchRound_159 rfl rfl ?_
                  refine x_iload_n d_Ne_searchRound_160 rfl rfl ?_
                  refine x_iload d_Ne_searchRound_161 rfl ?_
                  refine x_VQ d_Ne_searchRound_163 e_Ne_searchRound_Ne_send ⟨rfl, rfl, Nat.zero_le _, Nat.zero_le _⟩ rfl rfl rfl rfl (Nat.le_of_ble_eq_true rfl) (c_send hw hK hnet3 i4 p' go (d + 1) (by omega) (by omega) (fun i hi => ⟨(path' i hi).1, (path' i hi).2.1⟩) injp norev ex hdist (fun j hj => seen' (j + 1) (by omega))) (fun v τ hv => ?_)
                  obtain ⟨s, G4, rfl, s1, rfl, s2, s3, s4, s5, s6, s7⟩ := hv
                  show x_A y_Ne_searchRound 166 [some oNe, some (xI (sum + go)), some (xI ((d + 1 : Nat) : Int)), some (xI (he N e : Int)), some (xI step), some (xI (e : Int)), some (xI go)] [xI (s : Int)] (S0, G4) 0 0 Q
                  have pushed : fOK N (pushL L p' go (d + 1)) (val + sum + go) := push_ok i3 (by omega) (fun j hj => ⟨(path' j hj).2.1, (path' j hj).2.2.1⟩) (fun j hj => by rw [← hgo]; exact (pmin_le L p' (d + 1)).2 j hj) injp (fun e => (i4 e).1) (by rw [pe1]; exact hsink)
                  have ok4 : fOK N (lCut N (pushL L p' go (d + 1))) (val + (sum + go)) := by
                    rw [← Int.add_assoc]
                    exact pushed.congr (fun i hi => (lCut_eq hi).symm)
                  have bd4 : ∀ e, 0 ≤ lCut N (pushL L p' go (d + 1)) e ∧ lCut N (pushL L p' go (d + 1)) e ≤ 1000000 := lCut_bd hw pushed
                  have last : x_A y_Ne_searchRound 190 [some oNe, some (xI (sum + go)), some (xI (s : Int)), some (xI (he N e : Int)), some (xI step), some (xI (e : Int)), some (xI go)] [xI (pend N p' 336 s : Int)] (S0, G4) 0 0 Q := by
                    refine x_istore_n d_Ne_searchRound_190 rfl (by decide) ?_
                    dsimp only [x_st1, x_st2, x_kill, List.set, List.getElem?_cons_zero, List.getElem?_cons_succ]
                    refine x_iincN d_Ne_searchRound_191 rfl (by decide) (by omega) (by omega) ?_
                    dsimp only [x_st1, x_st2, x_kill, List.set, List.getElem?_cons_zero, List.getElem?_cons_succ]
                    refine x_goto (54) d_Ne_searchRound_194 (by decide) ?_
                    refine ih (sum + go) s _ p' (lCut N (pushL L p' go (d + 1))) G4 _ _ _ ⟨fun i q1 q2 q3 q4 => by rw [s2 i q4 q3]; exact frame' i q1 q2 q3 q4, fun e he => by rw [s3 e he, lCut_eq he], ok4, bd4, by omega, fun j hj => ?_, rfl, fun i j q1 q2 => inj' i j (by omega) (by omega), fun j hj => ?_, fun x hx => ?_, ?_, ?_, fun n hn => by rw [s2 _ (by decide) (by decide)]; exact ptr' n hn, fun h0 => by omega⟩ ?_ (by omega) (by omega)
                    · obtain ⟨a1, a2, a3, a4⟩ := path' j (by omega)
                      rw [s2 ne_path (by decide) (by decide)]
                      refine ⟨a1, a2, a3, ?_⟩
                      rw [lCut_eq a2, ← pfr_0, pfr_own (show j < d + 1 by omega) (Nat.zero_le _) (fun k hk z => injp k j hk (by omega) z) (fun k hk => norev k j hk (by omega))]
                      have b1 := s4 j hj
                      have b2 := (pmin_le L p' (d + 1)).2 j (by omega)
                      omega
                    · rw [s6 _ (fun k k1 k2 q => by have := inj' (k + 1) j (by omega) (by omega) q; omega)]
                      exact seen' j (by omega)
                    · by_cases c : ∃ k, s ≤ k ∧ k < d + 1 ∧ he N (p' k) = x
                      · obtain ⟨k, k1, k2, k3⟩ := c
                        rw [← k3]
                        exact Or.inl (s5 k k1 k2)
                      · rw [s6 x (fun k k1 k2 k3 => c ⟨k, k1, k2, k3⟩)]
                        exact bool' x hx
                    · have := s5 d (by omega) (by omega)
                      rw [pd, hsink] at this
                      exact this
                    · rw [s7, cnt']; omega
                    · rw [s7, cnt']
                      have : 340 * 1 ≤ 340 * go := by omega
                      omega
                  refine x_istore_n d_Ne_searchRound_166 rfl (by decide) ?_
                  dsimp only [x_st1, x_st2, x_kill, List.set, List.getElem?_cons_zero, List.getElem?_cons_succ]
                  refine x_iload_n d_Ne_searchRound_167 rfl rfl ?_
                  refine x_if_ne (177) d_Ne_searchRound_168 (by decide) (fun g3 => ?_) (fun g3 => ?_)
                  · obtain ⟨s', rfl⟩ : ∃ s', s = s' + 1 := ⟨s - 1, by omega⟩
                    obtain ⟨a1, a2, a3, a4⟩ := path' s' (by omega)
                    refine x_aload_n d_Ne_searchRound_177 rfl rfl ?_
                    refine x_getF (kf := 5) d_Ne_searchRound_178 rfl rfl rfl in_Ne f_Ne_28 ?_
                    refine x_aload_n d_Ne_searchRound_181 rfl rfl ?_
                    refine x_getF (kf := 2) d_Ne_searchRound_182 rfl rfl rfl in_Ne f_Ne_18 ?_
                    refine x_iload_n d_Ne_searchRound_185 rfl rfl ?_
                    refine x_iconst (1) d_Ne_searchRound_186 rfl ⟨by decide, by decide⟩ ?_
                    refine x_isubN d_Ne_searchRound_187 (by omega) (by omega) ?_
                    refine x_ialdN (s') d_Ne_searchRound_188 rfl (by omega) (by omega) ?_
                    rw [s2 ne_path (by decide) (by decide), a1]
                    refine x_ialdN (p' s') d_Ne_searchRound_189 rfl (by omega) (by omega) ?_
                    rw [s2 ne_ends (by decide) (by decide), (hnet3.2.1 _ a2).1]
                    exact last
                  · have : s = 0 := by omega
                    subst this
                    refine x_sipush (336) d_Ne_searchRound_171 rfl ⟨by decide, by decide⟩ ?_
                    refine x_goto (190) d_Ne_searchRound_174 (by decide) ?_
                    exact last
              · omega
          refine x_icmp_ne (88) d_Ne_searchRound_78 (by decide) (fun g1 => ?_) (fun g1 => ?_)
          · exact advance g1
          · refine x_iload_n d_Ne_searchRound_81 rfl rfl ?_
            refine x_if_ne (88) d_Ne_searchRound_82 (by decide) (fun g2 => ?_) (fun g2 => ?_)
            · exact retreat (by omega) (by omega)
            · refine x_goto (197) d_Ne_searchRound_85 (by decide) ?_
              refine x_iload_n d_Ne_searchRound_197 rfl rfl ?_
              refine x_ireturn d_Ne_searchRound_198 rfl ?_ (Nat.zero_le _) (Nat.zero_le _)
              rw [← hQ]
              have hd : d = 0 := by omega
              subst hd
              refine ⟨_, rfl, _, L, sum, rfl, rfl, i5, fun i q1 q2 q3 q4 => by rw [oth i q1]; exact i1 i q1 q2 q3 q4, fun e he => by rw [oth _ (by decide)]; exact i2 e he, i3, i4, fun h0 => ?_⟩
              obtain ⟨r1, r2, r3⟩ := rc0 h0
              have hnd : node = 336 := i7
              have rs : ∀ n, rSeen (up G' ne_pointers node z) n = decide (n < 338 ∧ G' ne_seen n = 1) := fun n => by unfold rSeen; rw [oth _ (by decide)]
              refine ⟨⟨?_, ?_, ?_⟩, ?_, fun n hn => by rw [oth _ (by decide)]; exact i10 n hn⟩
              · rw [rs, decide_eq_true ⟨by omega, by rw [← hnd]; exact seenNode⟩]
              · intro q q1 q2 q3
                rw [rs] at q2 ⊢
                have q2 := of_decide_eq_true q2
                have key : L q ≤ 0 ∨ G' ne_seen (he N q) ≠ 0 := by
                  by_cases c : te N q = node
                  · refine (r1 node hnode seenNode).1 q q1 c ?_
                    rw [up_same]; omega
                  · refine (r1 _ q2.1 q2.2).1 q q1 rfl ?_
                    rw [(r1 _ q2.1 q2.2).2 c (fun j hj => by
                      have : j = 0 := by omega
                      subst this
                      show (336 : Nat) ≠ _
                      omega)]
                    omega
                have hl := (te_lt hw q1).2
                rcases key with h | h
                · omega
                · exact decide_eq_true ⟨hl, (i10 _ hl).resolve_left h⟩
              · intro S s1 s2 n hn
                rw [rs] at hn
                have hn := of_decide_eq_true hn
                exact r3 S s1 s2 n hn.1 hn.2
              · rw [rs, decide_eq_false (fun q => by have := q.2; omega)]
  refine x_iconst (0) d_Ne_searchRound_0 rfl ⟨by decide, by decide⟩ ?_
  refine x_istore_n d_Ne_searchRound_1 rfl (by decide) ?_
  dsimp only [x_st1, x_st2, x_kill, List.set, List.getElem?_cons_zero, List.getElem?_cons_succ]
  refine x_up_to (P := fun i => ∀ G', (∀ j, j ≠ ne_seen → j ≠ ne_pointers → G' j = G j) → (∀ n, n < i → G' ne_seen n = 0 ∧ G' ne_pointers n = prv N n (2 * N.1)) → x_A y_Ne_searchRound 2 [some oNe, some (xI (i : Int)), none, none, none, none, none] [] (S0, G') 0 0 Q) 0 338 (Nat.zero_le _) (fun G' f1 f2 => ?_) (fun i _ hi k G' f1 f2 => ?_) G (fun _ _ _ => rfl) (fun n hn => by omega)
  · refine x_iload_n d_Ne_searchRound_2 rfl rfl ?_
    refine x_sipush (338) d_Ne_searchRound_3 rfl ⟨by decide, by decide⟩ ?_
    refine x_icmp_ge (34) d_Ne_searchRound_6 (by decide) (fun g => ?_) (fun g => ?_)
    · refine x_aload_n d_Ne_searchRound_34 rfl rfl ?_
      refine x_getF (kf := 3) d_Ne_searchRound_35 rfl rfl rfl in_Ne f_Ne_21 ?_
      refine x_sipush (336) d_Ne_searchRound_38 rfl ⟨by decide, by decide⟩ ?_
      refine x_iconst (1) d_Ne_searchRound_41 rfl ⟨by decide, by decide⟩ ?_
      refine x_bastN (336) d_Ne_searchRound_42 rfl (by omega) (by omega) (by first | exact Or.inl rfl | exact Or.inr rfl | assumption) ?_
      refine x_iconst (0) d_Ne_searchRound_43 rfl ⟨by decide, by decide⟩ ?_
      refine x_istore_n d_Ne_searchRound_44 rfl (by decide) ?_
      dsimp only [x_st1, x_st2, x_kill, List.set, List.getElem?_cons_zero, List.getElem?_cons_succ]
      refine x_iconst (0) d_Ne_searchRound_45 rfl ⟨by decide, by decide⟩ ?_
      refine x_istore_n d_Ne_searchRound_46 rfl (by decide) ?_
      dsimp only [x_st1, x_st2, x_kill, List.set, List.getElem?_cons_zero, List.getElem?_cons_succ]
      refine x_sipush (336) d_Ne_searchRound_47 rfl ⟨by decide, by decide⟩ ?_
      refine x_istore_n d_Ne_searchRound_50 rfl (by decide) ?_
      dsimp only [x_st1, x_st2, x_kill, List.set, List.getElem?_cons_zero, List.getElem?_cons_succ]
      refine x_iconst (0) d_Ne_searchRound_51 rfl ⟨by decide, by decide⟩ ?_
      refine x_istore d_Ne_searchRound_52 (by decide) ?_
      dsimp only [x_st1, x_st2, x_kill, List.set, List.getElem?_cons_zero, List.getElem?_cons_succ]
      have f3 : ∀ n, n < 338 → up G' ne_seen 336 1 ne_seen n = if n = 336 then 1 else 0 := fun n hn => by
        by_cases c : n = 336
        · subst c; rw [up_same, if_pos rfl]
        · rw [up_ne c, if_neg c]; exact (f2 n hn).1
      have f4 : up G' ne_seen 336 1 ne_pointers = G' ne_pointers := up_cell (by decide)
      have cnt : su (up G' ne_seen 336 1 ne_seen) 338 = 1 := by
        rw [su_congr (g := pt 336 1) (fun n hn => by rw [f3 n hn]; rfl), su_pt _ (by decide)]
      refine loop 400000 0 0 336 (fun _ => 0) (lCut N Lb) _ 0 none none ⟨fun i q1 q2 q3 q4 => by rw [up_cell q3]; exact f1 i q3 q1, fun e he => by rw [up_cell (by decide), f1 _ (by decide) (by decide), lCut_eq he]; exact (n2 e he).2.2, by rw [Int.add_zero]; exact hf.congr (fun i hi => (lCut_eq hi).symm), lCut_bd hw hf, Int.le_refl 0, fun j hj => by omega, rfl, fun i j q1 q2 _ => by omega, fun j hj => ?_, fun x hx => ?_, ?_, ?_, fun n hn => ?_, fun _ => ⟨fun n hn hsn => ?_, fun n hn hsn => ?_, fun S s1 s2 n hn hsn => ?_⟩⟩ (by rw [cnt]; omega) (by omega) (by omega)
      · have : j = 0 := by omega
        subst this
        show up G' ne_seen 336 1 ne_seen 336 = 1
        rw [up_same]
      · rw [f3 x hx]; split <;> simp
      · rw [f3 337 (by decide), if_neg (by decide)]
      · rw [cnt]; decide
      · rw [f4, (f2 n hn).2]
        have b := prv_lt N n (2 * N.1)
        by_cases c : prv N n (2 * N.1) = -1
        · exact Or.inl c
        · obtain ⟨a1, a2⟩ := prv_te (N := N) (n := n) (e := 2 * N.1) (q := (prv N n (2 * N.1)).toNat) (by omega)
          exact Or.inr ⟨(prv N n (2 * N.1)).toNat, by omega, a2, a1⟩
      · rw [f4, (f2 n hn).2]
        have c : n = 336 := by
          by_cases c : n = 336
          · exact c
          · rw [f3 n hn, if_neg c] at hsn; cases hsn
        refine ⟨fun q q1 q2 q3 => ?_, fun hp => absurd c.symm (hp 0 (Nat.le_refl 0))⟩
        have := prv_max (N := N) (e := 2 * N.1) q2 q1
        omega
      · rw [f4]; exact (f2 n hn).2
      · have c : n = 336 := by
          by_cases c : n = 336
          · exact c
          · rw [f3 n hn, if_neg c] at hsn; cases hsn
        rw [c]; exact s1
    · omega
  · refine x_iload_n d_Ne_searchRound_2 rfl rfl ?_
    refine x_sipush (338) d_Ne_searchRound_3 rfl ⟨by decide, by decide⟩ ?_
    refine x_icmp_ge (34) d_Ne_searchRound_6 (by decide) (fun g => ?_) (fun g => ?_)
    · omega
    · refine x_aload_n d_Ne_searchRound_9 rfl rfl ?_
      refine x_getF (kf := 3) d_Ne_searchRound_10 rfl rfl rfl in_Ne f_Ne_21 ?_
      refine x_iload_n d_Ne_searchRound_13 rfl rfl ?_
      refine x_iconst (0) d_Ne_searchRound_14 rfl ⟨by decide, by decide⟩ ?_
      refine x_bastN (i) d_Ne_searchRound_15 rfl (by omega) (by omega) (by first | exact Or.inl rfl | exact Or.inr rfl | assumption) ?_
      refine x_aload_n d_Ne_searchRound_16 rfl rfl ?_
      refine x_getF (kf := 1) d_Ne_searchRound_17 rfl rfl rfl in_Ne f_Ne_15 ?_
      refine x_iload_n d_Ne_searchRound_20 rfl rfl ?_
      refine x_aload_n d_Ne_searchRound_21 rfl rfl ?_
      refine x_getF (kf := 0) d_Ne_searchRound_22 rfl rfl rfl in_Ne f_Ne_11 ?_
      refine x_iload_n d_Ne_searchRound_25 rfl rfl ?_
      refine x_ialdN (i) d_Ne_searchRound_26 rfl (by omega) (by omega) ?_
      rw [up_cell (show ne_heads ≠ ne_seen by decide), f1 ne_heads (by decide) (by decide), n3 i hi]
      refine x_iastN (i) d_Ne_searchRound_27 rfl (by omega) (by omega) ?_
      refine x_iincN d_Ne_searchRound_28 rfl (by decide) (by omega) (by omega) ?_
      dsimp only [x_st1, x_st2, x_kill, List.set, List.getElem?_cons_zero, List.getElem?_cons_succ]
      refine x_goto (2) d_Ne_searchRound_31 (by decide) ?_
      refine k _ (fun j q1 q2 => by rw [up_cell q2, up_cell q1]; exact f1 j q1 q2) (fun n hn => ?_)
      rw [up_cell (show ne_seen ≠ ne_pointers by decide)]
      by_cases c : n = i
      · subst c; rw [up_same, up_same]; exact ⟨rfl, rfl⟩
      · rw [up_ne c, up_ne c, up_cell (show ne_pointers ≠ ne_seen by decide)]
        exact f2 n (by omega)
end CN4
