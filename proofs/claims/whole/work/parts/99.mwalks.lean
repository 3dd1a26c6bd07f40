/-! the reference: a crew's walk there -/
section MWk
variable {h : HH} {G : Nat → Nat → Int}
def shM (h : HH) (G : Nat → Nat → Int) : Nat → Nat → Bool := fun m p => decide (h.1 9 0 0 < G m_mixed (8 * m + p))
theorem s_costs' (r : mRep h G) (p m : Nat) (hp : p < 8) (hm : m ≤ 20) (z : Int) (hz : 0 ≤ z ∧ z ≤ 100) {a b : Int} (ha : a = p) (hb : b = m) : x_M y_M_costs [oM, xI a, xI b, xI z] (S0, G) (x_is (.inl (some (xI (z + cm (shM h G) p m)))) (S0, G)) := by
  subst ha hb
  have := s_costs r p m hp hm z hz
  have e : (if h.1 9 0 0 < G m_mixed (8 * m + p) then (2 : Int) else 0) = cm (shM h G) p m := by
    unfold cm shM
    by_cases c : h.1 9 0 0 < G m_mixed (8 * m + p)
    · rw [if_pos c, decide_eq_true c, if_pos rfl]
    · rw [if_neg c, decide_eq_false c, if_neg (by decide)]
  rw [e] at this
  exact this
/-- the end of a step, and what it takes -/
def eOk (h : HH) (m p e : Nat) : Prop := m < 20 ∧ p < h.2 0 ∧ (e = 0 ∨ ∃ w, e = w + 1 ∧ w < h.2 1 ∧ f_at h p w = true ∧ (m : Int) + h.1 1 w 2 ≤ 20)
def eM (h : HH) (m e : Nat) : Nat := if e = 0 then m + 1 else ((m : Int) + h.1 1 (e - 1) 2).toNat
def eP (h : HH) (p e : Nat) : Nat := if e = 0 then p else (f_oth h p (e - 1)).toNat
def eC (h : HH) (e : Nat) : Int := if e = 0 then 1 else h.1 1 (e - 1) 2
def eD (m p e m0 p0 e0 : Nat) : Prop := m0 < m ∨ (m0 = m ∧ (p0 < p ∨ (p0 = p ∧ e0 < e)))
theorem eOk.bd (hh : Hwf h) {m p e : Nat} (x : eOk h m p e) : m < eM h m e ∧ eM h m e ≤ 20 ∧ eP h p e < h.2 0 ∧ 1 ≤ eC h e ∧ eC h e ≤ 4 := by
  obtain ⟨x1, x2, x3⟩ := x
  rcases x3 with rfl | ⟨w, rfl, x4, x5, x6⟩
  · unfold eM eP eC
    rw [if_pos rfl, if_pos rfl, if_pos rfl]; omega
  · have b := hh.2.2.1 w x4
    have bo := f_oth_bd hh (p : Int) x4
    unfold eM eP eC
    rw [if_neg (by omega), if_neg (by omega), if_neg (by omega), show w + 1 - 1 = w by omega]; omega
def wInv (h : HH) (sh : Nat → Nat → Bool) (m p e : Nat) (g : Nat → Nat → Int) : Prop :=
  (∀ m' q, m' ≤ 20 → q < 8 → 0 ≤ g m' q ∧ g m' q ≤ 1000000) ∧ (∀ m' q, m' ≤ 20 → q < h.2 0 → g m' q ≤ t_in h m' q) ∧
  (∀ m0 p0 e0, eOk h m0 p0 e0 → eD m p e m0 p0 e0 → g (eM h m0 e0) (eP h p0 e0) ≤ g m0 p0 + eC h e0 + cm sh (eP h p0 e0) (eM h m0 e0)) ∧
  ∀ m' q, m' ≤ 20 → q < h.2 0 → g m' q = t_in h m' q ∨ ∃ m0 p0 e0, eOk h m0 p0 e0 ∧ eD m p e m0 p0 e0 ∧ m' = eM h m0 e0 ∧ q = eP h p0 e0 ∧ g m' q = g m0 p0 + eC h e0 + cm sh q m'
theorem wInv.skip {sh : Nat → Nat → Bool} {m p e m1 p1 e1 : Nat} {g : Nat → Nat → Int} (x : wInv h sh m p e g) (hd : ∀ m0 p0 e0, eOk h m0 p0 e0 → (eD m p e m0 p0 e0 ↔ eD m1 p1 e1 m0 p0 e0)) : wInv h sh m1 p1 e1 g := by
  obtain ⟨x1, x2, x3, x4⟩ := x
  refine ⟨x1, x2, fun m0 p0 e0 h1 h2 => x3 m0 p0 e0 h1 ((hd m0 p0 e0 h1).mpr h2), fun m' q h1 h2 => ?_⟩
  rcases x4 m' q h1 h2 with y | ⟨m0, p0, e0, y1, y2, y3, y4, y5⟩
  · exact Or.inl y
  · exact Or.inr ⟨m0, p0, e0, y1, (hd m0 p0 e0 y1).mp y2, y3, y4, y5⟩
theorem wInv.step (hh : Hwf h) {sh : Nat → Nat → Bool} {m p e : Nat} {g g' : Nat → Nat → Int} (x : wInv h sh m p e g) (ok : eOk h m p e) (hg : ∀ m' q, m' ≤ 20 → q < 8 → g' m' q = if m' = eM h m e ∧ q = eP h p e then min (g m' q) (g m p + (eC h e + cm sh q m')) else g m' q) : wInv h sh m p (e + 1) g' := by
  obtain ⟨x1, x2, x3, x4⟩ := x
  have b0 := hh.1
  have bb := ok.bd hh
  have low : ∀ m' q, m' ≤ m → q < 8 → g' m' q = g m' q := fun m' q h1 h2 => by rw [hg m' q (by omega) h2, if_neg (by omega)]
  refine ⟨fun m' q h1 h2 => ?_, fun m' q h1 h2 => ?_, fun m0 p0 e0 h1 h2 => ?_, fun m' q h1 h2 => ?_⟩
  · have y := x1 m' q h1 h2
    have z := x1 m p (by omega) (by have := ok.2.1; omega)
    have c := cm_bd sh q m'
    rw [hg m' q h1 h2]
    split <;> omega
  · have y := x2 m' q h1 h2
    rw [hg m' q h1 (by omega)]
    split <;> omega
  · have b1 := h1.bd hh
    have b2 := h1.2.1
    have hm0 : m0 ≤ m := by unfold eD at h2; omega
    rw [low m0 p0 hm0 (by omega), hg _ _ b1.2.1 (by omega)]
    by_cases q : m0 = m ∧ p0 = p ∧ e0 = e
    · obtain ⟨rfl, rfl, rfl⟩ := q
      rw [if_pos ⟨rfl, rfl⟩]; omega
    · have y := x3 m0 p0 e0 h1 (by unfold eD at *; omega)
      split <;> omega
  · rw [hg m' q h1 (by omega)]
    by_cases c : m' = eM h m e ∧ q = eP h p e
    · rw [if_pos c]
      by_cases d : g m p + (eC h e + cm sh q m') ≤ g m' q
      · right
        refine ⟨m, p, e, ok, by unfold eD; omega, c.1, c.2, ?_⟩
        rw [low m p (Nat.le_refl _) (by have := ok.2.1; omega)]; omega
      · rw [show min (g m' q) (g m p + (eC h e + cm sh q m')) = g m' q by omega]
        rcases x4 m' q h1 h2 with y | ⟨m0, p0, e0, y1, y2, y3, y4, y5⟩
        · exact Or.inl y
        · refine Or.inr ⟨m0, p0, e0, y1, by unfold eD at *; omega, y3, y4, ?_⟩
          rw [low m0 p0 (by unfold eD at y2; omega) (by have := y1.2.1; omega)]; exact y5
    · rw [if_neg c]
      rcases x4 m' q h1 h2 with y | ⟨m0, p0, e0, y1, y2, y3, y4, y5⟩
      · exact Or.inl y
      · refine Or.inr ⟨m0, p0, e0, y1, by unfold eD at *; omega, y3, y4, ?_⟩
        rw [low m0 p0 (by unfold eD at y2; omega) (by have := y1.2.1; omega)]; exact y5
theorem f_oth_oth (hh : Hwf h) {p w : Nat} (hw : w < h.2 1) (ha : f_at h p w = true) : f_at h (f_oth h p w) w = true ∧ f_oth h (f_oth h p w) w = p := by
  have b := hh.2.2.1 w hw
  have ha' : h.1 1 w 0 = p ∨ h.1 1 w 1 = p := by
    unfold f_at at ha
    rcases Bool.or_eq_true _ _ ▸ ha with z | z
    · exact Or.inl (of_decide_eq_true z)
    · exact Or.inr (of_decide_eq_true z)
  unfold f_at f_oth
  by_cases e : h.1 1 w 0 = p
  · rw [if_pos e, decide_eq_true (rfl : h.1 1 w 1 = h.1 1 w 1), Bool.or_true, if_neg (by omega)]
    exact ⟨rfl, e⟩
  · rw [if_neg e, decide_eq_true (rfl : h.1 1 w 0 = h.1 1 w 0), Bool.true_or, if_pos rfl]
    exact ⟨rfl, by omega⟩
/-- lT is the least of what one comes from -/
theorem lT_le (hh : Hwf h) (g : Nat → Nat → Int) (m p : Nat) (n : Nat) : (lT h g m p n ≤ if 0 < m then g (m - 1) p + 1 else 1000000) ∧ (∀ w, w < n → f_at h p w = true → h.1 1 w 2 ≤ m → lT h g m p n ≤ g ((m : Int) - h.1 1 w 2).toNat (f_oth h p w).toNat + h.1 1 w 2) ∧ ((lT h g m p n = if 0 < m then g (m - 1) p + 1 else 1000000) ∨ ∃ w, w < n ∧ f_at h p w = true ∧ h.1 1 w 2 ≤ m ∧ lT h g m p n = g ((m : Int) - h.1 1 w 2).toNat (f_oth h p w).toNat + h.1 1 w 2) := by
  induction n with
  | zero => exact ⟨Int.le_refl _, fun w hw => by omega, Or.inl rfl⟩
  | succ n ih =>
    obtain ⟨i1, i2, i3⟩ := ih
    have e : lT h g m p (n + 1) = if f_at h p n = true ∧ h.1 1 n 2 ≤ m then min (lT h g m p n) (g ((m : Int) - h.1 1 n 2).toNat (f_oth h p n).toNat + h.1 1 n 2) else lT h g m p n := rfl
    rw [e]
    by_cases c : f_at h p n = true ∧ h.1 1 n 2 ≤ m
    · rw [if_pos c]
      refine ⟨by omega, fun w hw h1 h2 => ?_, ?_⟩
      · by_cases q : w = n
        · subst q; omega
        · have := i2 w (by omega) h1 h2; omega
      · by_cases d : lT h g m p n ≤ g ((m : Int) - h.1 1 n 2).toNat (f_oth h p n).toNat + h.1 1 n 2
        · rw [show min (lT h g m p n) (g ((m : Int) - h.1 1 n 2).toNat (f_oth h p n).toNat + h.1 1 n 2) = lT h g m p n by omega]
          rcases i3 with y | ⟨w, y1, y2⟩
          · exact Or.inl y
          · exact Or.inr ⟨w, by omega, y2⟩
        · exact Or.inr ⟨n, by omega, c.1, c.2, by omega⟩
    · rw [if_neg c]
      refine ⟨i1, fun w hw h1 h2 => ?_, ?_⟩
      · by_cases q : w = n
        · subst q; exact absurd ⟨h1, h2⟩ c
        · exact i2 w (by omega) h1 h2
      · rcases i3 with y | ⟨w, y1, y2⟩
        · exact Or.inl y
        · exact Or.inr ⟨w, by omega, y2⟩
theorem wInv.done (hh : Hwf h) {sh : Nat → Nat → Bool} {g : Nat → Nat → Int} (x : wInv h sh 20 0 0 g) : isTh h sh g := by
  obtain ⟨x1, x2, x3, x4⟩ := x
  have b0 := hh.1
  intro m hm p hp
  have l := lT_le hh g m p (h.2 1)
  have cb := cm_bd sh p m
  have a1 := x2 m p hm hp
  have t1 : t_in h m p ≤ 1000000 := by unfold t_in; split <;> omega
  -- not above
  have up1 : g m p ≤ lT h g m p (h.2 1) + cm sh p m := by
    rcases l.2.2 with y | ⟨w, y1, y2, y3, y4⟩
    · rw [y]
      by_cases c : 0 < m
      · rw [if_pos c]
        have z := x3 (m - 1) p 0 ⟨by omega, hp, Or.inl rfl⟩ (by unfold eD; omega)
        unfold eM eP eC at z
        rw [if_pos rfl, if_pos rfl, if_pos rfl, show m - 1 + 1 = m by omega] at z
        exact z
      · rw [if_neg c]; omega
    · rw [y4]
      have b := hh.2.2.1 w y1
      have bo := f_oth_bd hh (p : Int) y1
      have oo := f_oth_oth hh y1 y2
      have ec : ((f_oth h p w).toNat : Int) = f_oth h p w := by omega
      have z := x3 ((m : Int) - h.1 1 w 2).toNat (f_oth h p w).toNat (w + 1) ⟨by omega, by omega, Or.inr ⟨w, rfl, y1, by rw [ec]; exact oo.1, by omega⟩⟩ (by unfold eD; omega)
      unfold eM eP eC at z
      rw [if_neg (by omega), if_neg (by omega), if_neg (by omega), show w + 1 - 1 = w by omega, ec, oo.2, show ((((m : Int) - h.1 1 w 2).toNat : Int) + h.1 1 w 2).toNat = m by omega, Int.toNat_natCast] at z
      exact z
  -- one of them
  rcases x4 m p hm hp with y | ⟨m0, p0, e0, y1, y2, y3, y4, y5⟩
  · omega
  · have bb := y1.bd hh
    have low : lT h g m p (h.2 1) + cm sh p m ≤ g m p := by
      obtain ⟨z1, z2, z3⟩ := y1
      rcases z3 with rfl | ⟨w, rfl, z4, z5, z6⟩
      · unfold eM at y3
        unfold eP at y4
        unfold eC at y5
        rw [if_pos rfl] at y3 y4 y5
        have l1 := l.1
        rw [if_pos (by omega), show m - 1 = m0 by omega] at l1
        subst y4
        omega
      · have b := hh.2.2.1 w z4
        have bo := f_oth_bd hh (p0 : Int) z4
        have oo := f_oth_oth hh z4 z5
        unfold eM at y3
        unfold eP at y4
        unfold eC at y5
        rw [if_neg (by omega), show w + 1 - 1 = w by omega] at y3 y4 y5
        have ec : (p : Int) = f_oth h p0 w := by omega
        have l2 := l.2.1 w z4 (by rw [ec]; exact oo.1) (by omega)
        rw [ec, oo.2, show ((m : Int) - h.1 1 w 2).toNat = m0 by omega, Int.toNat_natCast] at l2
        omega
    omega
end MWk
