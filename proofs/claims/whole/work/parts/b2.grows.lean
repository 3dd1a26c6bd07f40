/-! rows, worth, lay: class against reference -/
section GR
variable {a : AB} {n : Nat} {G : Nat → Nat → Int}
theorem c_wor_eq {h : HH} {ρ : RR} (r : mRw ρ G) (x1 x2 x3 x4 x5 x6 : Int) : c_wor h G x1 x2 x3 x4 x5 x6 = c_woR h ρ x1 x2 x3 x4 x5 x6 := by
  unfold c_wor c_woR
  simp only [f_wi0]
  by_cases q : ¬ (-1 ≤ x4 ∧ x4 ≤ (h.2 2 : Int) - 1) ∨ ¬ (0 ≤ x6 ∧ x6 ≤ 3)
  · rw [if_pos q, if_pos q]
  · rw [if_neg q, if_neg q, (r.2.1 x6.toNat (by omega)).1, (r.2.1 x6.toNat (by omega)).2]
theorem c_lay_eq {h : HH} {ρ : RR} (r : mRw ρ G) (x1 x2 x3 x4 x5 x6 : Int) : c_lay h G x1 x2 x3 x4 x5 x6 = c_woR h ρ x1 x2 x3 x4 x5 x6 := c_wor_eq r x1 x2 x3 x4 x5 x6
theorem c_wr_eq {ρ : RR} (r : mRw ρ G) (x1 x2 : Int) : c_wr G x1 x2 = c_wrR ρ x1 x2 := by
  unfold c_wr c_wrR
  by_cases q : f_wi x1 0 3 = 0
  · rw [if_pos q, if_pos q]
  · rw [if_neg q, if_neg q]
    have q2 := f_wi_1 q
    rw [(r.2.1 x1.toNat (by omega)).1, (r.2.1 x1.toNat (by omega)).2]
theorem c_woR_0 {h : HH} {ρ : RR} {x1 x2 x3 x4 x5 x6 : Int} (e : c_woR h ρ x1 x2 x3 x4 x5 x6 = 0) : (0 ≤ x6 ∧ x6 ≤ 3) ∧ (0 ≤ x5 ∧ x5 ≤ 20) ∧ ρ.1 x6.toNat ≠ -1 ∧ x5 < ρ.2.1 x6.toNat := by
  unfold c_woR at e
  simp only [f_wi0, f_co0] at e
  by_cases q1 : ¬ (-1 ≤ x4 ∧ x4 ≤ (h.2 2 : Int) - 1) ∨ ¬ (0 ≤ x6 ∧ x6 ≤ 3)
  · rw [if_pos q1] at e; cases e
  · rw [if_neg q1] at e
    by_cases q2 : ¬ ((0 ≤ x1 ∧ x1 ≤ 3) ∧ (0 ≤ x2 ∧ x2 ≤ 3) ∧ (0 ≤ x3 ∧ x3 ≤ 21)) ∨ ¬ (0 ≤ x5 ∧ x5 ≤ 20)
    · rw [if_pos q2] at e; cases e
    · rw [if_neg q2] at e
      by_cases q3 : ρ.1 x6.toNat = -1
      · rw [if_pos q3] at e; cases e
      · rw [if_neg q3] at e
        by_cases q4 : ρ.2.1 x6.toNat ≤ x5
        · rw [if_pos q4] at e; cases e
        · exact ⟨by omega, by omega, q3, by omega⟩
theorem c_woR_b {h : HH} {ρ : RR} {x1 x2 x3 x4 x5 x6 : Int} : 0 ≤ c_woR h ρ x1 x2 x3 x4 x5 x6 ∧ c_woR h ρ x1 x2 x3 x4 x5 x6 ≤ 4 := by
  unfold c_woR; split <;> first | omega | (split <;> first | omega | (split <;> first | omega | (split <;> omega)))
theorem g_worth (zc : ZC a n G) (x1 x2 x3 x4 x5 x6 : Int) : gI y_L_worth y_M_worth xI [xI x1, xI x2, xI x3, xI x4, xI x5, xI x6] a n G := by
  have hh := zc.wf
  have bb := hh.1
  refine ⟨_, _, a, l_worth (zc.asked (w_worth hh zc.2.1 zc.2.2.1 x1 x2 x3 x4 x5 x6)) c_woR_b, fun G1 zm => x_Mmono (s_worth hh zm.1.2.2.1 x1 x2 x3 x4 x5 x6) (fun r τ ⟨v, e0, V, ⟨G', e1, e2, e3⟩, e4, e5⟩ => ⟨v, e0, ?_, G', e1, ?_⟩)⟩
  · rw [e3]
    rw [c_wor_eq zm.2.1] at e4 e5
    have : V = v_woR (a.2.1 a.2.2.2.1.2.1) a.2.2.2.2 x1 x2 x3 x4 x5 x6 := by
      unfold v_woR
      by_cases c : c_woR (a.2.1 a.2.2.2.1.2.1) a.2.2.2.2 x1 x2 x3 x4 x5 x6 = 0
      · rw [if_pos c]
        obtain ⟨q1, q2, q3, q4⟩ := c_woR_0 c
        obtain ⟨S, s1, s2⟩ := e5 c
        rw [v_w_is s2]
        refine v_w_cg hh (fun m hm => ?_) (fun m p hm hp => ?_)
        · rw [s1 m hm]
          unfold f_rS rS
          rw [xl_side _ (Nat.mod_lt _ (by decide)), zm.2.1.2.2 (30 * x6.toNat + m / 16) (by omega)]
        · show decide _ = decide _
          rw [if_pos ⟨by omega, by omega⟩]
      · rw [if_neg c]; exact e4 c
    rw [this]
  · rw [← c_wor_eq zm.2.1]; exact zm.ask e2.q
theorem g_write (zc : ZC a n G) (x1 x2 x3 : Int) : gI y_L_write y_M_write xL [xI x1, xI x2, xL x3] a n G := by
  refine ⟨_, _, (a.1, a.2.1, a.2.2.1, a.2.2.2.1, rwWr a.2.2.2.2 x1 x2 x3), l_write (zc.rowed (w_write zc.2.1 zc.2.2.1 x1 x2 x3)) (by unfold c_wrR; split <;> first | omega | (split <;> first | omega | (split <;> omega))), fun G1 zm => x_Mmono (s_write zm.2.1.rows x1 x2 x3) (fun r τ ⟨v, e0, e⟩ => ⟨v, e0, ?_⟩)⟩
  rcases e with ⟨c, e1, e2⟩ | ⟨c, e1, e2⟩
  · rw [c_wr_eq zm.2.1] at c e2
    refine ⟨by rw [e1]; unfold v_wrR; rw [if_neg c], _, e2, ?_⟩
    unfold rwWr
    rw [if_neg c]
    exact zm.ask ⟨fun _ _ _ => rfl, fun _ _ => rfl⟩
  · rw [c_wr_eq zm.2.1] at c
    have q1 : 0 ≤ x1 ∧ x1 ≤ 3 := by
      unfold c_wrR at c
      exact f_wi_1 (fun z => by rw [if_pos z] at c; cases c)
    have es := (zm.2.1.2.1 x1.toNat (by omega)).1
    rw [es] at e1 e2
    refine ⟨by rw [e1]; unfold v_wrR; rw [if_pos c], _, e2, ?_⟩
    rw [c]
    obtain ⟨t1, t2, t3, t4⟩ := zm.ask (c := 0) (G' := up G1 o_M 0 0) ⟨fun _ _ _ => rfl, fun _ _ => rfl⟩
    refine ⟨fun i hi => by rw [up_cell (by show i ≠ 127; omega)]; exact t1 i hi, by rw [up_cell (by decide)]; exact t2, by rw [up_cell (by decide)]; exact t3, t4.1.same (fun j _ => by rw [up_cell (by decide)]) (fun i h1 h2 => up_cell (by show i ≠ 127; omega)), ?_, t4.2.2⟩
    unfold rwWr
    rw [if_pos c]
    refine ⟨t4.2.1.1, fun x hx => ?_, fun j hj => ?_⟩
    · rw [up_cell (by decide), up_cell (by decide)]; exact t4.2.1.2.1 x hx
    · show up (up G1 o_M 0 0) m_numbers _ _ m_numbers j = if j = 30 * x1.toNat + x2.toNat then f_cutTo (a.2.2.2.2.1 x1.toNat) x3 else a.2.2.2.2.2.2 j
      by_cases e : j = 30 * x1.toNat + x2.toNat
      · rw [if_pos e, e, up_same]
      · rw [if_neg e, up_ne e]; exact t4.2.1.2.2 j hj
theorem g_row (zc : ZC a n G) (x1 x2 x3 : Int) : gV y_L_row y_M_row [xI x1, xI x2, xI x3] a n G := by
  refine ⟨_, (a.1, a.2.1, a.2.2.1, a.2.2.2.1, rwRow a.2.2.2.2 x1 x2 x3), l_row (zc.rowed (w_row zc.2.1 zc.2.2.1 x1 x2 x3)) (by unfold c_row; split <;> first | omega | (split <;> omega)), fun G1 zm => x_Mmono (s_row G1 x1 x2 x3) (fun r τ ⟨v, e0, e1, G', e2, e3, e4, e5⟩ => ⟨v, e0, e1, G', e2, ?_⟩)⟩
  have f1 : ∀ i, i ≠ 63 → (i < 125 ∨ 127 < i) → G' i = G1 i := fun i h1 h2 => by rw [e3 i (by show i ≠ 125; omega) (by show i ≠ 126; omega) (by show i ≠ 127; omega), up_cell h1]
  have f0 : ∀ j, j ≠ 0 → G' o_M j = G1 o_M j := fun j hj => by rw [e3 _ (by decide) (by decide) (by decide), up_ne hj]
  refine ⟨fun i hi => f1 i (by omega) (by omega), f1 128 (by decide) (by decide), by rw [e3 _ (by decide) (by decide) (by decide), up_same], zm.1.same (fun j hj => f0 j (by omega)) (fun i h1 h2 => f1 i (by omega) (by omega)), ?_, by have := zm.2.2; show a.2.2.2.1.2.2 ≤ n + 1; omega⟩
  have rr := zm.2.1
  show mRw (rwRow a.2.2.2.2 x1 x2 x3) G'
  unfold rwRow
  by_cases c : c_row x1 x2 x3 = 0
  · rw [if_pos c]
    obtain ⟨g1, g2, g3⟩ := e5 c
    have q : (0 ≤ x1 ∧ x1 ≤ 3) ∧ (0 ≤ x2 ∧ x2 ≤ 3) ∧ (0 ≤ x3 ∧ x3 ≤ 30) := by
      unfold c_row at c
      simp only [f_wi0] at c
      by_cases q1 : ¬ (0 ≤ x1 ∧ x1 ≤ 3)
      · rw [if_pos q1] at c; cases c
      · rw [if_neg q1] at c
        by_cases q2 : ¬ (0 ≤ x2 ∧ x2 ≤ 3) ∨ ¬ (0 ≤ x3 ∧ x3 ≤ 30)
        · rw [if_pos q2] at c; cases c
        · omega
    refine ⟨fun x hx => ?_, fun x hx => ?_, fun j hj => ?_⟩
    · have := rr.1 x hx
      show -1 ≤ (if x = x1.toNat then x2 else a.2.2.2.2.1 x) ∧ (if x = x1.toNat then x2 else a.2.2.2.2.1 x) ≤ 3 ∧ 0 ≤ (if x = x1.toNat then x3 else a.2.2.2.2.2.1 x) ∧ (if x = x1.toNat then x3 else a.2.2.2.2.2.1 x) ≤ 30
      by_cases e : x = x1.toNat
      · simp only [if_pos e]; omega
      · simp only [if_neg e]; omega
    · have := rr.2.1 x hx
      rw [g1, g2]
      show (if x = x1.toNat then x2 else G1 m_rSort x) = (if x = x1.toNat then x2 else a.2.2.2.2.1 x) ∧ (if x = x1.toNat then x3 else G1 m_rMany x) = (if x = x1.toNat then x3 else a.2.2.2.2.2.1 x)
      rw [this.1, this.2]
      exact ⟨rfl, rfl⟩
    · rw [g3, rr.2.2 j hj]
  · rw [if_neg c]
    obtain ⟨g1, g2, g3⟩ := e4 c
    exact ⟨rr.1, fun x hx => by rw [g1, g2]; exact rr.2.1 x hx, fun j hj => by rw [g3]; exact rr.2.2 j hj⟩
theorem g_lay (zc : ZC a n G) (x1 x2 x3 x4 x5 x6 : Int) : gI y_L_lay y_M_lay xI [xI x1, xI x2, xI x3, xI x4, xI x5, xI x6] a n G := by
  have hh := zc.wf
  refine ⟨_, _, (a.1, a.2.1, a.2.2.1, a.2.2.2.1, rwLay (a.2.1 a.2.2.2.1.2.1) a.2.2.2.2 x1 x2 x3 x4 x5 x6), l_lay (zc.rowed (w_lay hh zc.2.1 zc.2.2.1 x1 x2 x3 x4 x5 x6)) c_woR_b, fun G1 zm => x_Mmono (s_lay hh zm.1.2.2.1 zm.2.1.rows x1 x2 x3 x4 x5 x6) (fun r τ ⟨v, e0, e⟩ => ⟨v, e0, ?_⟩)⟩
  rcases e with ⟨c, e1, e2⟩ | ⟨c, e1, G2, G3, e2, f2, f3, f4⟩
  · rw [c_lay_eq zm.2.1] at c e2
    refine ⟨by rw [e1]; unfold v_layR; rw [if_neg c], _, e2, ?_⟩
    unfold rwLay
    rw [if_neg c]
    exact zm.ask ⟨fun _ _ _ => rfl, fun _ _ => rfl⟩
  · rw [c_lay_eq zm.2.1] at c
    obtain ⟨q1, q2, q3, q4⟩ := c_woR_0 c
    have es := (zm.2.1.2.1 x6.toNat (by omega)).1
    refine ⟨by rw [e1]; unfold v_layR; rw [if_pos c], G3, e2, ?_⟩
    rw [c]
    obtain ⟨t1, t2, t3, t4⟩ := zm.ask f2.q
    refine ⟨fun i hi => by rw [f3 i (by show i ≠ 127; omega)]; exact t1 i hi, by rw [f3 _ (by decide)]; exact t2, by rw [f3 _ (by decide)]; exact t3, t4.1.same (fun j _ => by rw [f3 _ (by decide)]) (fun i h1 h2 => f3 i (by show i ≠ 127; omega)), ?_, t4.2.2⟩
    unfold rwLay
    rw [if_pos c]
    refine ⟨t4.2.1.1, fun x hx => ?_, fun j hj => ?_⟩
    · rw [f3 _ (by decide), f3 _ (by decide)]; exact t4.2.1.2.1 x hx
    · rw [f4 j, es, zm.2.1.2.2 j hj]
end GR
