/-! the class: the log of acts -/
/-- one act: table, and the row that is changed, or -1 where one is added -/
def stp (h h' : HH) (a : Nat × Int) : Prop := a.1 < 10 ∧ ((a.2 = -1 ∧ h.2 a.1 < lim a.1 ∧ (∀ T, h'.2 T = if T = a.1 then h.2 T + 1 else h.2 T) ∧ (∀ T r c, ¬ (T = a.1 ∧ r = h.2 a.1) → h'.1 T r c = h.1 T r c)) ∨ (∃ r : Nat, a.2 = r ∧ r < h.2 a.1 ∧ (∀ T, h'.2 T = h.2 T) ∧ ∀ T r' c, ¬ (T = a.1 ∧ r' = r) → h'.1 T r' c = h.1 T r' c))
theorem stp.le {h h' : HH} {a : Nat × Int} (x : stp h h' a) (T : Nat) : h.2 T ≤ h'.2 T := by
  rcases x.2 with ⟨_, _, x1, _⟩ | ⟨r, _, _, x1, _⟩
  · rw [x1 T]; split <;> omega
  · rw [x1 T]; exact Nat.le_refl _
def cHist (hs : Nat → HH) (ds : Nat → Nat × Int) (base done logged : Nat) : Prop := (base ≤ done ∧ done ≤ logged ∧ logged ≤ base + 100) ∧ (∀ i, i ≤ logged → Hwf (hs i) ∧ (hs i).2 9 = 1) ∧ ∀ i, i < logged → stp (hs i) (hs (i + 1)) (ds i)
theorem cHist.le {hs : Nat → HH} {ds : Nat → Nat × Int} {base done logged : Nat} (x : cHist hs ds base done logged) (T : Nat) {i : Nat} : ∀ j, i ≤ j → j ≤ logged → (hs i).2 T ≤ (hs j).2 T
  | 0, h1, _ => by rw [show i = 0 by omega]; exact Nat.le_refl _
  | j + 1, h1, h2 => by
    by_cases e : i = j + 1
    · rw [e]; exact Nat.le_refl _
    · exact Nat.le_trans (cHist.le x T j (by omega) (by omega)) ((x.2.2 j (by omega)).le T)
def sl (ol base i : Nat) : Nat := (ol + (i - base)) % 100
theorem sl_lt (ol base i : Nat) : sl ol base i < 100 := Nat.mod_lt _ (by decide)
theorem sl_ne {ol base i j : Nat} (h1 : base ≤ i) (h2 : base ≤ j) (h3 : i < base + 100) (h4 : j < base + 100) (h : i ≠ j) : sl ol base i ≠ sl ol base j := by
  unfold sl; omega
def cRing (hs : Nat → HH) (ds : Nat → Nat × Int) (base done logged ol : Nat) (G : Nat → Nat → Int) : Prop := ∀ i, base ≤ i → i < logged → G ac_tables (sl ol base i) = ((6 + 2 * (ds i).1 : Nat) : Int) + 1 ∧ G ac_changed (sl ol base i) = (ds i).2 ∧ (0 ≤ (ds i).2 → ∀ c, c < 6 → G ac_kept (6 * sl ol base i + c) = (hs (if i < done then i else i + 1)).1 (ds i).1 (ds i).2.toNat c)
def cLate (hs : Nat → HH) (ds : Nat → Nat × Int) (done logged : Nat) (G : Nat → Nat → Int) : Prop := ∀ i, done ≤ i → i < logged → (ds i).2 = -1 → ∀ c, c < 6 → G (7 + 2 * (ds i).1) (6 * (hs i).2 (ds i).1 + c) = (hs (i + 1)).1 (ds i).1 ((hs i).2 (ds i).1) c
def cLogB (hs : Nat → HH) (ds : Nat → Nat × Int) (base done logged ol : Nat) (G : Nat → Nat → Int) : Prop := cHist hs ds base done logged ∧ fRep (hs done) G ∧ cRing hs ds base done logged ol G ∧ cLate hs ds done logged G
section CLg
variable {hs : Nat → HH} {ds : Nat → Nat × Int} {base k logged ol : Nat} {G : Nat → Nat → Int}
theorem cLogB.same {done : Nat} {G' : Nat → Nat → Int} (x : cLogB hs ds base done logged ol G) (e : ∀ i, 2 ≤ i → i < 26 → G' i = G i) : cLogB hs ds base done logged ol G' := by
  refine ⟨x.1, x.2.1.same (fun i h1 h2 => e i (by omega) h2), fun i h1 h2 => ?_, fun i h1 h2 h3 c hc => ?_⟩
  · rw [e ac_tables (by decide) (by decide), e ac_changed (by decide) (by decide), e ac_kept (by decide) (by decide)]
    exact x.2.2.1 i h1 h2
  · have hT := (x.1.2.2 i h2).1
    rw [e _ (by omega) (by omega)]
    exact x.2.2.2 i h1 h2 h3 c hc
theorem swG_q {q r s c : Nat} (hq : q ≠ ac_kept) (hc : c < 6) : swG G q r s q (6 * r + c) = G ac_kept (6 * s + c) := by
  unfold swG putRow
  rw [if_neg (fun z => hq z.1), if_pos ⟨rfl, by omega, by omega⟩, show 6 * r + c - 6 * r = c by omega]
theorem swG_q' {q r s j : Nat} (hq : q ≠ ac_kept) (hj : ¬ (6 * r ≤ j ∧ j < 6 * r + 6)) : swG G q r s q j = G q j := by
  unfold swG putRow
  rw [if_neg (fun z => hq z.1), if_neg (fun z => hj z.2)]
theorem swG_k {q r s c : Nat} (hc : c < 6) : swG G q r s ac_kept (6 * s + c) = G q (6 * r + c) := by
  unfold swG putRow
  rw [if_pos ⟨rfl, by omega, by omega⟩, show 6 * s + c - 6 * s = c by omega]
theorem swG_k' {q r s j : Nat} (hq : q ≠ ac_kept) (hj : ¬ (6 * s ≤ j ∧ j < 6 * s + 6)) : swG G q r s ac_kept j = G ac_kept j := by
  unfold swG putRow
  rw [if_neg (fun z => hj z.2), if_neg (fun z => hq z.1.symm)]
theorem swG_o {q r s i : Nat} (h1 : i ≠ q) (h2 : i ≠ ac_kept) : swG G q r s i = G i := by
  funext j
  unfold swG putRow
  rw [if_neg (fun z => h2 z.1), if_neg (fun z => h1 z.1)]
theorem k2 : ∀ T : Nat, 7 + 2 * T ≠ ac_kept := fun T => by show 7 + 2 * T ≠ 4; omega
theorem cLogB.back (x : cLogB hs ds base (k + 1) logged ol G) (hk : base ≤ k) : cLogB hs ds base k logged ol (toG G (6 + 2 * (ds k).1) (7 + 2 * (ds k).1) (sl ol base k) false) := by
  obtain ⟨hist, rep, ring, late⟩ := x
  have hb := hist.1
  have st := hist.2.2 k (by omega)
  have rk := ring k hk (by omega)
  have nk := k2 (ds k).1
  have hist' : cHist hs ds base k logged := ⟨by omega, hist.2⟩
  have T10 := st.1
  rcases st.2 with ⟨s1, s2, s3, s4⟩ | ⟨r, s1, s2, s3, s4⟩
  · have e : toG G (6 + 2 * (ds k).1) (7 + 2 * (ds k).1) (sl ol base k) false = up G (6 + 2 * (ds k).1) 2 (G (6 + 2 * (ds k).1) 2 - 1) := by
      unfold toG; rw [if_pos (by rw [rk.2.1]; exact s1), if_neg (by decide)]
    rw [e]
    refine ⟨hist', ⟨(hist.2.1 k (by omega)).2, fun T hT => ⟨?_, fun r hr c hc => ?_⟩⟩, fun i h1 h2 => ?_, fun i h1 h2 h3 c hc => ?_⟩
    · have rT := (rep.2 T hT).1
      rw [s3 T] at rT
      by_cases e1 : T = (ds k).1
      · subst e1
        rw [if_pos rfl] at rT
        rw [up_same, rT]; omega
      · rw [if_neg e1] at rT
        rw [up_cell (by omega)]; exact rT
    · rw [up_cell (by omega)]
      have hr' : r < (hs (k + 1)).2 T := by have := (hist.2.2 k (by omega)).le T; omega
      rw [(rep.2 T hT).2 r hr' c hc, s4 T r c (fun z => by rw [z.1] at hr; omega)]
    · rw [up_cell (show ac_tables ≠ 6 + 2 * (ds k).1 by show 2 ≠ _; omega), up_cell (show ac_changed ≠ 6 + 2 * (ds k).1 by show 3 ≠ _; omega), up_cell (show ac_kept ≠ 6 + 2 * (ds k).1 by show 4 ≠ _; omega)]
      have ri := ring i h1 h2
      refine ⟨ri.1, ri.2.1, fun h0 c hc => ?_⟩
      rw [ri.2.2 h0 c hc]
      by_cases e1 : i = k
      · rw [e1, s1] at h0; omega
      · by_cases e2 : i < k
        · rw [if_pos e2, if_pos (by omega)]
        · rw [if_neg e2, if_neg (by omega)]
    · rw [up_cell (by omega)]
      by_cases e1 : i = k
      · subst e1
        rw [(rep.2 (ds i).1 T10).2 _ (by rw [s3, if_pos rfl]; omega) c hc]
      · exact late i (by omega) h2 h3 c hc
  · have e : toG G (6 + 2 * (ds k).1) (7 + 2 * (ds k).1) (sl ol base k) false = swG G (7 + 2 * (ds k).1) r (sl ol base k) := by
      unfold toG; rw [if_neg (by rw [rk.2.1]; omega), rk.2.1, s1, Int.toNat_natCast]
    rw [e]
    have kk := rk.2.2 (by omega)
    rw [if_pos (by omega), s1, Int.toNat_natCast] at kk
    refine ⟨hist', ⟨(hist.2.1 k (by omega)).2, fun T hT => ⟨?_, fun r' hr c hc => ?_⟩⟩, fun i h1 h2 => ?_, fun i h1 h2 h3 c hc => ?_⟩
    · rw [swG_o (by omega) (by show 6 + 2 * T ≠ 4; omega), (rep.2 T hT).1, s3]
    · by_cases e1 : T = (ds k).1
      · subst e1
        by_cases e2 : r' = r
        · subst e2
          rw [swG_q nk hc]; exact kk c hc
        · rw [swG_q' nk (by omega), (rep.2 _ hT).2 r' (by rw [s3]; exact hr) c hc, s4 _ _ _ (fun z => e2 z.2)]
      · rw [swG_o (by omega) (k2 T), (rep.2 T hT).2 r' (by rw [s3]; exact hr) c hc, s4 _ _ _ (fun z => e1 z.1)]
    · rw [swG_o (show ac_tables ≠ 7 + 2 * (ds k).1 by show 2 ≠ _; omega) (by decide), swG_o (show ac_changed ≠ 7 + 2 * (ds k).1 by show 3 ≠ _; omega) (by decide)]
      have ri := ring i h1 h2
      refine ⟨ri.1, ri.2.1, fun h0 c hc => ?_⟩
      by_cases e1 : i = k
      · subst e1
        rw [swG_k hc, if_neg (by omega), s1, Int.toNat_natCast]
        exact (rep.2 _ T10).2 r (by rw [s3]; exact s2) c hc
      · have := sl_ne (ol := ol) h1 hk (by omega) (by omega) e1
        rw [swG_k' nk (by omega), ri.2.2 h0 c hc]
        by_cases e2 : i < k
        · rw [if_pos e2, if_pos (by omega)]
        · rw [if_neg e2, if_neg (by omega)]
    · have e1 : i ≠ k := fun z => by rw [z, s1] at h3; omega
      have l := late i (by omega) h2 h3 c hc
      by_cases e2 : (ds i).1 = (ds k).1
      · have := hist.le (ds k).1 (i := k) i (by omega) (by omega)
        rw [← l, e2, swG_q' nk (by omega)]
      · rw [swG_o (by omega) (k2 _)]; exact l
theorem cLogB.forth (x : cLogB hs ds base k logged ol G) (hk : k < logged) : cLogB hs ds base (k + 1) logged ol (toG G (6 + 2 * (ds k).1) (7 + 2 * (ds k).1) (sl ol base k) true) := by
  obtain ⟨hist, rep, ring, late⟩ := x
  have hb := hist.1
  have st := hist.2.2 k (by omega)
  have rk := ring k hb.1 (by omega)
  have nk := k2 (ds k).1
  have hist' : cHist hs ds base (k + 1) logged := ⟨by omega, hist.2⟩
  have T10 := st.1
  rcases st.2 with ⟨s1, s2, s3, s4⟩ | ⟨r, s1, s2, s3, s4⟩
  · have e : toG G (6 + 2 * (ds k).1) (7 + 2 * (ds k).1) (sl ol base k) true = up G (6 + 2 * (ds k).1) 2 (G (6 + 2 * (ds k).1) 2 + 1) := by
      unfold toG; rw [if_pos (by rw [rk.2.1]; exact s1), if_pos rfl]
    rw [e]
    refine ⟨hist', ⟨(hist.2.1 (k + 1) (by omega)).2, fun T hT => ⟨?_, fun r hr c hc => ?_⟩⟩, fun i h1 h2 => ?_, fun i h1 h2 h3 c hc => ?_⟩
    · have rT := (rep.2 T hT).1
      rw [s3 T]
      by_cases e1 : T = (ds k).1
      · subst e1
        rw [if_pos rfl, up_same, rT]; omega
      · rw [if_neg e1, up_cell (by omega)]; exact rT
    · rw [up_cell (by omega)]
      by_cases e1 : T = (ds k).1 ∧ r = (hs k).2 (ds k).1
      · obtain ⟨rfl, rfl⟩ := e1
        exact late k (Nat.le_refl _) hk s1 c hc
      · rw [s4 T r c e1]
        rw [s3 T] at hr
        refine (rep.2 T hT).2 r ?_ c hc
        by_cases e2 : T = (ds k).1
        · rw [if_pos e2] at hr
          have : r ≠ (hs k).2 (ds k).1 := fun z => e1 ⟨e2, z⟩
          rw [← e2] at this
          omega
        · rw [if_neg e2] at hr; exact hr
    · rw [up_cell (show ac_tables ≠ 6 + 2 * (ds k).1 by show 2 ≠ _; omega), up_cell (show ac_changed ≠ 6 + 2 * (ds k).1 by show 3 ≠ _; omega), up_cell (show ac_kept ≠ 6 + 2 * (ds k).1 by show 4 ≠ _; omega)]
      have ri := ring i h1 h2
      refine ⟨ri.1, ri.2.1, fun h0 c hc => ?_⟩
      rw [ri.2.2 h0 c hc]
      by_cases e1 : i = k
      · rw [e1, s1] at h0; omega
      · by_cases e2 : i < k
        · rw [if_pos e2, if_pos (by omega)]
        · rw [if_neg e2, if_neg (by omega)]
    · rw [up_cell (by omega)]
      exact late i (by omega) h2 h3 c hc
  · have e : toG G (6 + 2 * (ds k).1) (7 + 2 * (ds k).1) (sl ol base k) true = swG G (7 + 2 * (ds k).1) r (sl ol base k) := by
      unfold toG; rw [if_neg (by rw [rk.2.1]; omega), rk.2.1, s1, Int.toNat_natCast]
    rw [e]
    have kk := rk.2.2 (by omega)
    rw [if_neg (by omega), s1, Int.toNat_natCast] at kk
    refine ⟨hist', ⟨(hist.2.1 (k + 1) (by omega)).2, fun T hT => ⟨?_, fun r' hr c hc => ?_⟩⟩, fun i h1 h2 => ?_, fun i h1 h2 h3 c hc => ?_⟩
    · rw [swG_o (by omega) (by show 6 + 2 * T ≠ 4; omega), (rep.2 T hT).1, s3]
    · by_cases e1 : T = (ds k).1
      · subst e1
        by_cases e2 : r' = r
        · subst e2
          rw [swG_q nk hc]; exact kk c hc
        · rw [swG_q' nk (by omega), (rep.2 _ hT).2 r' (by rw [← s3]; exact hr) c hc, s4 _ _ _ (fun z => e2 z.2)]
      · rw [swG_o (by omega) (k2 T), (rep.2 T hT).2 r' (by rw [← s3]; exact hr) c hc, s4 _ _ _ (fun z => e1 z.1)]
    · rw [swG_o (show ac_tables ≠ 7 + 2 * (ds k).1 by show 2 ≠ _; omega) (by decide), swG_o (show ac_changed ≠ 7 + 2 * (ds k).1 by show 3 ≠ _; omega) (by decide)]
      have ri := ring i h1 h2
      refine ⟨ri.1, ri.2.1, fun h0 c hc => ?_⟩
      by_cases e1 : i = k
      · subst e1
        rw [swG_k hc, if_pos (by omega), s1, Int.toNat_natCast]
        exact (rep.2 _ T10).2 r s2 c hc
      · have := sl_ne (ol := ol) h1 hb.1 (by omega) (by omega) e1
        rw [swG_k' nk (by omega), ri.2.2 h0 c hc]
        by_cases e2 : i < k
        · rw [if_pos e2, if_pos (by omega)]
        · rw [if_neg e2, if_neg (by omega)]
    · have l := late i (by omega) h2 h3 c hc
      by_cases e2 : (ds i).1 = (ds k).1
      · have := hist.le (ds k).1 (i := k) i (by omega) (by omega)
        rw [← l, e2, swG_q' nk (by omega)]
      · rw [swG_o (by omega) (k2 _)]; exact l
end CLg
