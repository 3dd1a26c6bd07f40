/-! the class's face: what an asking call answers -/
theorem f_wi0 (a b c : Int) : f_wi a b c = 0 ↔ ¬ (b ≤ a ∧ a ≤ c) := by
  unfold f_wi
  by_cases z : b ≤ a ∧ a ≤ c
  · rw [if_pos z]; exact ⟨fun q => absurd q (by decide), fun q => absurd z q⟩
  · rw [if_neg z]; exact ⟨fun _ => z, fun _ => rfl⟩
theorem f_wi1 (a b c : Int) : f_wi a b c = 1 ↔ (b ≤ a ∧ a ≤ c) := by
  unfold f_wi
  by_cases z : b ≤ a ∧ a ≤ c
  · rw [if_pos z]; exact ⟨fun _ => z, fun _ => rfl⟩
  · rw [if_neg z]; exact ⟨fun q => absurd q (by decide), fun q => absurd q z⟩
theorem f_co0 (a b c : Int) : f_co a b c = 0 ↔ ¬ ((0 ≤ a ∧ a ≤ 3) ∧ (0 ≤ b ∧ b ≤ 3) ∧ (0 ≤ c ∧ c ≤ 21)) := by
  unfold f_co
  simp only [f_wi1]
  by_cases z : (0 ≤ a ∧ a ≤ 3) ∧ (0 ≤ b ∧ b ≤ 3) ∧ (0 ≤ c ∧ c ≤ 21)
  · rw [if_pos z]; exact ⟨fun q => absurd q (by decide), fun q => absurd z q⟩
  · rw [if_neg z]; exact ⟨fun _ => z, fun _ => rfl⟩
def cBk (G : Nat → Nat → Int) : Prop := ∀ m' q, m' ≤ 20 → q < 8 → 0 ≤ g8 G cr_back m' q ∧ g8 G cr_back m' q ≤ 1000000
/-- the class's memory between two calls, log and rows aside -/
def cF (h : HH) (G : Nat → Nat → Int) : Prop := cQ h G ∧ cBk G
def kFrame (G G' : Nat → Nat → Int) : Prop := ∀ i, (i < 26 ∨ 59 ≤ i) → G' i = G i
def kF (G G' : Nat → Nat → Int) : Prop := ∀ i, (i < 26 ∨ i = 54 ∨ 59 ≤ i) → G' i = G i
theorem kFrame.rf (G : Nat → Nat → Int) : kFrame G G := fun _ _ => rfl
theorem kFrame.tr {G1 G2 G3 : Nat → Nat → Int} (a : kFrame G1 G2) (b : kFrame G2 G3) : kFrame G1 G3 := fun i h => (b i h).trans (a i h)
theorem kF.rf (G : Nat → Nat → Int) : kF G G := fun _ _ => rfl
theorem kF.tr {G1 G2 G3 : Nat → Nat → Int} (a : kF G1 G2) (b : kF G2 G3) : kF G1 G3 := fun i h => (b i h).trans (a i h)
theorem sFrame.k {G G' : Nat → Nat → Int} (f : sFrame G G') : kF G G' := fun i h => f i (by show i < 26 ∨ 36 < i; omega)
theorem eFrame.k {G G' : Nat → Nat → Int} (f : eFrame G G') : kF G G' := fun i h => f i (by show i < 38 ∨ 45 < i; omega)
theorem oFrame.k {G G' : Nat → Nat → Int} (f : oFrame G G') : kF G G' := fun i h => f i (by show i < 26 ∨ 45 < i; omega) (by show i ≠ 49; omega) (by show i ≠ 50; omega)
theorem rFrame.k {G G' : Nat → Nat → Int} (f : rFrame G G') : kF G G' := fun i h => f i (by show i < 26 ∨ 45 < i; omega) (by show i ≠ 49; omega) (by show i ≠ 50; omega) (by show i ≠ 51; omega)
theorem wFrame.k {G G' : Nat → Nat → Int} (f : wFrame G G') : kF G G' := fun i h => f i (by show i < 26 ∨ 36 < i; omega) (by show i ≠ 47; omega)
theorem zFrame.k {G G' : Nat → Nat → Int} (f : zFrame G G') : kF G G' := fun i h => f i (by show i < 26 ∨ 45 < i; omega)
theorem kF.f {G G' : Nat → Nat → Int} (f : kF G G') : kFrame G G' := fun i h => f i (by omega)
theorem cBk.k {G G' : Nat → Nat → Int} (b : cBk G) (f : kF G G') : cBk G' := fun m q h1 h2 => by
  have := b m q h1 h2
  unfold g8 at this ⊢
  rw [f 54 (by decide)]
  exact this
/-- a call of the face that asks: it throws by the code, else it answers v; the house, the log, the rows are as before -/
def wAns (h : HH) (G : Nat → Nat → Int) (E : Int → String) (code : Int) (v : Option XV) : XRes → XM → Prop := fun r τ => ∃ G', τ = (S0, G') ∧ kFrame G G' ∧ cF h G' ∧ ((code = 0 ∧ r = .inl v) ∨ (code ≠ 0 ∧ r = .inr (E code)))
theorem wAns.no {h : HH} {G : Nat → Nat → Int} {E : Int → String} {C n : Int} {v : Option XV} {X : String} (q : cF h G) (e : C = n) (hn : n ≠ 0) (hE : E n = X) : wAns h G E C v (.inr X) (S0, G) :=
  ⟨G, rfl, kFrame.rf G, q, Or.inr ⟨by rw [e]; exact hn, by rw [e, hE]⟩⟩
theorem wAns.ok {h : HH} {G G' : Nat → Nat → Int} {E : Int → String} {C : Int} {v : Option XV} (b : cBk G) (f : kF G G') (q : cQ h G') (e : C = 0) : wAns h G E C v (.inl v) (S0, G') :=
  ⟨G', rfl, f.f, ⟨q, b.k f⟩, Or.inl ⟨e, rfl⟩⟩
def eA (_ : Int) : String := E_IA
def eN (_ : Int) : String := E_NS
def eNA (c : Int) : String := if c = 1 then E_NS else E_IA
def eSA (c : Int) : String := if c = 1 then E_IS else E_IA
def eNASB (c : Int) : String := if c = 1 then E_NS else if c = 2 then E_IA else if c = 3 then E_IS else E_IB
def eNSB (c : Int) : String := if c = 1 then E_NS else if c = 2 then E_IS else E_IB
theorem fi_of {n : Nat} {f : Int} (h : -1 ≤ f ∧ f < n) (hn : n ≤ 4) : ∃ fi : Nat, fi < 5 ∧ f = f_fi fi ∧ (fi < n ∨ fi = 4) := by
  by_cases e : f = -1
  · exact ⟨4, by decide, by rw [e]; rfl, Or.inr rfl⟩
  · refine ⟨f.toNat, by omega, ?_, Or.inl (by omega)⟩
    unfold f_fi
    rw [if_neg (by omega)]
    omega
theorem wM.k {h : HH} {pl : Int} {G G' : Nat → Nat → Int} (w : wM h pl G) (f : rFrame G G') : wM h pl G' := fun fi hfi m hm => by
  rw [f wa_marked (by decide) (by decide) (by decide) (by decide)]
  exact w fi hfi m hm
theorem f_sh_s {h : HH} {c : CC} {G : Nat → Nat → Int} (s : fSmoke h c G) (hh : Hwf h) : ∀ m p, m ≤ 20 → p < h.2 0 → shS h G m p = f_sh h c m p := fun m p hm hp => f_sh_c s m p hm (Nat.lt_of_lt_of_le hp hh.1.1)
theorem cQ.off {h : HH} {G G' : Nat → Nat → Int} (q : cQ h G) (f : ∀ i, i < 52 → G' i = G i) : cQ h G' :=
  ⟨q.1.same (fun i _ h2 => f i (by omega)), q.2.1.same (fun i _ h2 => f i (by have : i ≤ 36 := h2; omega)) (f _ (by decide)), q.2.2.same (f _ (by decide)) (f _ (by decide)) (f _ (by decide))⟩
theorem cQ.crew {h : HH} {G G' : Nat → Nat → Int} (q : cQ h G) (f : ∀ i, i ≠ cr_there → i ≠ cr_back → G' i = G i) : cQ h G' := q.off (fun i hi => f i (by show i ≠ 53; omega) (by show i ≠ 54; omega))
theorem cQ.pers {h : HH} {G G' : Nat → Nat → Int} (q : cQ h G) (f : ∀ i, i ≠ pe_doses → i ≠ pe_outs → i ≠ pe_deeds → G' i = G i) : cQ h G' := q.off (fun i hi => f i (by show i ≠ 56; omega) (by show i ≠ 57; omega) (by show i ≠ 58; omega))
