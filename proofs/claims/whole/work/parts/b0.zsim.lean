/-! class and reference side by side: one abstract state for both -/
theorem x_Mmono {y : XY} {as : List XV} {σ : XM} {Q Q' : XRes → XM → Prop} (h : x_M y as σ Q) (hq : ∀ r τ, Q r τ → Q' r τ) : x_M y as σ Q' := fun h1 h3 l D aa sz hl =>
  MetFree.mono (h h1 h3 l D aa sz hl) (fun _ _ z => z) (fun _ _ _ _ _ z => z) (fun _ _ _ _ _ z => z.imp (fun ⟨⟨v, τ, aa', e1, e2, e3⟩, L⟩ => ⟨⟨v, τ, aa', e1, hq _ _ e2, e3⟩, L⟩) (fun ⟨q, e1, E, ce, L, ⟨τ, aa', e2, e3⟩, e4⟩ => ⟨q, e1, E, ce, L, ⟨τ, aa', hq _ _ e2, e3⟩, e4⟩))
/-- records, houses, acts of the class, base, done, logged, rows -/
abbrev AB : Type := (Nat → Nat → Int) × (Nat → HH) × (Nat → Nat × Int) × (Nat × Nat × Nat) × RR
def mRw (ρ : RR) (G : Nat → Nat → Int) : Prop := okRw ρ ∧ (∀ x, x < 4 → G m_rSort x = ρ.1 x ∧ G m_rMany x = ρ.2.1 x) ∧ ∀ j, j < 120 → G m_numbers j = ρ.2.2 j
def ZC (a : AB) (n : Nat) (G : Nat → Nat → Int) : Prop := cLog a.2.1 a.2.2.1 a.2.2.2.1.1 a.2.2.2.1.2.1 a.2.2.2.1.2.2 G ∧ cF (a.2.1 a.2.2.2.1.2.1) G ∧ cRw a.2.2.2.2 G ∧ G o_Ac 6 ≤ n
def ZM (a : AB) (n : Nat) (G : Nat → Nat → Int) : Prop := mLog a.1 a.2.1 a.2.2.2.1.1 a.2.2.2.1.2.1 a.2.2.2.1.2.2 G ∧ mRw a.2.2.2.2 G ∧ a.2.2.2.1.2.2 ≤ n
section ZZ
variable {a : AB} {n : Nat} {G G' : Nat → Nat → Int}
theorem cLog.same {hs : Nat → HH} {ds : Nat → Nat × Int} {base k logged : Nat} (x : cLog hs ds base k logged G) (e : ∀ i, i < 26 → G' i = G i) : cLog hs ds base k logged G' := by
  obtain ⟨ol, h1, h2, h3, h4, h5⟩ := x
  refine ⟨ol, h1, ?_, ?_, ?_, h5.same (fun i _ h => e i h)⟩
  · rw [e o_Ac (by decide)]; exact h2
  · rw [e o_Ac (by decide)]; exact h3
  · rw [e o_Ac (by decide)]; exact h4
theorem ZC.same (z : ZC a n G) (e : ∀ i, i < 63 → G' i = G i) : ZC a n G' :=
  ⟨z.1.same (fun i h => e i (by omega)), ⟨z.2.1.1.off (fun i h => e i (by omega)), z.2.1.2.b (e 54 (by decide))⟩, z.2.2.1.same (fun i _ h => e i (by omega)), by rw [e o_Ac (by decide)]; exact z.2.2.2⟩
theorem ZC.wf (z : ZC a n G) : Hwf (a.2.1 a.2.2.2.1.2.1) := z.1.get.1.1
theorem ZC.up (z : ZC a n G) : ZC a (n + 1) G := ⟨z.1, z.2.1, z.2.2.1, by have := z.2.2.2; omega⟩
theorem ZC.ask (z : ZC a n G) (f : kFrame G G') (q : cF (a.2.1 a.2.2.2.1.2.1) G') : ZC a (n + 1) G' :=
  ⟨z.1.same (fun i h => f i (Or.inl h)), q, z.2.2.1.same (fun i h _ => f i (Or.inr h)), by rw [f o_Ac (by decide)]; have := z.2.2.2; omega⟩
theorem ZC.ver (z : ZC a n G) (hn : n ≤ 600) : 0 ≤ G o_Ac 6 ∧ G o_Ac 6 ≤ 100000 := by
  have := z.2.1.1.2.2.1
  omega
/-- behind an act, told or taken back: the version is another, so nothing that was worked out is used -/
theorem ZC.step {a' : AB} (z : ZC a n G) (hn : n ≤ 600) (x : cLog a'.2.1 a'.2.2.1 a'.2.2.2.1.1 a'.2.2.2.1.2.1 a'.2.2.2.1.2.2 G') (e6 : G' o_Ac 6 = G o_Ac 6 + 1) (f : ∀ i, 26 ≤ i → G' i = G i) (er : a'.2.2.2.2 = a.2.2.2.2) : ZC a' (n + 1) G' := by
  obtain ⟨z1, ⟨⟨q1, q2, q3⟩, q4⟩, z3, z4⟩ := z
  have e1 : G' o_Sm = G o_Sm := f _ (by decide)
  have e2 : G' tu_stamps = G tu_stamps := f _ (by decide)
  refine ⟨x, ⟨⟨x.get.2, ⟨?_, fun h => ?_⟩, ⟨?_, fun j hj => ?_, fun fi b e t y hfi hb he ht hy h => ?_⟩⟩, q4.b (f 54 (by decide))⟩, ?_, ?_⟩
  · rw [e1, e6]; have := q2.1; omega
  · rw [e1, e6] at h; have := q2.1; omega
  · rw [e6]; have := q3.1; omega
  · rw [e2, e6]; have := q3.2.1 j hj; omega
  · rw [e2, e6] at h
    have := q3.2.1 (16 * fi + 4 * b + e) (by omega)
    omega
  · rw [er]; exact z3.same (fun i h _ => f i (by omega))
  · rw [e6]; omega
theorem mLog.same {R : Nat → Nat → Int} {hs : Nat → HH} {base k logged : Nat} (x : mLog R hs base k logged G) (e0 : ∀ j, (1 ≤ j ∧ j ≤ 14) ∨ (50 ≤ j ∧ j ≤ 52) → G' o_M j = G o_M j) (e : ∀ i, 63 < i → i < 99 → G' i = G i) : mLog R hs base k logged G' := by
  obtain ⟨h1, h2, h3, h4, h5, h6⟩ := x
  refine ⟨h1, fun i hi j hj => ?_, h3.same (fun j g1 g2 => e0 j (Or.inl ⟨g1, g2⟩)) (fun i g1 g2 => e i (by have : 64 ≤ i := g1; omega) (by have : i ≤ 97 := g2; omega)), ?_, ?_, ?_⟩
  · rw [e m_acts (by decide) (by decide)]; exact h2 i hi j hj
  · rw [e0 50 (by omega)]; exact h4
  · rw [e0 51 (by omega)]; exact h5
  · rw [e0 52 (by omega)]; exact h6
theorem mRw.same {ρ : RR} (r : mRw ρ G) (e : ∀ i, 125 ≤ i → i < 128 → G' i = G i) : mRw ρ G' := by
  refine ⟨r.1, fun x hx => ?_, fun j hj => ?_⟩
  · rw [e m_rSort (by decide) (by decide), e m_rMany (by decide) (by decide)]; exact r.2.1 x hx
  · rw [e m_numbers (by decide) (by decide)]; exact r.2.2 j hj
theorem mRw.rows {ρ : RR} (r : mRw ρ G) : mRows G := fun x hx => by
  have := r.1 x hx
  have := r.2.1 x hx
  omega
theorem ZM.same (z : ZM a n G) (e : ∀ i, 63 ≤ i → i < 128 → G' i = G i) : ZM a n G' :=
  ⟨z.1.same (fun j _ => by rw [e o_M (by decide) (by decide)]) (fun i h1 h2 => e i (by omega) (by omega)), z.2.1.same (fun i h1 h2 => e i (by omega) h2), z.2.2⟩
theorem bFrame.q (f : bFrame G G') : qFrame G G' := ⟨fun i h1 h2 => f.1 i h1 (by have h2 : i < 99 ∨ 124 < i := h2; show i < 99 ∨ 113 < i; omega), f.2⟩
/-- what a call of the reference leaves: the class's cells, the law's row, the code -/
def mLft (a : AB) (n : Nat) (C : Int) (G G' : Nat → Nat → Int) : Prop := (∀ i, i < 63 → G' i = G i) ∧ G' l_ans = G l_ans ∧ G' o_M 0 = C ∧ ZM a n G'
theorem ZM.ask {c : Int} (z : ZM a n G) (f : qFrame (up G o_M 0 c) G') : mLft a (n + 1) c G G' := by
  have f1 : ∀ i, i ≠ 63 → (i < 99 ∨ 124 < i) → G' i = G i := fun i h1 h2 => by rw [f.1 i h1 h2, up_cell h1]
  refine ⟨fun i hi => f1 i (by omega) (by omega), f1 128 (by decide) (by decide), by rw [f.2 0 (by decide), up_same], z.1.same (fun j hj => by rw [f.2 j (by omega), up_ne (by omega)]) (fun i h1 h2 => f1 i (by omega) (by omega)), z.2.1.same (fun i h1 h2 => f1 i (by omega) (by omega)), by have := z.2.2; omega⟩
theorem ZM.told {R' : AB} {c : Int} (z : ZM a n G) (f : lFrame G G') (ec : G' o_M 0 = c) (x : mLog R'.1 R'.2.1 R'.2.2.2.1.1 R'.2.2.2.1.2.1 R'.2.2.2.1.2.2 G') (er : R'.2.2.2.2 = a.2.2.2.2) (hl : R'.2.2.2.1.2.2 ≤ n + 1) : mLft R' (n + 1) c G G' :=
  ⟨fun i hi => f.1 i (Or.inl hi), f.1 128 (by decide), ec, x, by rw [er]; exact z.2.1.same (fun i h _ => f.1 i (by omega)), hl⟩
/-- class and reference answer alike: an int -/
def gI (yL yM : XY) (K : Int → XV) (as : List XV) (a : AB) (n : Nat) (G : Nat → Nat → Int) : Prop := ∃ (C V : Int) (a' : AB),
  x_ML yL (oFa :: (as ++ [oAn])) (S0, G) (lRes (fun G' => ZC a' (n + 1) G' ∧ ∀ i, 63 ≤ i → G' i = G i) C V) ∧
  ∀ G1, ZM a n G1 → x_M yM (oM :: as) (S0, G1) (fun r τ => ∃ v, r = .inl v ∧ v = some (K V) ∧ ∃ G', τ = (S0, G') ∧ mLft a' (n + 1) C G1 G')
def gV (yL yM : XY) (as : List XV) (a : AB) (n : Nat) (G : Nat → Nat → Int) : Prop := ∃ (C : Int) (a' : AB),
  x_ML yL (oFa :: as) (S0, G) (lResV (fun G' => ZC a' (n + 1) G' ∧ ∀ i, 63 ≤ i → G' i = G i) C) ∧
  ∀ G1, ZM a n G1 → x_M yM (oM :: as) (S0, G1) (fun r τ => ∃ v, r = .inl v ∧ v = none ∧ ∃ G', τ = (S0, G') ∧ mLft a' (n + 1) C G1 G')
def gD (yF yM : XY) (as : List XV) (a : AB) (n : Nat) (G : Nat → Nat → Int) : Prop := ∃ (V : Int) (a' : AB),
  x_M yF (oFa :: as) (S0, G) (fun r τ => ∃ v, r = .inl v ∧ v = some (xI V) ∧ ∃ G', τ = (S0, G') ∧ ZC a' (n + 1) G' ∧ ∀ i, 63 ≤ i → G' i = G i) ∧
  ∀ G1, ZM a n G1 → x_M yM (oM :: as) (S0, G1) (fun r τ => ∃ v, r = .inl v ∧ v = some (xI V) ∧ ∃ G', τ = (S0, G') ∧ mLft a' (n + 1) 0 G1 G')
/-- the class's part of a call that asks -/
theorem ZC.asked {y : XY} {as : List XV} {E : Int → String} {C : Int} {v : Option XV} (z : ZC a n G) (h : x_M y as (S0, G) (wAns (a.2.1 a.2.2.2.1.2.1) G E C v)) : x_M y as (S0, G) (fRes (fun G' => ZC a (n + 1) G' ∧ ∀ i, 63 ≤ i → G' i = G i) E C v) :=
  x_Mmono h (fun r τ ⟨G', e1, e2, e3, e4⟩ => ⟨G', e1, ⟨z.ask e2 e3, fun i hi => e2 i (Or.inr (by omega))⟩, e4⟩)
/-- the class's part of a call that tells -/
def aAct (a : AB) (rec : Option (Nat → Int)) (t : Nat × Int) : AB := match rec with
  | none => a
  | some R' => (nRec a.1 a.2.2.2.1.2.1 R', nH a.2.1 a.2.2.2.1.2.1 (rAp R' (a.2.1 a.2.2.2.1.2.1)), nD a.2.2.1 a.2.2.2.1.2.1 t, (max a.2.2.2.1.1 (a.2.2.2.1.2.1 + 1 - 100), a.2.2.2.1.2.1 + 1, a.2.2.2.1.2.1 + 1), a.2.2.2.2)
theorem ZC.telling {y : XY} {as : List XV} {E : Int → String} {C : Int} {v : Option XV} {rec : Option (Nat → Int)} {t : Nat × Int} (z : ZC a n G) (hn : n ≤ 600) (h : x_M y as (S0, G) (wAct a.2.1 a.2.2.1 a.2.2.2.1.1 a.2.2.2.1.2.1 a.2.2.2.1.2.2 E C v rec t G)) : x_M y as (S0, G) (fRes (fun G' => ZC (aAct a rec t) (n + 1) G' ∧ ∀ i, 63 ≤ i → G' i = G i) E C v) :=
  x_Mmono h (fun r τ ⟨G', e1, e2, e3, e4⟩ => ⟨G', e1, ⟨by
    cases rec with
    | none => rw [show G' = G from e4]; exact z.up
    | some R' => exact z.step hn e4.1 e4.2 e2 rfl, fun i hi => e2 i (by omega)⟩, e3⟩)
theorem ZC.rowed {y : XY} {as : List XV} {E : Int → String} {C : Int} {v : Option XV} {ρ' : RR} (z : ZC a n G) (h : x_M y as (S0, G) (wRow (a.2.1 a.2.2.2.1.2.1) ρ' G E C v)) : x_M y as (S0, G) (fRes (fun G' => ZC (a.1, a.2.1, a.2.2.1, a.2.2.2.1, ρ') (n + 1) G' ∧ ∀ i, 63 ≤ i → G' i = G i) E C v) :=
  x_Mmono h (fun r τ ⟨G', e1, e2, e3, e4, e5⟩ => ⟨G', e1, ⟨⟨z.1.same (fun i h => e2 i (Or.inl h)), e3, e4, by rw [e2 o_Ac (by decide)]; have := z.2.2.2; omega⟩, fun i hi => e2 i (Or.inr hi)⟩, e5⟩)
/-- the reference's part -/
theorem ZM.asked {y : XY} {as : List XV} {C V : Int} (z : ZM a n G) (h : x_M y as (S0, G) (fun r τ => ∃ v, r = .inl v ∧ mAns G C V v τ)) : x_M y as (S0, G) (fun r τ => ∃ v, r = .inl v ∧ v = some (xI V) ∧ ∃ G', τ = (S0, G') ∧ mLft a (n + 1) C G G') :=
  x_Mmono h (fun r τ ⟨v, e0, G', e1, e2, e3⟩ => ⟨v, e0, e3, G', e1, z.ask e2.q⟩)
theorem ZM.askedL {y : XY} {as : List XV} {C V : Int} (z : ZM a n G) (h : x_M y as (S0, G) (fun r τ => ∃ v, r = .inl v ∧ mAnsL G C V v τ)) : x_M y as (S0, G) (fun r τ => ∃ v, r = .inl v ∧ v = some (xL V) ∧ ∃ G', τ = (S0, G') ∧ mLft a (n + 1) C G G') :=
  x_Mmono h (fun r τ ⟨v, e0, G', e1, e2, e3⟩ => ⟨v, e0, e3, G', e1, z.ask e2.q⟩)
theorem ZM.askedF {y : XY} {as : List XV} {C V : Int} (z : ZM a n G) (h : x_M y as (S0, G) (fun r τ => ∃ v, r = .inl v ∧ mAnsF G C V v τ)) : x_M y as (S0, G) (fun r τ => ∃ v, r = .inl v ∧ v = some (xI V) ∧ ∃ G', τ = (S0, G') ∧ mLft a (n + 1) C G G') :=
  x_Mmono h (fun r τ ⟨v, e0, G', e1, e2, e3⟩ => ⟨v, e0, e3, G', e1, z.ask e2⟩)
theorem ZM.res {c : Int} {rec : Option (Nat → Int)} {t : Nat × Int} (z : ZM a n G) (f : lFrame G G') (ec : G' o_M 0 = c) (x : aRes a.1 a.2.1 a.2.2.2.1.1 a.2.2.2.1.2.1 a.2.2.2.1.2.2 rec G') : mLft (aAct a rec t) (n + 1) c G G' := by
  have hl := z.2.2
  have hk := z.1.1.1
  cases rec with
  | none => exact z.told f ec x rfl (by show a.2.2.2.1.2.2 ≤ n + 1; omega)
  | some R' => exact z.told (R' := aAct a (some R') t) f ec x rfl (by show a.2.2.2.1.2.1 + 1 ≤ n + 1; omega)
theorem ZM.telling {y : XY} {as : List XV} {C V : Int} {rec : Option (Nat → Int)} (t : Nat × Int) (z : ZM a n G) (h : x_M y as (S0, G) (fun r τ => ∃ v, r = .inl v ∧ mPubA a.1 a.2.1 a.2.2.2.1.1 a.2.2.2.1.2.1 a.2.2.2.1.2.2 C V rec G v τ)) : x_M y as (S0, G) (fun r τ => ∃ v, r = .inl v ∧ v = some (xI V) ∧ ∃ G', τ = (S0, G') ∧ mLft (aAct a rec t) (n + 1) C G G') :=
  x_Mmono h (fun r τ ⟨v, e0, e1, G', e2, e3, e4, e5⟩ => ⟨v, e0, e1, G', e2, z.res e3 e4 e5⟩)
theorem ZM.tellingV {y : XY} {as : List XV} {C : Int} {rec : Option (Nat → Int)} (t : Nat × Int) (z : ZM a n G) (h : x_M y as (S0, G) (fun r τ => ∃ v, r = .inl v ∧ mPubV a.1 a.2.1 a.2.2.2.1.1 a.2.2.2.1.2.1 a.2.2.2.1.2.2 C rec G v τ)) : x_M y as (S0, G) (fun r τ => ∃ v, r = .inl v ∧ v = none ∧ ∃ G', τ = (S0, G') ∧ mLft (aAct a rec t) (n + 1) C G G') :=
  x_Mmono h (fun r τ ⟨v, e0, e1, G', e2, e3, e4, e5⟩ => ⟨v, e0, e1, G', e2, z.res e3 e4 e5⟩)
end ZZ
