/-! calls that answer true or false -/
def gZ (yL yM : XY) (as : List XV) (a : AB) (n : Nat) (G : Nat → Nat → Int) : Prop := ∃ (C V : Int) (a' : AB), (V = 0 ∨ V = 1) ∧
  x_ML yL (oFa :: (as ++ [oAn])) (S0, G) (lRes (fun G' => ZC a' (n + 1) G' ∧ ∀ i, 63 ≤ i → G' i = G i) C V) ∧
  ∀ G1, ZM a n G1 → x_M yM (oM :: as) (S0, G1) (fun r τ => ∃ v, r = .inl v ∧ v = some (xI V) ∧ ∃ G', τ = (S0, G') ∧ mLft a' (n + 1) C G1 G')
section GZ
variable {a : AB} {n : Nat} {G : Nat → Nat → Int}
theorem shut01 (h : HH) (x1 x2 x3 x4 x5 x6 : Int) : v_shut h x1 x2 x3 x4 x5 x6 = 0 ∨ v_shut h x1 x2 x3 x4 x5 x6 = 1 := by unfold v_shut; split; exact b2i_01 rfl; exact Or.inl rfl
theorem alk01 (h : HH) (x1 x2 x3 x4 : Int) : v_alk h x1 x2 x3 x4 = 0 ∨ v_alk h x1 x2 x3 x4 = 1 := by unfold v_alk; split; exact b2i_01 rfl; exact Or.inl rfl
theorem gz_shut (zc : ZC a n G) (x1 x2 x3 x4 x5 x6 : Int) : gZ y_L_shut y_M_shut [xI x1, xI x2, xI x3, xI x4, xI x5, xI x6] a n G := ⟨_, _, a, shut01 _ _ _ _ _ _ _, l_shut (zc.asked (w_shut zc.wf zc.2.1 x1 x2 x3 x4 x5 x6)) (by unfold c_air; split <;> first | omega | (split <;> omega)) (shut01 _ _ _ _ _ _ _), fun G1 zm => zm.asked (s_shut zc.wf zm.1.2.2.1 x1 x2 x3 x4 x5 x6)⟩
theorem gz_alike (zc : ZC a n G) (x1 x2 x3 x4 : Int) : gZ y_L_alike y_M_alike [xI x1, xI x2, xI x3, xI x4] a n G := ⟨_, _, a, alk01 _ _ _ _ _, l_alike (zc.asked (w_alike zc.wf zc.2.1 x1 x2 x3 x4)) (by unfold c_alk; split <;> first | omega | (split <;> omega)) (alk01 _ _ _ _ _), fun G1 zm => zm.asked (s_alike zc.wf zm.1.2.2.1 x1 x2 x3 x4)⟩
theorem gz_make (zc : ZC a n G) (hn : n ≤ 599) (x1 x2 : Int) (hb : x2 = 0 ∨ x2 = 1) : gZ y_L_make y_M_make [xI x1, xI x2] a n G := ⟨_, _, aAct a (r_make (a.2.1 a.2.2.2.1.2.1) x1 x2) (6, ((x1.toNat : Nat) : Int)), make01 zc.wf x1, l_make (zc.telling (by omega) (w_make zc.1 (zc.ver (by omega)) x1 x2 hb)) (by unfold c_make; split <;> omega) (make01 zc.wf x1), fun G1 zm => zm.telling (6, ((x1.toNat : Nat) : Int)) (s_make zm.1 (by have := zm.2.2; have := zm.1.1.1; omega) x1 x2 hb)⟩
end GZ
