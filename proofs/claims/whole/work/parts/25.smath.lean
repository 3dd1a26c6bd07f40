/-! smoke, as numbers -/
/-- a row of numbers grows by d -/
def radd (G : Nat → Nat → Int) (i : Nat) (d : Nat → Int) : Nat → Nat → Int := fun a b => if a = i then G a b + d b else G a b
def pt (j : Nat) (v : Int) : Nat → Int := fun b => if b = j then v else 0
theorem radd_cell {G : Nat → Nat → Int} {i a : Nat} {d : Nat → Int} (h : a ≠ i) : radd G i d a = G a := by funext b; simp [radd, h]
theorem radd_at (G : Nat → Nat → Int) (i : Nat) (d : Nat → Int) (b : Nat) : radd G i d i b = G i b + d b := by simp [radd]
theorem up_radd (G : Nat → Nat → Int) (i j : Nat) (v : Int) : up G i j (G i j + v) = radd G i (pt j v) := by
  funext a b
  unfold up radd pt
  by_cases h1 : a = i
  · subst h1
    by_cases h2 : b = j
    · subst h2; simp
    · simp [h2]
  · simp [h1]
theorem radd_radd (G : Nat → Nat → Int) (i : Nat) (d e : Nat → Int) : radd (radd G i d) i e = radd G i (fun b => d b + e b) := by
  funext a b
  unfold radd
  by_cases h1 : a = i
  · simp [h1]; omega
  · simp [h1]
theorem radd_swap (G : Nat → Nat → Int) {i j : Nat} (h : i ≠ j) (d e : Nat → Int) : radd (radd G i d) j e = radd (radd G j e) i d := by
  funext a b
  unfold radd
  by_cases h1 : a = i
  · subst h1; simp [h]
  · by_cases h2 : a = j
    · subst h2; simp [h1]
    · simp [h1, h2]
theorem radd_0 (G : Nat → Nat → Int) (i : Nat) : radd G i (fun _ => 0) = G := by
  funext a b
  unfold radd
  split <;> simp
theorem x_div_pos {a b : Int} (h0 : 0 ≤ a) (h1 : a < 2147483648) (hb : 0 < b) (hb2 : b < 2147483648) : x_div a b = a / b := by
  rw [x_div_eq ⟨by omega, h1⟩ ⟨by omega, hb2⟩ (by omega), Int.tdiv_eq_ediv_of_nonneg h0]
/-- what is left above of a in a piece, behind w ways; what goes by the way w -/
def f_La (h : HH) (ai : Nat → Int) (p : Nat) (a : Int) : Nat → Int
  | 0 => a
  | w + 1 => f_La h ai p a w - (if f_at h p w = true ∧ f_tow h (ai w) p w < 4 then min (a / 8) (f_La h ai p a w) else 0)
def f_fa (h : HH) (ai : Nat → Int) (p : Nat) (a : Int) (w : Nat) : Int := if f_at h p w = true ∧ f_tow h (ai w) p w < 4 then min (a / 8) (f_La h ai p a w) else 0
theorem f_La_s (h : HH) (ai : Nat → Int) (p : Nat) (a : Int) (w : Nat) : f_La h ai p a (w + 1) = f_La h ai p a w - f_fa h ai p a w := rfl
theorem f_La_bd (h : HH) (ai : Nat → Int) (p : Nat) {a : Int} (ha : 0 ≤ a) (w : Nat) : 0 ≤ f_La h ai p a w ∧ f_La h ai p a w ≤ a ∧ 0 ≤ f_fa h ai p a w ∧ f_fa h ai p a w ≤ f_La h ai p a w := by
  induction w with
  | zero =>
    have e : f_La h ai p a 0 = a := rfl
    refine ⟨ha, Int.le_refl a, ?_⟩
    unfold f_fa
    split <;> omega
  | succ w ih =>
    have e := f_La_s h ai p a w
    have h1 : 0 ≤ f_La h ai p a (w + 1) ∧ f_La h ai p a (w + 1) ≤ a := by omega
    refine ⟨h1.1, h1.2, ?_⟩
    unfold f_fa
    split <;> omega
def f_str (h : HH) (ai : Nat → Int) (p : Nat) : Nat → Bool
  | 0 => false
  | w + 1 => f_str h ai p w || (f_at h p w && (decide (6 ≤ ai w) || decide (ai w ≤ -6)))
def f_ga (h : HH) (ai : Nat → Int) (p : Nat) (a : Int) : Int := if 0 < h.1 0 p 1 then min (a / 8) (f_La h ai p a (h.2 1)) else 0
def f_ra (h : HH) (ai : Nat → Int) (p : Nat) (a : Int) : Int := f_La h ai p a (h.2 1) - f_ga h ai p a
def f_fall (h : HH) (ai : Nat → Int) (p : Nat) (a : Int) : Int := if f_str h ai p (h.2 1) = true then f_ra h ai p a else f_ra h ai p a / 4
theorem f_ra_bd (h : HH) (ai : Nat → Int) (p : Nat) {a : Int} (ha : 0 ≤ a) : 0 ≤ f_ga h ai p a ∧ 0 ≤ f_ra h ai p a ∧ f_ra h ai p a ≤ a ∧ 0 ≤ f_fall h ai p a ∧ f_fall h ai p a ≤ f_ra h ai p a ∧ f_ga h ai p a + f_ra h ai p a = f_La h ai p a (h.2 1) := by
  have b := f_La_bd h ai p ha (h.2 1)
  have h1 : 0 ≤ f_ga h ai p a ∧ f_ga h ai p a ≤ f_La h ai p a (h.2 1) := by unfold f_ga; split <;> omega
  have h2 : f_ra h ai p a = f_La h ai p a (h.2 1) - f_ga h ai p a := rfl
  have h3 : 0 ≤ f_fall h ai p a ∧ f_fall h ai p a ≤ f_ra h ai p a := by unfold f_fall; split <;> omega
  omega
/-- what comes above into the pieces of the next minute, whose places begin at t: out of p, by the first w ways -/
def f_dA (h : HH) (ai : Nat → Int) (p t : Nat) (a : Int) : Nat → Nat → Int
  | 0 => fun _ => 0
  | w + 1 => fun b => f_dA h ai p t a w b + pt (t + (f_oth h p w).toNat) (f_fa h ai p a w) b
def f_Lm (h : HH) (ai : Nat → Int) (p : Nat) (x : Int) : Nat → Int
  | 0 => x
  | w + 1 => f_Lm h ai p x w - (if f_at h p w = true ∧ f_tow h (ai w) p w < 0 then min (x * (-f_tow h (ai w) p w) / 16) (f_Lm h ai p x w) else 0)
def f_fm (h : HH) (ai : Nat → Int) (p : Nat) (x : Int) (w : Nat) : Int := if f_at h p w = true ∧ f_tow h (ai w) p w < 0 then min (x * (-f_tow h (ai w) p w) / 16) (f_Lm h ai p x w) else 0
theorem f_Lm_s (h : HH) (ai : Nat → Int) (p : Nat) (x : Int) (w : Nat) : f_Lm h ai p x (w + 1) = f_Lm h ai p x w - f_fm h ai p x w := rfl
theorem f_Lm_bd (h : HH) (ai : Nat → Int) (p : Nat) {x : Int} (hx : 0 ≤ x) (w : Nat) : 0 ≤ f_Lm h ai p x w ∧ f_Lm h ai p x w ≤ x ∧ 0 ≤ f_fm h ai p x w ∧ f_fm h ai p x w ≤ f_Lm h ai p x w := by
  have key : ∀ w, f_tow h (ai w) p w < 0 → 0 ≤ x * (-f_tow h (ai w) p w) := fun w hw => Int.mul_nonneg hx (by omega)
  induction w with
  | zero =>
    have e : f_Lm h ai p x 0 = x := rfl
    refine ⟨hx, Int.le_refl x, ?_⟩
    unfold f_fm
    split
    · next c => have := key 0 c.2; omega
    · omega
  | succ w ih =>
    have e := f_Lm_s h ai p x w
    refine ⟨by omega, by omega, ?_⟩
    unfold f_fm
    split
    · next c => have := key (w + 1) c.2; omega
    · omega
def f_gm (h : HH) (ai : Nat → Int) (p : Nat) (x : Int) : Int := if 0 < h.1 0 p 1 then min (x * 2 / 16) (f_Lm h ai p x (h.2 1)) else 0
def f_rm (h : HH) (ai : Nat → Int) (p : Nat) (x : Int) : Int := f_Lm h ai p x (h.2 1) - f_gm h ai p x
theorem f_rm_bd (h : HH) (ai : Nat → Int) (p : Nat) {x : Int} (hx : 0 ≤ x) : 0 ≤ f_gm h ai p x ∧ 0 ≤ f_rm h ai p x ∧ f_rm h ai p x ≤ x ∧ f_gm h ai p x + f_rm h ai p x = f_Lm h ai p x (h.2 1) := by
  have b := f_Lm_bd h ai p hx (h.2 1)
  have h1 : 0 ≤ f_gm h ai p x ∧ f_gm h ai p x ≤ f_Lm h ai p x (h.2 1) := by unfold f_gm; split <;> omega
  have h2 : f_rm h ai p x = f_Lm h ai p x (h.2 1) - f_gm h ai p x := rfl
  omega
def f_dM (h : HH) (ai : Nat → Int) (p t : Nat) (x : Int) : Nat → Nat → Int
  | 0 => fun _ => 0
  | w + 1 => fun b => f_dM h ai p t x w b + pt (t + (f_oth h p w).toNat) (f_fm h ai p x w) b
theorem f_dA_bd (h : HH) (ai : Nat → Int) (p t : Nat) {a : Int} (ha : 0 ≤ a) (w b : Nat) : 0 ≤ f_dA h ai p t a w b ∧ f_dA h ai p t a w b ≤ a - f_La h ai p a w := by
  induction w with
  | zero => show 0 ≤ (0 : Int) ∧ (0 : Int) ≤ a - a; omega
  | succ w ih =>
    have e := f_La_s h ai p a w
    have g := f_La_bd h ai p ha w
    show 0 ≤ f_dA h ai p t a w b + pt _ _ b ∧ f_dA h ai p t a w b + pt _ _ b ≤ _
    unfold pt
    split <;> omega
theorem f_dM_bd (h : HH) (ai : Nat → Int) (p t : Nat) {x : Int} (hx : 0 ≤ x) (w b : Nat) : 0 ≤ f_dM h ai p t x w b ∧ f_dM h ai p t x w b ≤ x - f_Lm h ai p x w := by
  induction w with
  | zero => show 0 ≤ (0 : Int) ∧ (0 : Int) ≤ x - x; omega
  | succ w ih =>
    have e := f_Lm_s h ai p x w
    have g := f_Lm_bd h ai p hx w
    show 0 ≤ f_dM h ai p t x w b + pt _ _ b ∧ f_dM h ai p t x w b + pt _ _ b ≤ _
    unfold pt
    split <;> omega
theorem f_oth_bd {h : HH} (hh : Hwf h) (p : Int) {w : Nat} (hw : w < h.2 1) : 0 ≤ f_oth h p w ∧ f_oth h p w < h.2 0 := by
  have g := hh.2.2.1 w hw
  unfold f_oth
  split <;> omega
theorem f_tow_bd (h : HH) {a : Int} (p : Int) (w : Nat) (ha : -12 ≤ a ∧ a ≤ 12) : -12 ≤ f_tow h a p w ∧ f_tow h a p w ≤ 12 := by
  unfold f_tow
  split <;> omega
/-- air: the sum over the first f fans -/
def f_airS (h : HH) (lo : Nat → Int) (pl : Int) (m w : Nat) : Nat → Int
  | 0 => h.1 1 w 4
  | f + 1 => f_airS h lo pl m w f + (if h.1 3 f 0 = w ∧ lo f = -1 then h.1 3 f 1 * f_isBy h pl f m else 0)
def f_air (h : HH) (lo : Nat → Int) (pl : Int) (m w : Nat) : Int := max (-12) (min 12 (f_airS h lo pl m w (h.2 3)))
theorem f_airS_bd {h : HH} (hh : Hwf h) (lo : Nat → Int) (pl : Int) (m : Nat) {w f : Nat} (hw : w < h.2 1) (hf : f ≤ h.2 3) : -8 - 6 * (f : Int) ≤ f_airS h lo pl m w f ∧ f_airS h lo pl m w f ≤ 8 + 6 * (f : Int) := by
  induction f with
  | zero =>
    have g := hh.2.2.1 w hw
    show _ ≤ h.1 1 w 4 ∧ h.1 1 w 4 ≤ _
    omega
  | succ f ih =>
    have i1 := ih (by omega)
    have g := hh.2.2.2.2.1 f (by omega)
    have k := f_isBy_bd hh pl f m
    have k1 : -6 ≤ h.1 3 f 1 * f_isBy h pl f m ∧ h.1 3 f 1 * f_isBy h pl f m ≤ 6 := by
      rcases (by omega : f_isBy h pl f m = -1 ∨ f_isBy h pl f m = 0 ∨ f_isBy h pl f m = 1) with e | e | e <;> rw [e] <;> omega
    show _ ≤ f_airS h lo pl m w f + (if _ then _ else _) ∧ f_airS h lo pl m w f + (if _ then _ else _) ≤ _
    split <;> omega
def f_ends (h : HH) (f : Nat) : Int := x_or (x_or (x_shl 1 (h.1 1 (h.1 3 f 0).toNat 0)) (x_shl 1 (h.1 1 (h.1 3 f 0).toNat 1))) (h.1 3 f 3)
def f_any (P : Nat → Bool) : Nat → Bool
  | 0 => false
  | n + 1 => f_any P n || P n
def f_hit (h : HH) (ab : Nat → Int) (f p : Nat) : Bool := decide (x_and (x_shr (f_ends h f) p) 1 = 1) && decide (h.1 3 f 2 ≤ ab p)
def f_much (h : HH) (ab : Nat → Int) (f : Nat) : Bool := f_any (f_hit h ab f) (h.2 0)
