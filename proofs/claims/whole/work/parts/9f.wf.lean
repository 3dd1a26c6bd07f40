/-! the house stays well formed -/
section WF
variable {h : HH}
theorem pow_up {a : Int} {n m : Nat} (h1 : a < (2 : Int) ^ n) (h2 : n ≤ m) : a < (2 : Int) ^ m := by
  have e : ∀ k : Nat, ((2 : Int) ^ k) = ((2 ^ k : Nat) : Int) := fun k => by rw [Int.natCast_pow]; rfl
  rw [e] at *
  have := Nat.pow_le_pow_right (show 2 > 0 by decide) h2
  omega
theorem Hwf.add0 (hh : Hwf h) (h9 : h.2 9 = 1) (hl : h.2 0 < 8) {v : Nat → Int} (hv : 1 ≤ v 0 ∧ v 0 ≤ 200 ∧ 0 ≤ v 1 ∧ v 1 ≤ 40 ∧ 0 ≤ v 2 ∧ v 2 ≤ 21) : Hwf (addR h 0 v) ∧ (addR h 0 v).2 9 = 1 := by
  have bb := hh.1
  have s0 : (addR h 0 v).2 0 = h.2 0 + 1 := rfl
  have s1 : (addR h 0 v).2 1 = h.2 1 := rfl
  have s2 : (addR h 0 v).2 2 = h.2 2 := rfl
  have s3 : (addR h 0 v).2 3 = h.2 3 := rfl
  have s4 : (addR h 0 v).2 4 = h.2 4 := rfl
  have s5 : (addR h 0 v).2 5 = h.2 5 := rfl
  have s6 : (addR h 0 v).2 6 = h.2 6 := rfl
  have s7 : (addR h 0 v).2 7 = h.2 7 := rfl
  have s8 : (addR h 0 v).2 8 = h.2 8 := rfl
  have d9 : ∀ c, (addR h 0 v).1 9 0 c = h.1 9 0 c := fun _ => rfl
  have b9 := hh.2.2.2.2.2.2.2.2.2.2
  refine ⟨⟨by omega, fun p hp => ?_, fun p hp => ?_, fun p hp => ?_, fun p hp => ?_, fun p hp => ?_, fun p hp => ?_, fun p hp => ?_, fun p hp => ?_, fun p hp => ?_, ?_⟩, h9⟩
  · by_cases e : p = h.2 0
    · subst e
      simp only [show ∀ c, (addR h 0 v).1 0 (h.2 0) c = v c from fun c => if_pos ⟨rfl, rfl⟩]
      omega
    · have b := hh.2.1 p (by omega)
      simp only [show ∀ c, (addR h 0 v).1 0 p c = h.1 0 p c from fun c => if_neg (fun z => e z.2)]
      omega
  · have b := hh.2.2.1 p (by omega)
    simp only [show ∀ c, (addR h 0 v).1 1 p c = h.1 1 p c from fun _ => rfl]
    omega
  · have b := hh.2.2.2.1 p (by omega)
    simp only [show ∀ c, (addR h 0 v).1 2 p c = h.1 2 p c from fun _ => rfl]
    omega
  · have b := hh.2.2.2.2.1 p (by omega)
    simp only [show ∀ c, (addR h 0 v).1 3 p c = h.1 3 p c from fun _ => rfl]
    rw [s0]
    exact ⟨by omega, by omega, by omega, by omega, by omega, by omega, by omega, pow_up b.2.2.2.2.2.2.2 (by omega)⟩
  · have b := hh.2.2.2.2.2.1 p (by omega)
    simp only [show ∀ c, (addR h 0 v).1 4 p c = h.1 4 p c from fun _ => rfl]
    omega
  · have b := hh.2.2.2.2.2.2.1 p (by omega)
    simp only [show ∀ c, (addR h 0 v).1 5 p c = h.1 5 p c from fun _ => rfl]
    omega
  · have b := hh.2.2.2.2.2.2.2.1 p (by omega)
    simp only [show ∀ c, (addR h 0 v).1 6 p c = h.1 6 p c from fun _ => rfl]
    omega
  · have b := hh.2.2.2.2.2.2.2.2.1 p (by omega)
    simp only [show ∀ c, (addR h 0 v).1 7 p c = h.1 7 p c from fun _ => rfl]
    omega
  · have b := hh.2.2.2.2.2.2.2.2.2.1 p (by omega)
    simp only [show ∀ c, (addR h 0 v).1 8 p c = h.1 8 p c from fun _ => rfl]
    omega
  · simp only [d9]
    rw [s0]
    exact ⟨by omega, by omega, by omega, by omega, by omega, pow_up b9.2.2.2.2.2.1 (by omega), by omega, by omega, by omega, by omega⟩
theorem Hwf.add1 (hh : Hwf h) (h9 : h.2 9 = 1) (hl : h.2 1 < 12) {v : Nat → Int} (hv : 0 ≤ v 0 ∧ v 0 < h.2 0 ∧ 0 ≤ v 1 ∧ v 1 < h.2 0 ∧ v 0 ≠ v 1 ∧ 1 ≤ v 2 ∧ v 2 ≤ 4 ∧ 1 ≤ v 3 ∧ v 3 ≤ 40 ∧ -8 ≤ v 4 ∧ v 4 ≤ 8) : Hwf (addR h 1 v) ∧ (addR h 1 v).2 9 = 1 := by
  have bb := hh.1
  have s0 : (addR h 1 v).2 0 = h.2 0 := rfl
  have s1 : (addR h 1 v).2 1 = h.2 1 + 1 := rfl
  have s2 : (addR h 1 v).2 2 = h.2 2 := rfl
  have s3 : (addR h 1 v).2 3 = h.2 3 := rfl
  have s4 : (addR h 1 v).2 4 = h.2 4 := rfl
  have s5 : (addR h 1 v).2 5 = h.2 5 := rfl
  have s6 : (addR h 1 v).2 6 = h.2 6 := rfl
  have s7 : (addR h 1 v).2 7 = h.2 7 := rfl
  have s8 : (addR h 1 v).2 8 = h.2 8 := rfl
  have d9 : ∀ c, (addR h 1 v).1 9 0 c = h.1 9 0 c := fun _ => rfl
  have b9 := hh.2.2.2.2.2.2.2.2.2.2
  refine ⟨⟨by omega, fun p hp => ?_, fun p hp => ?_, fun p hp => ?_, fun p hp => ?_, fun p hp => ?_, fun p hp => ?_, fun p hp => ?_, fun p hp => ?_, fun p hp => ?_, ?_⟩, h9⟩
  · have b := hh.2.1 p (by omega)
    simp only [show ∀ c, (addR h 1 v).1 0 p c = h.1 0 p c from fun _ => rfl]
    omega
  · by_cases e : p = h.2 1
    · subst e
      simp only [show ∀ c, (addR h 1 v).1 1 (h.2 1) c = v c from fun c => if_pos ⟨rfl, rfl⟩]
      omega
    · have b := hh.2.2.1 p (by omega)
      simp only [show ∀ c, (addR h 1 v).1 1 p c = h.1 1 p c from fun c => if_neg (fun z => e z.2)]
      omega
  · have b := hh.2.2.2.1 p (by omega)
    simp only [show ∀ c, (addR h 1 v).1 2 p c = h.1 2 p c from fun _ => rfl]
    omega
  · have b := hh.2.2.2.2.1 p (by omega)
    simp only [show ∀ c, (addR h 1 v).1 3 p c = h.1 3 p c from fun _ => rfl]
    rw [s0]
    exact ⟨by omega, by omega, by omega, by omega, by omega, by omega, by omega, pow_up b.2.2.2.2.2.2.2 (by omega)⟩
  · have b := hh.2.2.2.2.2.1 p (by omega)
    simp only [show ∀ c, (addR h 1 v).1 4 p c = h.1 4 p c from fun _ => rfl]
    omega
  · have b := hh.2.2.2.2.2.2.1 p (by omega)
    simp only [show ∀ c, (addR h 1 v).1 5 p c = h.1 5 p c from fun _ => rfl]
    omega
  · have b := hh.2.2.2.2.2.2.2.1 p (by omega)
    simp only [show ∀ c, (addR h 1 v).1 6 p c = h.1 6 p c from fun _ => rfl]
    omega
  · have b := hh.2.2.2.2.2.2.2.2.1 p (by omega)
    simp only [show ∀ c, (addR h 1 v).1 7 p c = h.1 7 p c from fun _ => rfl]
    omega
  · have b := hh.2.2.2.2.2.2.2.2.2.1 p (by omega)
    simp only [show ∀ c, (addR h 1 v).1 8 p c = h.1 8 p c from fun _ => rfl]
    omega
  · simp only [d9]
    rw [s0]
    exact ⟨by omega, by omega, by omega, by omega, by omega, pow_up b9.2.2.2.2.2.1 (by omega), by omega, by omega, by omega, by omega⟩
theorem Hwf.add2 (hh : Hwf h) (h9 : h.2 9 = 1) (hl : h.2 2 < 4) {v : Nat → Int} (hv : 0 ≤ v 0 ∧ v 0 < h.2 0 ∧ 0 ≤ v 1 ∧ v 1 ≤ 20 ∧ v 1 < v 2 ∧ v 2 ≤ 21 ∧ 0 ≤ v 3 ∧ v 3 ≤ 100000 ∧ 0 ≤ v 4 ∧ v 4 ≤ 100000 ∧ 0 ≤ v 5 ∧ v 5 ≤ 100000) : Hwf (addR h 2 v) ∧ (addR h 2 v).2 9 = 1 := by
  have bb := hh.1
  have s0 : (addR h 2 v).2 0 = h.2 0 := rfl
  have s1 : (addR h 2 v).2 1 = h.2 1 := rfl
  have s2 : (addR h 2 v).2 2 = h.2 2 + 1 := rfl
  have s3 : (addR h 2 v).2 3 = h.2 3 := rfl
  have s4 : (addR h 2 v).2 4 = h.2 4 := rfl
  have s5 : (addR h 2 v).2 5 = h.2 5 := rfl
  have s6 : (addR h 2 v).2 6 = h.2 6 := rfl
  have s7 : (addR h 2 v).2 7 = h.2 7 := rfl
  have s8 : (addR h 2 v).2 8 = h.2 8 := rfl
  have d9 : ∀ c, (addR h 2 v).1 9 0 c = h.1 9 0 c := fun _ => rfl
  have b9 := hh.2.2.2.2.2.2.2.2.2.2
  refine ⟨⟨by omega, fun p hp => ?_, fun p hp => ?_, fun p hp => ?_, fun p hp => ?_, fun p hp => ?_, fun p hp => ?_, fun p hp => ?_, fun p hp => ?_, fun p hp => ?_, ?_⟩, h9⟩
  · have b := hh.2.1 p (by omega)
    simp only [show ∀ c, (addR h 2 v).1 0 p c = h.1 0 p c from fun _ => rfl]
    omega
  · have b := hh.2.2.1 p (by omega)
    simp only [show ∀ c, (addR h 2 v).1 1 p c = h.1 1 p c from fun _ => rfl]
    omega
  · by_cases e : p = h.2 2
    · subst e
      simp only [show ∀ c, (addR h 2 v).1 2 (h.2 2) c = v c from fun c => if_pos ⟨rfl, rfl⟩]
      omega
    · have b := hh.2.2.2.1 p (by omega)
      simp only [show ∀ c, (addR h 2 v).1 2 p c = h.1 2 p c from fun c => if_neg (fun z => e z.2)]
      omega
  · have b := hh.2.2.2.2.1 p (by omega)
    simp only [show ∀ c, (addR h 2 v).1 3 p c = h.1 3 p c from fun _ => rfl]
    rw [s0]
    exact ⟨by omega, by omega, by omega, by omega, by omega, by omega, by omega, pow_up b.2.2.2.2.2.2.2 (by omega)⟩
  · have b := hh.2.2.2.2.2.1 p (by omega)
    simp only [show ∀ c, (addR h 2 v).1 4 p c = h.1 4 p c from fun _ => rfl]
    omega
  · have b := hh.2.2.2.2.2.2.1 p (by omega)
    simp only [show ∀ c, (addR h 2 v).1 5 p c = h.1 5 p c from fun _ => rfl]
    omega
  · have b := hh.2.2.2.2.2.2.2.1 p (by omega)
    simp only [show ∀ c, (addR h 2 v).1 6 p c = h.1 6 p c from fun _ => rfl]
    omega
  · have b := hh.2.2.2.2.2.2.2.2.1 p (by omega)
    simp only [show ∀ c, (addR h 2 v).1 7 p c = h.1 7 p c from fun _ => rfl]
    omega
  · have b := hh.2.2.2.2.2.2.2.2.2.1 p (by omega)
    simp only [show ∀ c, (addR h 2 v).1 8 p c = h.1 8 p c from fun _ => rfl]
    omega
  · simp only [d9]
    rw [s0]
    exact ⟨by omega, by omega, by omega, by omega, by omega, pow_up b9.2.2.2.2.2.1 (by omega), by omega, by omega, by omega, by omega⟩
theorem Hwf.add3 (hh : Hwf h) (h9 : h.2 9 = 1) (hl : h.2 3 < 8) {v : Nat → Int} (hv : 0 ≤ v 0 ∧ v 0 < h.2 1 ∧ 1 ≤ v 1 ∧ v 1 ≤ 6 ∧ 1 ≤ v 2 ∧ v 2 ≤ 1000000 ∧ 0 ≤ v 3 ∧ v 3 < (2 : Int) ^ h.2 0) : Hwf (addR h 3 v) ∧ (addR h 3 v).2 9 = 1 := by
  have bb := hh.1
  have s0 : (addR h 3 v).2 0 = h.2 0 := rfl
  have s1 : (addR h 3 v).2 1 = h.2 1 := rfl
  have s2 : (addR h 3 v).2 2 = h.2 2 := rfl
  have s3 : (addR h 3 v).2 3 = h.2 3 + 1 := rfl
  have s4 : (addR h 3 v).2 4 = h.2 4 := rfl
  have s5 : (addR h 3 v).2 5 = h.2 5 := rfl
  have s6 : (addR h 3 v).2 6 = h.2 6 := rfl
  have s7 : (addR h 3 v).2 7 = h.2 7 := rfl
  have s8 : (addR h 3 v).2 8 = h.2 8 := rfl
  have d9 : ∀ c, (addR h 3 v).1 9 0 c = h.1 9 0 c := fun _ => rfl
  have b9 := hh.2.2.2.2.2.2.2.2.2.2
  refine ⟨⟨by omega, fun p hp => ?_, fun p hp => ?_, fun p hp => ?_, fun p hp => ?_, fun p hp => ?_, fun p hp => ?_, fun p hp => ?_, fun p hp => ?_, fun p hp => ?_, ?_⟩, h9⟩
  · have b := hh.2.1 p (by omega)
    simp only [show ∀ c, (addR h 3 v).1 0 p c = h.1 0 p c from fun _ => rfl]
    omega
  · have b := hh.2.2.1 p (by omega)
    simp only [show ∀ c, (addR h 3 v).1 1 p c = h.1 1 p c from fun _ => rfl]
    omega
  · have b := hh.2.2.2.1 p (by omega)
    simp only [show ∀ c, (addR h 3 v).1 2 p c = h.1 2 p c from fun _ => rfl]
    omega
  · by_cases e : p = h.2 3
    · subst e
      simp only [show ∀ c, (addR h 3 v).1 3 (h.2 3) c = v c from fun c => if_pos ⟨rfl, rfl⟩]
      rw [s0]
      exact ⟨by omega, by omega, by omega, by omega, by omega, by omega, by omega, hv.2.2.2.2.2.2.2⟩
    · have b := hh.2.2.2.2.1 p (by omega)
      simp only [show ∀ c, (addR h 3 v).1 3 p c = h.1 3 p c from fun c => if_neg (fun z => e z.2)]
      rw [s0]
      exact ⟨by omega, by omega, by omega, by omega, by omega, by omega, by omega, pow_up b.2.2.2.2.2.2.2 (by omega)⟩
  · have b := hh.2.2.2.2.2.1 p (by omega)
    simp only [show ∀ c, (addR h 3 v).1 4 p c = h.1 4 p c from fun _ => rfl]
    omega
  · have b := hh.2.2.2.2.2.2.1 p (by omega)
    simp only [show ∀ c, (addR h 3 v).1 5 p c = h.1 5 p c from fun _ => rfl]
    omega
  · have b := hh.2.2.2.2.2.2.2.1 p (by omega)
    simp only [show ∀ c, (addR h 3 v).1 6 p c = h.1 6 p c from fun _ => rfl]
    omega
  · have b := hh.2.2.2.2.2.2.2.2.1 p (by omega)
    simp only [show ∀ c, (addR h 3 v).1 7 p c = h.1 7 p c from fun _ => rfl]
    omega
  · have b := hh.2.2.2.2.2.2.2.2.2.1 p (by omega)
    simp only [show ∀ c, (addR h 3 v).1 8 p c = h.1 8 p c from fun _ => rfl]
    omega
  · simp only [d9]
    rw [s0]
    exact ⟨by omega, by omega, by omega, by omega, by omega, pow_up b9.2.2.2.2.2.1 (by omega), by omega, by omega, by omega, by omega⟩
theorem Hwf.add4 (hh : Hwf h) (h9 : h.2 9 = 1) (hl : h.2 4 < 60) {v : Nat → Int} (hv : 0 ≤ v 0 ∧ v 0 ≤ 3 ∧ 0 ≤ v 1 ∧ v 1 < h.2 3 ∧ 0 ≤ v 2 ∧ v 2 ≤ 20 ∧ -1 ≤ v 3 ∧ v 3 ≤ 1) : Hwf (addR h 4 v) ∧ (addR h 4 v).2 9 = 1 := by
  have bb := hh.1
  have s0 : (addR h 4 v).2 0 = h.2 0 := rfl
  have s1 : (addR h 4 v).2 1 = h.2 1 := rfl
  have s2 : (addR h 4 v).2 2 = h.2 2 := rfl
  have s3 : (addR h 4 v).2 3 = h.2 3 := rfl
  have s4 : (addR h 4 v).2 4 = h.2 4 + 1 := rfl
  have s5 : (addR h 4 v).2 5 = h.2 5 := rfl
  have s6 : (addR h 4 v).2 6 = h.2 6 := rfl
  have s7 : (addR h 4 v).2 7 = h.2 7 := rfl
  have s8 : (addR h 4 v).2 8 = h.2 8 := rfl
  have d9 : ∀ c, (addR h 4 v).1 9 0 c = h.1 9 0 c := fun _ => rfl
  have b9 := hh.2.2.2.2.2.2.2.2.2.2
  refine ⟨⟨by omega, fun p hp => ?_, fun p hp => ?_, fun p hp => ?_, fun p hp => ?_, fun p hp => ?_, fun p hp => ?_, fun p hp => ?_, fun p hp => ?_, fun p hp => ?_, ?_⟩, h9⟩
  · have b := hh.2.1 p (by omega)
    simp only [show ∀ c, (addR h 4 v).1 0 p c = h.1 0 p c from fun _ => rfl]
    omega
  · have b := hh.2.2.1 p (by omega)
    simp only [show ∀ c, (addR h 4 v).1 1 p c = h.1 1 p c from fun _ => rfl]
    omega
  · have b := hh.2.2.2.1 p (by omega)
    simp only [show ∀ c, (addR h 4 v).1 2 p c = h.1 2 p c from fun _ => rfl]
    omega
  · have b := hh.2.2.2.2.1 p (by omega)
    simp only [show ∀ c, (addR h 4 v).1 3 p c = h.1 3 p c from fun _ => rfl]
    rw [s0]
    exact ⟨by omega, by omega, by omega, by omega, by omega, by omega, by omega, pow_up b.2.2.2.2.2.2.2 (by omega)⟩
  · by_cases e : p = h.2 4
    · subst e
      simp only [show ∀ c, (addR h 4 v).1 4 (h.2 4) c = v c from fun c => if_pos ⟨rfl, rfl⟩]
      omega
    · have b := hh.2.2.2.2.2.1 p (by omega)
      simp only [show ∀ c, (addR h 4 v).1 4 p c = h.1 4 p c from fun c => if_neg (fun z => e z.2)]
      omega
  · have b := hh.2.2.2.2.2.2.1 p (by omega)
    simp only [show ∀ c, (addR h 4 v).1 5 p c = h.1 5 p c from fun _ => rfl]
    omega
  · have b := hh.2.2.2.2.2.2.2.1 p (by omega)
    simp only [show ∀ c, (addR h 4 v).1 6 p c = h.1 6 p c from fun _ => rfl]
    omega
  · have b := hh.2.2.2.2.2.2.2.2.1 p (by omega)
    simp only [show ∀ c, (addR h 4 v).1 7 p c = h.1 7 p c from fun _ => rfl]
    omega
  · have b := hh.2.2.2.2.2.2.2.2.2.1 p (by omega)
    simp only [show ∀ c, (addR h 4 v).1 8 p c = h.1 8 p c from fun _ => rfl]
    omega
  · simp only [d9]
    rw [s0]
    exact ⟨by omega, by omega, by omega, by omega, by omega, pow_up b9.2.2.2.2.2.1 (by omega), by omega, by omega, by omega, by omega⟩
theorem Hwf.add5 (hh : Hwf h) (h9 : h.2 9 = 1) (hl : h.2 5 < 10) {v : Nat → Int} (hv : 0 ≤ v 0 ∧ v 0 < h.2 0 ∧ 1 ≤ v 1 ∧ v 1 ≤ 60 ∧ 0 ≤ v 2 ∧ v 2 ≤ 20) : Hwf (addR h 5 v) ∧ (addR h 5 v).2 9 = 1 := by
  have bb := hh.1
  have s0 : (addR h 5 v).2 0 = h.2 0 := rfl
  have s1 : (addR h 5 v).2 1 = h.2 1 := rfl
  have s2 : (addR h 5 v).2 2 = h.2 2 := rfl
  have s3 : (addR h 5 v).2 3 = h.2 3 := rfl
  have s4 : (addR h 5 v).2 4 = h.2 4 := rfl
  have s5 : (addR h 5 v).2 5 = h.2 5 + 1 := rfl
  have s6 : (addR h 5 v).2 6 = h.2 6 := rfl
  have s7 : (addR h 5 v).2 7 = h.2 7 := rfl
  have s8 : (addR h 5 v).2 8 = h.2 8 := rfl
  have d9 : ∀ c, (addR h 5 v).1 9 0 c = h.1 9 0 c := fun _ => rfl
  have b9 := hh.2.2.2.2.2.2.2.2.2.2
  refine ⟨⟨by omega, fun p hp => ?_, fun p hp => ?_, fun p hp => ?_, fun p hp => ?_, fun p hp => ?_, fun p hp => ?_, fun p hp => ?_, fun p hp => ?_, fun p hp => ?_, ?_⟩, h9⟩
  · have b := hh.2.1 p (by omega)
    simp only [show ∀ c, (addR h 5 v).1 0 p c = h.1 0 p c from fun _ => rfl]
    omega
  · have b := hh.2.2.1 p (by omega)
    simp only [show ∀ c, (addR h 5 v).1 1 p c = h.1 1 p c from fun _ => rfl]
    omega
  · have b := hh.2.2.2.1 p (by omega)
    simp only [show ∀ c, (addR h 5 v).1 2 p c = h.1 2 p c from fun _ => rfl]
    omega
  · have b := hh.2.2.2.2.1 p (by omega)
    simp only [show ∀ c, (addR h 5 v).1 3 p c = h.1 3 p c from fun _ => rfl]
    rw [s0]
    exact ⟨by omega, by omega, by omega, by omega, by omega, by omega, by omega, pow_up b.2.2.2.2.2.2.2 (by omega)⟩
  · have b := hh.2.2.2.2.2.1 p (by omega)
    simp only [show ∀ c, (addR h 5 v).1 4 p c = h.1 4 p c from fun _ => rfl]
    omega
  · by_cases e : p = h.2 5
    · subst e
      simp only [show ∀ c, (addR h 5 v).1 5 (h.2 5) c = v c from fun c => if_pos ⟨rfl, rfl⟩]
      omega
    · have b := hh.2.2.2.2.2.2.1 p (by omega)
      simp only [show ∀ c, (addR h 5 v).1 5 p c = h.1 5 p c from fun c => if_neg (fun z => e z.2)]
      omega
  · have b := hh.2.2.2.2.2.2.2.1 p (by omega)
    simp only [show ∀ c, (addR h 5 v).1 6 p c = h.1 6 p c from fun _ => rfl]
    omega
  · have b := hh.2.2.2.2.2.2.2.2.1 p (by omega)
    simp only [show ∀ c, (addR h 5 v).1 7 p c = h.1 7 p c from fun _ => rfl]
    omega
  · have b := hh.2.2.2.2.2.2.2.2.2.1 p (by omega)
    simp only [show ∀ c, (addR h 5 v).1 8 p c = h.1 8 p c from fun _ => rfl]
    omega
  · simp only [d9]
    rw [s0]
    exact ⟨by omega, by omega, by omega, by omega, by omega, pow_up b9.2.2.2.2.2.1 (by omega), by omega, by omega, by omega, by omega⟩
theorem Hwf.add6 (hh : Hwf h) (h9 : h.2 9 = 1) (hl : h.2 6 < 6) {v : Nat → Int} (hv : 0 ≤ v 0 ∧ v 0 < h.2 0 ∧ 1 ≤ v 1 ∧ v 1 ≤ 40 ∧ 1 ≤ v 2 ∧ v 2 ≤ 1000 ∧ 0 ≤ v 3 ∧ v 3 ≤ 1) : Hwf (addR h 6 v) ∧ (addR h 6 v).2 9 = 1 := by
  have bb := hh.1
  have s0 : (addR h 6 v).2 0 = h.2 0 := rfl
  have s1 : (addR h 6 v).2 1 = h.2 1 := rfl
  have s2 : (addR h 6 v).2 2 = h.2 2 := rfl
  have s3 : (addR h 6 v).2 3 = h.2 3 := rfl
  have s4 : (addR h 6 v).2 4 = h.2 4 := rfl
  have s5 : (addR h 6 v).2 5 = h.2 5 := rfl
  have s6 : (addR h 6 v).2 6 = h.2 6 + 1 := rfl
  have s7 : (addR h 6 v).2 7 = h.2 7 := rfl
  have s8 : (addR h 6 v).2 8 = h.2 8 := rfl
  have d9 : ∀ c, (addR h 6 v).1 9 0 c = h.1 9 0 c := fun _ => rfl
  have b9 := hh.2.2.2.2.2.2.2.2.2.2
  refine ⟨⟨by omega, fun p hp => ?_, fun p hp => ?_, fun p hp => ?_, fun p hp => ?_, fun p hp => ?_, fun p hp => ?_, fun p hp => ?_, fun p hp => ?_, fun p hp => ?_, ?_⟩, h9⟩
  · have b := hh.2.1 p (by omega)
    simp only [show ∀ c, (addR h 6 v).1 0 p c = h.1 0 p c from fun _ => rfl]
    omega
  · have b := hh.2.2.1 p (by omega)
    simp only [show ∀ c, (addR h 6 v).1 1 p c = h.1 1 p c from fun _ => rfl]
    omega
  · have b := hh.2.2.2.1 p (by omega)
    simp only [show ∀ c, (addR h 6 v).1 2 p c = h.1 2 p c from fun _ => rfl]
    omega
  · have b := hh.2.2.2.2.1 p (by omega)
    simp only [show ∀ c, (addR h 6 v).1 3 p c = h.1 3 p c from fun _ => rfl]
    rw [s0]
    exact ⟨by omega, by omega, by omega, by omega, by omega, by omega, by omega, pow_up b.2.2.2.2.2.2.2 (by omega)⟩
  · have b := hh.2.2.2.2.2.1 p (by omega)
    simp only [show ∀ c, (addR h 6 v).1 4 p c = h.1 4 p c from fun _ => rfl]
    omega
  · have b := hh.2.2.2.2.2.2.1 p (by omega)
    simp only [show ∀ c, (addR h 6 v).1 5 p c = h.1 5 p c from fun _ => rfl]
    omega
  · by_cases e : p = h.2 6
    · subst e
      simp only [show ∀ c, (addR h 6 v).1 6 (h.2 6) c = v c from fun c => if_pos ⟨rfl, rfl⟩]
      omega
    · have b := hh.2.2.2.2.2.2.2.1 p (by omega)
      simp only [show ∀ c, (addR h 6 v).1 6 p c = h.1 6 p c from fun c => if_neg (fun z => e z.2)]
      omega
  · have b := hh.2.2.2.2.2.2.2.2.1 p (by omega)
    simp only [show ∀ c, (addR h 6 v).1 7 p c = h.1 7 p c from fun _ => rfl]
    omega
  · have b := hh.2.2.2.2.2.2.2.2.2.1 p (by omega)
    simp only [show ∀ c, (addR h 6 v).1 8 p c = h.1 8 p c from fun _ => rfl]
    omega
  · simp only [d9]
    rw [s0]
    exact ⟨by omega, by omega, by omega, by omega, by omega, pow_up b9.2.2.2.2.2.1 (by omega), by omega, by omega, by omega, by omega⟩
theorem Hwf.add7 (hh : Hwf h) (h9 : h.2 9 = 1) (hl : h.2 7 < 10) {v : Nat → Int} (hv : 0 ≤ v 0 ∧ v 0 ≤ 20 ∧ 0 ≤ v 1 ∧ v 1 ≤ 600) : Hwf (addR h 7 v) ∧ (addR h 7 v).2 9 = 1 := by
  have bb := hh.1
  have s0 : (addR h 7 v).2 0 = h.2 0 := rfl
  have s1 : (addR h 7 v).2 1 = h.2 1 := rfl
  have s2 : (addR h 7 v).2 2 = h.2 2 := rfl
  have s3 : (addR h 7 v).2 3 = h.2 3 := rfl
  have s4 : (addR h 7 v).2 4 = h.2 4 := rfl
  have s5 : (addR h 7 v).2 5 = h.2 5 := rfl
  have s6 : (addR h 7 v).2 6 = h.2 6 := rfl
  have s7 : (addR h 7 v).2 7 = h.2 7 + 1 := rfl
  have s8 : (addR h 7 v).2 8 = h.2 8 := rfl
  have d9 : ∀ c, (addR h 7 v).1 9 0 c = h.1 9 0 c := fun _ => rfl
  have b9 := hh.2.2.2.2.2.2.2.2.2.2
  refine ⟨⟨by omega, fun p hp => ?_, fun p hp => ?_, fun p hp => ?_, fun p hp => ?_, fun p hp => ?_, fun p hp => ?_, fun p hp => ?_, fun p hp => ?_, fun p hp => ?_, ?_⟩, h9⟩
  · have b := hh.2.1 p (by omega)
    simp only [show ∀ c, (addR h 7 v).1 0 p c = h.1 0 p c from fun _ => rfl]
    omega
  · have b := hh.2.2.1 p (by omega)
    simp only [show ∀ c, (addR h 7 v).1 1 p c = h.1 1 p c from fun _ => rfl]
    omega
  · have b := hh.2.2.2.1 p (by omega)
    simp only [show ∀ c, (addR h 7 v).1 2 p c = h.1 2 p c from fun _ => rfl]
    omega
  · have b := hh.2.2.2.2.1 p (by omega)
    simp only [show ∀ c, (addR h 7 v).1 3 p c = h.1 3 p c from fun _ => rfl]
    rw [s0]
    exact ⟨by omega, by omega, by omega, by omega, by omega, by omega, by omega, pow_up b.2.2.2.2.2.2.2 (by omega)⟩
  · have b := hh.2.2.2.2.2.1 p (by omega)
    simp only [show ∀ c, (addR h 7 v).1 4 p c = h.1 4 p c from fun _ => rfl]
    omega
  · have b := hh.2.2.2.2.2.2.1 p (by omega)
    simp only [show ∀ c, (addR h 7 v).1 5 p c = h.1 5 p c from fun _ => rfl]
    omega
  · have b := hh.2.2.2.2.2.2.2.1 p (by omega)
    simp only [show ∀ c, (addR h 7 v).1 6 p c = h.1 6 p c from fun _ => rfl]
    omega
  · by_cases e : p = h.2 7
    · subst e
      simp only [show ∀ c, (addR h 7 v).1 7 (h.2 7) c = v c from fun c => if_pos ⟨rfl, rfl⟩]
      omega
    · have b := hh.2.2.2.2.2.2.2.2.1 p (by omega)
      simp only [show ∀ c, (addR h 7 v).1 7 p c = h.1 7 p c from fun c => if_neg (fun z => e z.2)]
      omega
  · have b := hh.2.2.2.2.2.2.2.2.2.1 p (by omega)
    simp only [show ∀ c, (addR h 7 v).1 8 p c = h.1 8 p c from fun _ => rfl]
    omega
  · simp only [d9]
    rw [s0]
    exact ⟨by omega, by omega, by omega, by omega, by omega, pow_up b9.2.2.2.2.2.1 (by omega), by omega, by omega, by omega, by omega⟩
theorem Hwf.add8 (hh : Hwf h) (h9 : h.2 9 = 1) (hl : h.2 8 < 40) {v : Nat → Int} (hv : 0 ≤ v 0 ∧ v 0 < h.2 0 ∧ 0 ≤ v 1 ∧ v 1 ≤ 20 ∧ 0 ≤ v 2 ∧ v 2 ≤ 1) : Hwf (addR h 8 v) ∧ (addR h 8 v).2 9 = 1 := by
  have bb := hh.1
  have s0 : (addR h 8 v).2 0 = h.2 0 := rfl
  have s1 : (addR h 8 v).2 1 = h.2 1 := rfl
  have s2 : (addR h 8 v).2 2 = h.2 2 := rfl
  have s3 : (addR h 8 v).2 3 = h.2 3 := rfl
  have s4 : (addR h 8 v).2 4 = h.2 4 := rfl
  have s5 : (addR h 8 v).2 5 = h.2 5 := rfl
  have s6 : (addR h 8 v).2 6 = h.2 6 := rfl
  have s7 : (addR h 8 v).2 7 = h.2 7 := rfl
  have s8 : (addR h 8 v).2 8 = h.2 8 + 1 := rfl
  have d9 : ∀ c, (addR h 8 v).1 9 0 c = h.1 9 0 c := fun _ => rfl
  have b9 := hh.2.2.2.2.2.2.2.2.2.2
  refine ⟨⟨by omega, fun p hp => ?_, fun p hp => ?_, fun p hp => ?_, fun p hp => ?_, fun p hp => ?_, fun p hp => ?_, fun p hp => ?_, fun p hp => ?_, fun p hp => ?_, ?_⟩, h9⟩
  · have b := hh.2.1 p (by omega)
    simp only [show ∀ c, (addR h 8 v).1 0 p c = h.1 0 p c from fun _ => rfl]
    omega
  · have b := hh.2.2.1 p (by omega)
    simp only [show ∀ c, (addR h 8 v).1 1 p c = h.1 1 p c from fun _ => rfl]
    omega
  · have b := hh.2.2.2.1 p (by omega)
    simp only [show ∀ c, (addR h 8 v).1 2 p c = h.1 2 p c from fun _ => rfl]
    omega
  · have b := hh.2.2.2.2.1 p (by omega)
    simp only [show ∀ c, (addR h 8 v).1 3 p c = h.1 3 p c from fun _ => rfl]
    rw [s0]
    exact ⟨by omega, by omega, by omega, by omega, by omega, by omega, by omega, pow_up b.2.2.2.2.2.2.2 (by omega)⟩
  · have b := hh.2.2.2.2.2.1 p (by omega)
    simp only [show ∀ c, (addR h 8 v).1 4 p c = h.1 4 p c from fun _ => rfl]
    omega
  · have b := hh.2.2.2.2.2.2.1 p (by omega)
    simp only [show ∀ c, (addR h 8 v).1 5 p c = h.1 5 p c from fun _ => rfl]
    omega
  · have b := hh.2.2.2.2.2.2.2.1 p (by omega)
    simp only [show ∀ c, (addR h 8 v).1 6 p c = h.1 6 p c from fun _ => rfl]
    omega
  · have b := hh.2.2.2.2.2.2.2.2.1 p (by omega)
    simp only [show ∀ c, (addR h 8 v).1 7 p c = h.1 7 p c from fun _ => rfl]
    omega
  · by_cases e : p = h.2 8
    · subst e
      simp only [show ∀ c, (addR h 8 v).1 8 (h.2 8) c = v c from fun c => if_pos ⟨rfl, rfl⟩]
      omega
    · have b := hh.2.2.2.2.2.2.2.2.2.1 p (by omega)
      simp only [show ∀ c, (addR h 8 v).1 8 p c = h.1 8 p c from fun c => if_neg (fun z => e z.2)]
      omega
  · simp only [d9]
    rw [s0]
    exact ⟨by omega, by omega, by omega, by omega, by omega, pow_up b9.2.2.2.2.2.1 (by omega), by omega, by omega, by omega, by omega⟩
theorem Hwf.water (hh : Hwf h) (h9 : h.2 9 = 1) {r : Nat} {z : Int} (hz : 0 ≤ z ∧ z ≤ 21) : Hwf (setC h 0 r 2 z) ∧ (setC h 0 r 2 z).2 9 = 1 := by
  have bb := hh.1
  have b9 := hh.2.2.2.2.2.2.2.2.2.2
  refine ⟨⟨bb, fun p hp => ?_, fun p hp => ?_, fun p hp => ?_, fun p hp => ?_, fun p hp => ?_, fun p hp => ?_, fun p hp => ?_, fun p hp => ?_, fun p hp => ?_, ?_⟩, h9⟩
  · have b := hh.2.1 p hp
    by_cases e : p = r
    · subst e
      have ec : ∀ c, (setC h 0 p 2 z).1 0 p c = (if c = 2 then z else h.1 0 p c) := fun c => by
        show (if 0 = 0 ∧ p = p then (if c = 2 then z else h.1 0 p c) else h.1 0 p c) = _
        exact if_pos ⟨rfl, rfl⟩
      have s0 : (setC h 0 p 2 z).2 0 = h.2 0 := rfl
      simp only [ec]
      simp; omega
    · simp only [show ∀ c, (setC h 0 r 2 z).1 0 p c = h.1 0 p c from fun c => if_neg (fun z => e z.2)]
      exact b
  · exact hh.2.2.1 p hp
  · exact hh.2.2.2.1 p hp
  · exact hh.2.2.2.2.1 p hp
  · exact hh.2.2.2.2.2.1 p hp
  · exact hh.2.2.2.2.2.2.1 p hp
  · exact hh.2.2.2.2.2.2.2.1 p hp
  · exact hh.2.2.2.2.2.2.2.2.1 p hp
  · exact hh.2.2.2.2.2.2.2.2.2.1 p hp
  · exact b9
theorem Hwf.made (hh : Hwf h) (h9 : h.2 9 = 1) {r : Nat} {z : Int} (hz : 0 ≤ z ∧ z ≤ 1) : Hwf (setC h 6 r 3 z) ∧ (setC h 6 r 3 z).2 9 = 1 := by
  have bb := hh.1
  have b9 := hh.2.2.2.2.2.2.2.2.2.2
  refine ⟨⟨bb, fun p hp => ?_, fun p hp => ?_, fun p hp => ?_, fun p hp => ?_, fun p hp => ?_, fun p hp => ?_, fun p hp => ?_, fun p hp => ?_, fun p hp => ?_, ?_⟩, h9⟩
  · exact hh.2.1 p hp
  · exact hh.2.2.1 p hp
  · exact hh.2.2.2.1 p hp
  · exact hh.2.2.2.2.1 p hp
  · exact hh.2.2.2.2.2.1 p hp
  · exact hh.2.2.2.2.2.2.1 p hp
  · have b := hh.2.2.2.2.2.2.2.1 p hp
    by_cases e : p = r
    · subst e
      have ec : ∀ c, (setC h 6 p 3 z).1 6 p c = (if c = 3 then z else h.1 6 p c) := fun c => by
        show (if 6 = 6 ∧ p = p then (if c = 3 then z else h.1 6 p c) else h.1 6 p c) = _
        exact if_pos ⟨rfl, rfl⟩
      have s0 : (setC h 6 p 3 z).2 0 = h.2 0 := rfl
      simp only [ec]
      simp; omega
    · simp only [show ∀ c, (setC h 6 r 3 z).1 6 p c = h.1 6 p c from fun c => if_neg (fun z => e z.2)]
      exact b
  · exact hh.2.2.2.2.2.2.2.2.1 p hp
  · exact hh.2.2.2.2.2.2.2.2.2.1 p hp
  · exact b9
theorem Hwf.eyes (hh : Hwf h) (h9 : h.2 9 = 1) {z : Int} (hz : 0 ≤ z ∧ z ≤ 1000000) : Hwf (setC h 9 0 0 z) ∧ (setC h 9 0 0 z).2 9 = 1 := by
  have bb := hh.1
  have b9 := hh.2.2.2.2.2.2.2.2.2.2
  refine ⟨⟨bb, fun p hp => ?_, fun p hp => ?_, fun p hp => ?_, fun p hp => ?_, fun p hp => ?_, fun p hp => ?_, fun p hp => ?_, fun p hp => ?_, fun p hp => ?_, ?_⟩, h9⟩
  · exact hh.2.1 p hp
  · exact hh.2.2.1 p hp
  · exact hh.2.2.2.1 p hp
  · exact hh.2.2.2.2.1 p hp
  · exact hh.2.2.2.2.2.1 p hp
  · exact hh.2.2.2.2.2.2.1 p hp
  · exact hh.2.2.2.2.2.2.2.1 p hp
  · exact hh.2.2.2.2.2.2.2.2.1 p hp
  · exact hh.2.2.2.2.2.2.2.2.2.1 p hp
  · simp only [show ∀ c, (setC h 9 0 0 z).1 9 0 c = (if c = 0 then z else h.1 9 0 c) from fun c => rfl]
    simp
    exact ⟨hz.1, hz.2, b9.2.2⟩
theorem Hwf.walk (hh : Hwf h) (h9 : h.2 9 = 1) {z : Int} (hz : 1 ≤ z ∧ z ≤ 3) : Hwf (setC h 9 0 1 z) ∧ (setC h 9 0 1 z).2 9 = 1 := by
  have bb := hh.1
  have b9 := hh.2.2.2.2.2.2.2.2.2.2
  refine ⟨⟨bb, fun p hp => ?_, fun p hp => ?_, fun p hp => ?_, fun p hp => ?_, fun p hp => ?_, fun p hp => ?_, fun p hp => ?_, fun p hp => ?_, fun p hp => ?_, ?_⟩, h9⟩
  · exact hh.2.1 p hp
  · exact hh.2.2.1 p hp
  · exact hh.2.2.2.1 p hp
  · exact hh.2.2.2.2.1 p hp
  · exact hh.2.2.2.2.2.1 p hp
  · exact hh.2.2.2.2.2.2.1 p hp
  · exact hh.2.2.2.2.2.2.2.1 p hp
  · exact hh.2.2.2.2.2.2.2.2.1 p hp
  · exact hh.2.2.2.2.2.2.2.2.2.1 p hp
  · simp only [show ∀ c, (setC h 9 0 1 z).1 9 0 c = (if c = 1 then z else h.1 9 0 c) from fun c => rfl]
    simp
    exact ⟨b9.1, b9.2.1, hz.1, hz.2, b9.2.2.2.2⟩
theorem Hwf.gauge (hh : Hwf h) (h9 : h.2 9 = 1) {x y z : Int} (hx : 0 ≤ x ∧ x < (2 : Int) ^ h.2 0) (hy : 1 ≤ y ∧ y ≤ 1000000) (hz : 0 ≤ z ∧ z ≤ 5) : Hwf (setG h x y z) ∧ (setG h x y z).2 9 = 1 := by
  have bb := hh.1
  have b9 := hh.2.2.2.2.2.2.2.2.2.2
  refine ⟨⟨bb, fun p hp => ?_, fun p hp => ?_, fun p hp => ?_, fun p hp => ?_, fun p hp => ?_, fun p hp => ?_, fun p hp => ?_, fun p hp => ?_, fun p hp => ?_, ?_⟩, h9⟩
  · exact hh.2.1 p hp
  · exact hh.2.2.1 p hp
  · exact hh.2.2.2.1 p hp
  · exact hh.2.2.2.2.1 p hp
  · exact hh.2.2.2.2.2.1 p hp
  · exact hh.2.2.2.2.2.2.1 p hp
  · exact hh.2.2.2.2.2.2.2.1 p hp
  · exact hh.2.2.2.2.2.2.2.2.1 p hp
  · exact hh.2.2.2.2.2.2.2.2.2.1 p hp
  · simp only [show ∀ c, (setG h x y z).1 9 0 c = (if c = 2 then x else if c = 3 then y else if c = 4 then z else h.1 9 0 c) from fun c => rfl]
    simp
    exact ⟨b9.1, b9.2.1, b9.2.2.1, b9.2.2.2.1, hx.1, hx.2, hy.1, hy.2, hz.1, hz.2⟩
end WF
