/-! single bits -/
def xb (s : Int) (b : Nat) : Bool := (Int32.ofInt s).toBitVec.getLsbD b
theorem xb_or (s t : Int) (b : Nat) : xb (x_or s t) b = (xb s b || xb t b) := by
  unfold xb x_or
  rw [Int32.ofInt_toInt, Int32.toBitVec_or, BitVec.getLsbD_or]
theorem xb_and (s t : Int) (b : Nat) : xb (x_and s t) b = (xb s b && xb t b) := by
  unfold xb x_and
  rw [Int32.ofInt_toInt, Int32.toBitVec_and, BitVec.getLsbD_and]
theorem xb_one {k b : Nat} (hk : k < 31) (hb : b < 31) : xb (x_shl 1 k) b = decide (b = k) := by
  have key : ∀ k b : Fin 31, xb (x_shl 1 (k : Nat)) b = decide ((b : Nat) = k) := by decide +kernel
  exact key ⟨k, hk⟩ ⟨b, hb⟩
theorem xb_zero (b : Nat) : xb 0 b = false := by
  unfold xb
  show (0#32).getLsbD b = false
  simp
theorem xb_shr (s : Int) {b : Nat} (hb : b < 31) : xb (x_shr s b) 0 = xb s b := by
  unfold xb x_shr
  rw [Int32.ofInt_toInt, Int32.toBitVec_shiftRight]
  have key : ∀ b : Fin 31, ((Int32.ofInt ((b : Nat) : Int) &&& 31).toBitVec.smod 32).toNat = b := by decide +kernel
  rw [BitVec.sshiftRight_eq']
  rw [key ⟨b, hb⟩]
  rw [BitVec.getLsbD_sshiftRight]
  simp [show b < 32 by omega]
theorem x_and1 (s : Int) : x_and s 1 = if xb s 0 = true then 1 else 0 := by
  unfold x_and xb
  generalize (Int32.ofInt s) = w
  have : (w &&& Int32.ofInt 1).toBitVec = if w.toBitVec.getLsbD 0 = true then 1#32 else 0#32 := by
    rw [Int32.toBitVec_and]
    show w.toBitVec &&& 1#32 = _
    rw [BitVec.and_one_eq_setWidth_ofBool_getLsbD]
    cases w.toBitVec.getLsbD 0 <;> rfl
  show (w &&& Int32.ofInt 1).toBitVec.toInt = _
  rw [this]
  split <;> rfl
theorem x_bit (s : Int) {b : Nat} (hb : b < 31) : (x_and (x_shr s b) 1 = 1) ↔ xb s b = true := by
  rw [x_and1, xb_shr s hb]
  cases xb s b <;> simp
