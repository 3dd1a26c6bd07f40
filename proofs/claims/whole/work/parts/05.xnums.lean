/-! numbers -/
theorem w32_r (z : Int) : x_r32 (w32 z) := by unfold x_r32 w32; omega
theorem w64_r (z : Int) : x_r64 (w64 z) := by unfold x_r64 w64; omega
theorem w32_id {z : Int} (h1 : -2147483648 ≤ z) (h2 : z < 2147483648) : w32 z = z := by unfold w32; omega
theorem w64_id {z : Int} (h1 : -9223372036854775808 ≤ z) (h2 : z < 9223372036854775808) : w64 z = z := by unfold w64; omega
theorem w32_bmod (z : Int) : w32 z = z.bmod 4294967296 := by unfold w32; rw [Int.bmod_def]; split <;> omega
theorem w64_bmod (z : Int) : w64 z = z.bmod 18446744073709551616 := by unfold w64; rw [Int.bmod_def]; split <;> omega
theorem i32_toInt (z : Int) : (Int32.ofInt z).toInt = w32 z := by rw [w32_bmod]; exact Int32.toInt_ofInt
theorem i64_toInt (z : Int) : (Int64.ofInt z).toInt = w64 z := by rw [w64_bmod]; exact Int64.toInt_ofInt
theorem i32_toInt_r {z : Int} (h : x_r32 z) : (Int32.ofInt z).toInt = z := by rw [i32_toInt]; exact w32_id h.1 h.2
theorem i64_toInt_r {z : Int} (h : x_r64 z) : (Int64.ofInt z).toInt = z := by rw [i64_toInt]; exact w64_id h.1 h.2
theorem i32_w (z : Int) : Int32.ofInt (w32 z) = Int32.ofInt z := by rw [← i32_toInt]; exact Int32.ofInt_toInt _
theorem i64_w (z : Int) : Int64.ofInt (w64 z) = Int64.ofInt z := by rw [← i64_toInt]; exact Int64.ofInt_toInt _
theorem i32_rng (x : Int32) : x_r32 x.toInt := ⟨by have := Int32.le_toInt x; omega, by have := Int32.toInt_lt x; omega⟩
theorem i64_rng (x : Int64) : x_r64 x.toInt := ⟨by have := Int64.le_toInt x; omega, by have := Int64.toInt_lt x; omega⟩
theorem i32_add (a b : Int) : Int32.ofInt a + Int32.ofInt b = Int32.ofInt (w32 (a + b)) := by rw [i32_w, Int32.ofInt_add]
theorem i32_sub (a b : Int) : Int32.ofInt a - Int32.ofInt b = Int32.ofInt (w32 (a - b)) := by rw [i32_w, Int32.ofInt_sub]
theorem i32_mul (a b : Int) : Int32.ofInt a * Int32.ofInt b = Int32.ofInt (w32 (a * b)) := by rw [i32_w, Int32.ofInt_mul]
theorem i32_neg (a : Int) : -Int32.ofInt a = Int32.ofInt (w32 (-a)) := by rw [i32_w, Int32.ofInt_neg]
theorem i64_add (a b : Int) : Int64.ofInt a + Int64.ofInt b = Int64.ofInt (w64 (a + b)) := by rw [i64_w, Int64.ofInt_add]
theorem i32_le {a b : Int} (ha : x_r32 a) (hb : x_r32 b) : Int32.ofInt a ≤ Int32.ofInt b ↔ a ≤ b := by rw [Int32.le_iff_toInt_le, i32_toInt_r ha, i32_toInt_r hb]
theorem i32_lt {a b : Int} (ha : x_r32 a) (hb : x_r32 b) : Int32.ofInt a < Int32.ofInt b ↔ a < b := by rw [Int32.lt_iff_toInt_lt, i32_toInt_r ha, i32_toInt_r hb]
theorem i32_eq {a b : Int} (ha : x_r32 a) (hb : x_r32 b) : Int32.ofInt a = Int32.ofInt b ↔ a = b := by rw [← Int32.toInt_inj, i32_toInt_r ha, i32_toInt_r hb]
theorem i64_le {a b : Int} (ha : x_r64 a) (hb : x_r64 b) : Int64.ofInt a ≤ Int64.ofInt b ↔ a ≤ b := by rw [Int64.le_iff_toInt_le, i64_toInt_r ha, i64_toInt_r hb]
theorem i64_lt {a b : Int} (ha : x_r64 a) (hb : x_r64 b) : Int64.ofInt a < Int64.ofInt b ↔ a < b := by rw [Int64.lt_iff_toInt_lt, i64_toInt_r ha, i64_toInt_r hb]
theorem i64_eq {a b : Int} (ha : x_r64 a) (hb : x_r64 b) : Int64.ofInt a = Int64.ofInt b ↔ a = b := by rw [← Int64.toInt_inj, i64_toInt_r ha, i64_toInt_r hb]
theorem x_r0 : x_r32 0 := by unfold x_r32; omega
theorem i32_0 : Int32.ofInt 0 = 0 := rfl
theorem i32_64 {a : Int} (h : x_r32 a) : (Int32.ofInt a).toInt64 = Int64.ofInt a := by
  have h1 := h.1; have h2 := h.2
  exact Int32.toInt64_ofInt (by show (-2147483648 : Int) ≤ a; omega) (by show a ≤ (2147483647 : Int); omega)
theorem i64_32 (a : Int) : (Int64.ofInt a).toInt32 = Int32.ofInt (w32 a) := by rw [i32_w]; exact Int64.toInt32_ofInt
/-- the operations on bits and quotients are those of the machine's own numbers -/
def x_and (a b : Int) : Int := (Int32.ofInt a &&& Int32.ofInt b).toInt
def x_or (a b : Int) : Int := (Int32.ofInt a ||| Int32.ofInt b).toInt
def x_xor (a b : Int) : Int := (Int32.ofInt a ^^^ Int32.ofInt b).toInt
def x_shl (a b : Int) : Int := (Int32.ofInt a <<< (Int32.ofInt b &&& 31)).toInt
def x_shr (a b : Int) : Int := (Int32.ofInt a >>> (Int32.ofInt b &&& 31)).toInt
def x_ushr (a b : Int) : Int := ((Int32.ofInt a).toUInt32 >>> ((Int32.ofInt b).toUInt32 &&& Int32.toUInt32 31)).toInt32.toInt
def x_div (a b : Int) : Int := (Int32.ofInt a / Int32.ofInt b).toInt
def x_rem (a b : Int) : Int := (Int32.ofInt a - Int32.ofInt a / Int32.ofInt b * Int32.ofInt b).toInt
def x_i2b (a : Int) : Int := (Int32.ofInt a).toInt8.toInt32.toInt
def x_i2s (a : Int) : Int := (Int32.ofInt a).toInt16.toInt32.toInt
def x_land (a b : Int) : Int := (Int64.ofInt a &&& Int64.ofInt b).toInt
def x_lor (a b : Int) : Int := (Int64.ofInt a ||| Int64.ofInt b).toInt
def x_lshl (a b : Int) : Int := (Int64.ofInt a <<< ((Int32.ofInt b).toInt64 &&& 63)).toInt
def x_lshr (a b : Int) : Int := (Int64.ofInt a >>> ((Int32.ofInt b).toInt64 &&& 63)).toInt
def x_lcmp (a b : Int) : Int := if a < b then -1 else if a = b then 0 else 1
theorem x_div_eq {a b : Int} (ha : x_r32 a) (hb : x_r32 b) (h : b ≠ -1) : x_div a b = a.tdiv b := by
  unfold x_div
  rw [Int32.toInt_div_of_ne_right _ _ (fun e => h (by have := congrArg Int32.toInt e; rw [i32_toInt_r hb] at this; exact this)), i32_toInt_r ha, i32_toInt_r hb]
