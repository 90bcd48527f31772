/-! whole numbers and the machine's words -/
def R32 (x : Int) : Prop := -2147483648 ≤ x ∧ x ≤ 2147483647
def R64 (x : Int) : Prop := -9223372036854775808 ≤ x ∧ x ≤ 9223372036854775807
theorem w32_R (x : Int) : R32 (w32 x) := by unfold R32 w32; omega
theorem w64_R (x : Int) : R64 (w64 x) := by unfold R64 w64; omega
theorem w16_R (x : Int) : R32 (w16 x) := by unfold R32 w16; omega
theorem w8_R (x : Int) : R32 (w8 x) := by unfold R32 w8; omega
theorem w32_id {x : Int} (h : R32 x) : w32 x = x := by unfold R32 at h; unfold w32; omega
theorem w64_id {x : Int} (h : R64 x) : w64 x = x := by unfold R64 at h; unfold w64; omega
theorem w32_bmod (x : Int) : w32 x = x.bmod 4294967296 := by unfold w32; simp only [Int.bmod]; omega
theorem w64_bmod (x : Int) : w64 x = x.bmod 18446744073709551616 := by unfold w64; simp only [Int.bmod]; omega
theorem e32_to {x : Int} (h : R32 x) : (Int32.ofInt x).toInt = x := Int32.toInt_ofInt_of_le (by have := h.1; omega) (by have := h.2; omega)
theorem e64_to {x : Int} (h : R64 x) : (Int64.ofInt x).toInt = x := Int64.toInt_ofInt_of_le (by have := h.1; omega) (by have := h.2; omega)
theorem e32_toR (x : Int32) : R32 x.toInt := ⟨by have := Int32.le_toInt x; omega, by have := Int32.toInt_lt x; omega⟩
theorem e64_toR (x : Int64) : R64 x.toInt := ⟨by have := Int64.le_toInt x; omega, by have := Int64.toInt_lt x; omega⟩
theorem e32_w (x : Int) : Int32.ofInt (w32 x) = Int32.ofInt x := by
  apply Int32.toInt_inj.mp
  rw [e32_to (w32_R x), Int32.toInt_ofInt, w32_bmod]
theorem e64_w (x : Int) : Int64.ofInt (w64 x) = Int64.ofInt x := by
  apply Int64.toInt_inj.mp
  rw [e64_to (w64_R x), Int64.toInt_ofInt, w64_bmod]
theorem e32_inj {x y : Int} (hx : R32 x) (hy : R32 y) : Int32.ofInt x = Int32.ofInt y ↔ x = y := by
  rw [← Int32.toInt_inj, e32_to hx, e32_to hy]
theorem e64_inj {x y : Int} (hx : R64 x) (hy : R64 y) : Int64.ofInt x = Int64.ofInt y ↔ x = y := by
  rw [← Int64.toInt_inj, e64_to hx, e64_to hy]
theorem e32_lt {x y : Int} (hx : R32 x) (hy : R32 y) : Int32.ofInt x < Int32.ofInt y ↔ x < y := by
  rw [Int32.lt_iff_toInt_lt, e32_to hx, e32_to hy]
theorem e32_le {x y : Int} (hx : R32 x) (hy : R32 y) : Int32.ofInt x ≤ Int32.ofInt y ↔ x ≤ y := by
  rw [Int32.le_iff_toInt_le, e32_to hx, e32_to hy]
theorem e64_lt {x y : Int} (hx : R64 x) (hy : R64 y) : Int64.ofInt x < Int64.ofInt y ↔ x < y := by
  rw [Int64.lt_iff_toInt_lt, e64_to hx, e64_to hy]
theorem e32_div {x y : Int} (hx : R32 x) (hy : R32 y) : Int32.ofInt x / Int32.ofInt y = Int32.ofInt (w32 (x.tdiv y)) := by
  apply Int32.toInt_inj.mp
  rw [Int32.toInt_div, e32_to hx, e32_to hy, e32_to (w32_R _), w32_bmod]
theorem e64_div {x y : Int} (hx : R64 x) (hy : R64 y) : Int64.ofInt x / Int64.ofInt y = Int64.ofInt (w64 (x.tdiv y)) := by
  apply Int64.toInt_inj.mp
  rw [Int64.toInt_div, e64_to hx, e64_to hy, e64_to (w64_R _), w64_bmod]
theorem tmod_R {x y : Int} (hx : R32 x) : R32 (x.tmod y) := by
  have h := Int.natAbs_tmod x y
  have h2 : (x.tmod y).natAbs ≤ x.natAbs := by rw [h]; exact Nat.mod_le _ _
  have := hx.1
  have := hx.2
  rcases Int.lt_or_le x 0 with h0 | h0
  · have h3 : x.tmod y ≤ 0 := by
      have := Int.tmod_nonneg (a := -x) y (by omega)
      rw [Int.neg_tmod] at this
      omega
    constructor <;> omega
  · have h3 : 0 ≤ x.tmod y := Int.tmod_nonneg y h0
    constructor <;> omega
theorem e32_rem {x y : Int} (hx : R32 x) (hy : R32 y) : Int32.ofInt x - Int32.ofInt x / Int32.ofInt y * Int32.ofInt y = Int32.ofInt (x.tmod y) := by
  apply Int32.toInt_inj.mp
  rw [rem_toInt, e32_to hx, e32_to hy, e32_to (tmod_R hx)]
theorem e32_zero : Int32.ofInt 0 = 0 := rfl
theorem e32_nat {x : Int} (hx : R32 x) : (Int32.ofInt x).toNatClampNeg = x.toNat := by
  show (Int32.ofInt x).toInt.toNat = x.toNat
  rw [e32_to hx]
theorem e32_and {x y : Int} : Int32.ofInt x &&& Int32.ofInt y = Int32.ofInt (zand x y) := by unfold zand; rw [Int32.ofInt_toInt]
theorem e32_or {x y : Int} : Int32.ofInt x ||| Int32.ofInt y = Int32.ofInt (zor x y) := by unfold zor; rw [Int32.ofInt_toInt]
theorem e32_xor {x y : Int} : Int32.ofInt x ^^^ Int32.ofInt y = Int32.ofInt (zxor x y) := by unfold zxor; rw [Int32.ofInt_toInt]
theorem e32_shl {x y : Int} : Int32.ofInt x <<< (Int32.ofInt y &&& 31) = Int32.ofInt (zshl x y) := by unfold zshl; rw [Int32.ofInt_toInt]
theorem e32_shr {x y : Int} : Int32.ofInt x >>> (Int32.ofInt y &&& 31) = Int32.ofInt (zshr x y) := by unfold zshr; rw [Int32.ofInt_toInt]
theorem e32_ush {x y : Int} : ((Int32.ofInt x).toUInt32 >>> ((Int32.ofInt y).toUInt32 &&& 31)).toInt32 = Int32.ofInt (zush x y) := by unfold zush; rw [Int32.ofInt_toInt]
theorem zand_R (x y : Int) : R32 (zand x y) := e32_toR _
theorem zor_R (x y : Int) : R32 (zor x y) := e32_toR _
theorem zxor_R (x y : Int) : R32 (zxor x y) := e32_toR _
theorem zshl_R (x y : Int) : R32 (zshl x y) := e32_toR _
theorem zshr_R (x y : Int) : R32 (zshr x y) := e32_toR _
theorem zush_R (x y : Int) : R32 (zush x y) := e32_toR _
theorem w8_bmod (x : Int) : w8 x = x.bmod 256 := by unfold w8; simp only [Int.bmod]; omega
theorem w16_bmod (x : Int) : w16 x = x.bmod 65536 := by unfold w16; simp only [Int.bmod]; omega
theorem e8_i2b {x : Int} (hx : R32 x) : (Int32.ofInt x).toInt8.toInt32 = Int32.ofInt (w8 x) := by
  apply Int32.toInt_inj.mp
  rw [Int8.toInt_toInt32, Int32.toInt_toInt8, e32_to hx, e32_to (w8_R x), w8_bmod]
theorem e8_push (c : Int) : (Int8.ofInt c).toInt32 = Int32.ofInt (w8 c) := by
  apply Int32.toInt_inj.mp
  rw [Int8.toInt_toInt32, Int8.toInt_ofInt, e32_to (w8_R c), w8_bmod]
theorem e16_push (c : Int) : (Int16.ofInt c).toInt32 = Int32.ofInt (w16 c) := by
  apply Int32.toInt_inj.mp
  rw [Int16.toInt_toInt32, Int16.toInt_ofInt, e32_to (w16_R c), w16_bmod]
theorem e_i2l {x : Int} (hx : R32 x) : (Int32.ofInt x).toInt64 = Int64.ofInt x := by
  apply Int64.toInt_inj.mp
  rw [Int32.toInt_toInt64, e32_to hx, e64_to ⟨by have := hx.1; omega, by have := hx.2; omega⟩]
theorem e_l2i {x : Int} (hx : R64 x) : (Int64.ofInt x).toInt32 = Int32.ofInt (w32 x) := by
  apply Int32.toInt_inj.mp
  rw [Int64.toInt_toInt32, e64_to hx, e32_to (w32_R x), w32_bmod]
theorem R3264 {x : Int} (hx : R32 x) : R64 x := ⟨by have := hx.1; omega, by have := hx.2; omega⟩
