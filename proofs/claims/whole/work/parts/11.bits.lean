/-! bits of small whole numbers -/
theorem zs_l : ∀ n, n < 32 → ((Int32.ofInt ((n : Nat) : Int) &&& 31).toBitVec.smod 32).toNat = n := by decide +kernel
theorem zshr_div {x : Int} (hx : R32 x) {n : Nat} (hn : n < 32) : zshr x n = x / 2 ^ n := by
  unfold zshr
  rw [← Int32.toInt_toBitVec, Int32.toBitVec_shiftRight]
  show ((Int32.ofInt x).toBitVec.sshiftRight ((Int32.ofInt ((n : Nat) : Int) &&& 31).toBitVec.smod 32).toNat).toInt = _
  rw [zs_l n hn, BitVec.toInt_sshiftRight, Int32.toInt_toBitVec, e32_to hx, Int.shiftRight_eq_div_pow]
  rfl
theorem zbv (a : Nat) : (Int32.ofInt (a : Int)).toBitVec = BitVec.ofNat 32 a := by
  show BitVec.ofInt 32 (a : Int) = _
  exact BitVec.ofInt_natCast 32 a
theorem ztn {a : Nat} (h : a < 2147483648) : (BitVec.ofNat 32 a).toInt = (a : Int) := by
  rw [BitVec.toInt_eq_toNat_of_lt]
  · rw [BitVec.toNat_ofNat, Nat.mod_eq_of_lt (by omega)]
  · rw [BitVec.toNat_ofNat, Nat.mod_eq_of_lt (by omega)]; omega
theorem zand_nat {a b : Nat} (ha : a < 2147483648) : zand (a : Int) (b : Int) = ((a &&& b : Nat) : Int) := by
  unfold zand
  rw [← Int32.toInt_toBitVec, Int32.toBitVec_and, zbv, zbv, BitVec.ofNat_and.symm]
  exact ztn (Nat.lt_of_le_of_lt Nat.and_le_left ha)
theorem zor_nat {a b : Nat} (ha : a < 2147483648) (hb : b < 2147483648) : zor (a : Int) (b : Int) = ((a ||| b : Nat) : Int) := by
  unfold zor
  rw [← Int32.toInt_toBitVec, Int32.toBitVec_or, zbv, zbv, BitVec.ofNat_or.symm]
  exact ztn (Nat.or_lt_two_pow (n := 31) ha hb)
theorem zxor_nat {a b : Nat} (ha : a < 2147483648) (hb : b < 2147483648) : zxor (a : Int) (b : Int) = ((a ^^^ b : Nat) : Int) := by
  unfold zxor
  rw [← Int32.toInt_toBitVec, Int32.toBitVec_xor, zbv, zbv, BitVec.ofNat_xor.symm]
  exact ztn (Nat.xor_lt_two_pow (n := 31) ha hb)
theorem zop {p x : Int} (h1 : 0 ≤ p) (h2 : p ≤ 255) (h3 : 0 ≤ x) (h4 : x ≤ 65535) : zshr (p * 65536 + x) 16 = p ∧ zand (p * 65536 + x) 65535 = x := by
  refine ⟨?_, ?_⟩
  · rw [show (16 : Int) = ((16 : Nat) : Int) from rfl, zshr_div ⟨by omega, by omega⟩ (by decide)]; omega
  · obtain ⟨a, ha⟩ : ∃ a : Nat, p * 65536 + x = a := ⟨(p * 65536 + x).toNat, by omega⟩
    rw [ha, show (65535 : Int) = ((65535 : Nat) : Int) from rfl, zand_nat (by omega), show 65535 = 2 ^ 16 - 1 from rfl, Nat.and_two_pow_sub_one_eq_mod]; omega
theorem zbit {x : Int} (h0 : 0 ≤ x) (hx : x ≤ 2147483647) {n : Nat} (hn : n < 32) : zand (zshr x n) 1 = x / 2 ^ n % 2 := by
  rw [zshr_div ⟨by omega, hx⟩ hn]
  have h1 : 0 ≤ x / 2 ^ n := Int.ediv_nonneg h0 (Int.pow_nonneg (by decide))
  have h2 : x / 2 ^ n ≤ x := Int.ediv_le_self _ h0
  obtain ⟨a, ha⟩ : ∃ a : Nat, x / 2 ^ n = a := ⟨(x / 2 ^ n).toNat, by omega⟩
  rw [ha, show (1 : Int) = ((1 : Nat) : Int) from rfl, zand_nat (by omega), show (1 : Nat) = 2 ^ 1 - 1 from rfl, Nat.and_two_pow_sub_one_eq_mod]
  omega
