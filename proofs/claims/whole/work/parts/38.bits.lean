/-! four bytes -/
theorem ad_i {b : Nat} (hb : b < 2 ^ 31) : (nI b).toInt64.toBitVec.toNat = b := by
  have h1 : (nI b).toInt64.toBitVec = (BitVec.ofNat 32 b).signExtend 64 := rfl
  have h2 : (BitVec.ofNat 32 b).msb = false := by
    rw [BitVec.msb_eq_false_iff_two_mul_lt, BitVec.toNat_ofNat]; omega
  rw [h1, BitVec.signExtend_eq_setWidth_of_msb_false h2, BitVec.toNat_setWidth, BitVec.toNat_ofNat]
  omega
theorem ad_l {acc b : Nat} (ha : acc < 2 ^ 24) (hb : b < 256) : (Int64.ofNat acc <<< ((8 : Int32).toInt64 &&& 63)) ||| (nI b).toInt64 = Int64.ofNat (acc * 256 + b) := by
  apply Int64.toBitVec_inj.mp
  apply BitVec.eq_of_toNat_eq
  have e1 : (Int64.ofNat acc <<< ((8 : Int32).toInt64 &&& 63)).toBitVec = BitVec.ofNat 64 acc <<< 8 := rfl
  have e2 : (Int64.ofNat (acc * 256 + b)).toBitVec = BitVec.ofNat 64 (acc * 256 + b) := rfl
  rw [Int64.toBitVec_or, BitVec.toNat_or, ad_i (by omega), e1, e2, BitVec.toNat_shiftLeft, BitVec.toNat_ofNat, BitVec.toNat_ofNat, Nat.mod_eq_of_lt (show acc < 2 ^ 64 by omega), Nat.shiftLeft_eq, Nat.mod_eq_of_lt (show acc * 2 ^ 8 < 2 ^ 64 by omega), Nat.mod_eq_of_lt (show acc * 256 + b < 2 ^ 64 by omega)]
  have := Nat.shiftLeft_add_eq_or_of_lt (b := b) (i := 8) (by omega) acc
  rw [Nat.shiftLeft_eq] at this
  rw [← this]
theorem ad_n {acc b : Nat} (hb : b < 256) : (nI acc <<< ((8 : Int32) &&& 31)) ||| nI b = nI (acc * 256 + b) := by
  apply Int32.toBitVec_inj.mp
  apply BitVec.eq_of_toNat_eq
  have e1 : (nI acc <<< ((8 : Int32) &&& 31)).toBitVec = BitVec.ofNat 32 acc <<< 8 := rfl
  have e2 : (nI (acc * 256 + b)).toBitVec = BitVec.ofNat 32 (acc * 256 + b) := rfl
  have e3 : (nI b).toBitVec = BitVec.ofNat 32 b := rfl
  rw [Int32.toBitVec_or, BitVec.toNat_or, e1, e2, e3, BitVec.toNat_shiftLeft, BitVec.toNat_ofNat, BitVec.toNat_ofNat, BitVec.toNat_ofNat, Nat.mod_eq_of_lt (show b < 2 ^ 32 by omega), Nat.shiftLeft_eq]
  have e4 : acc % 2 ^ 32 * 2 ^ 8 % 2 ^ 32 = (acc % 2 ^ 24) <<< 8 := by rw [Nat.shiftLeft_eq]; omega
  rw [e4, ← Nat.shiftLeft_add_eq_or_of_lt (b := b) (i := 8) (by omega), Nat.shiftLeft_eq]
  omega
