def mg_by (p : Int64) (s : Int32) : Int32 := (p.toUInt64 >>> (s.toInt64.toUInt64 &&& Int64.toUInt64 63)).toInt64.toInt32 &&& 255
def mg_bm (p : Int64) (k : Int32) : Int32 := (p >>> ((8 * k).toInt64 &&& 63)).toInt32 &&& 255
theorem ty_bv (b : BitVec 64) (n : Nat) (hn : n ≤ 56) : (b >>> n).signExtend 32 &&& 255#32 = (b.sshiftRight n).signExtend 32 &&& 255#32 := by
  apply BitVec.eq_of_getLsbD_eq
  intro j hj
  rw [BitVec.getLsbD_and, BitVec.getLsbD_and, BitVec.getLsbD_signExtend, BitVec.getLsbD_signExtend, if_pos (show j < 64 by omega), if_pos (show j < 64 by omega), BitVec.getLsbD_ushiftRight, BitVec.getLsbD_sshiftRight]
  by_cases h8 : j < 8
  · rw [if_pos (show n + j < 64 by omega), show decide (64 ≤ j) = false from decide_eq_false (by omega)]
    simp
  · have h255 : (255#32).getLsbD j = false := by
      have : ∀ j, j < 32 → ¬ j < 8 → (255#32).getLsbD j = false := by decide
      exact this j hj h8
    rw [h255, Bool.and_false, Bool.and_false]
theorem ty_e1 (p : Int64) (u : UInt64) (n : Nat) (hn : (u.toBitVec % 64#64).toNat = n) : ((p.toUInt64 >>> u).toInt64.toInt32 &&& 255).toBitVec = (p.toBitVec >>> n).signExtend 32 &&& 255#32 := by
  subst hn
  rfl
theorem ty_e2 (p u : Int64) (n : Nat) (hn : (u.toBitVec.smod 64#64).toNat = n) : ((p >>> u).toInt32 &&& 255).toBitVec = (p.toBitVec.sshiftRight n).signExtend 32 &&& 255#32 := by
  subst hn
  rfl
theorem ty_eq (p : Int64) : ∀ i, i < 8 → mg_by p (nI (8 * i)) = mg_bm p (nI i) := by
  intro i hi
  apply Int32.toBitVec_inj.mp
  unfold mg_by mg_bm
  refine (ty_e1 p _ (8 * i) ?_).trans ((ty_bv p.toBitVec (8 * i) (by omega)).trans (ty_e2 p _ (8 * i) ?_).symm)
  · have : ∀ i, i < 8 → (((nI (8 * i)).toInt64.toUInt64 &&& Int64.toUInt64 63).toBitVec % 64#64).toNat = 8 * i := by decide
    exact this i hi
  · have : ∀ i, i < 8 → (((8 * nI i).toInt64 &&& 63).toBitVec.smod 64#64).toNat = 8 * i := by decide
    exact this i hi
