/-! ===== bits of ints and longs ===== -/
theorem lc_R (a b : Int) : iR (if b < a then 1 else if a = b then 0 else -1) := by
  by_cases h1 : b < a
  · rw [if_pos h1]; exact ⟨by decide, by decide⟩
  · rw [if_neg h1]
    by_cases h2 : a = b
    · rw [if_pos h2]; exact ⟨by decide, by decide⟩
    · rw [if_neg h2]; exact ⟨by decide, by decide⟩
theorem ii_bv (z : Int) : (ii z).toBitVec = BitVec.ofInt 32 z := rfl
theorem ll_bv (z : Int) : (ll z).toBitVec = BitVec.ofInt 64 z := rfl
theorem ii_tn (z : Int) : (ii z).toBitVec.toNat = (z % 4294967296).toNat := by
  rw [ii_bv, BitVec.toNat_ofInt]
  rfl
theorem ii_nat (n : Nat) : nI n = ii (n : Int) := by
  unfold nI ii
  exact Int32.ofInt_eq_ofNat.symm
theorem ii_and255 (z : Int) : ii z &&& ii 255 = ii (z % 256) := by
  rw [pk_and (ii z) 8 (by decide +kernel), ii_nat, ii_tn]
  congr 1
  omega
theorem ll_shl8 (z : Int) : ll z <<< ((ii 8).toInt64 &&& 63) = ll (z * 256) := by
  rw [show ((ii 8).toInt64 &&& 63) = (8 : Int64) from by decide +kernel, ← ll_mul]
  apply Int64.toBitVec_inj.mp
  rw [Int64.toBitVec_shiftLeft, Int64.toBitVec_mul, show ((8 : Int64).toBitVec.smod 64) = 8#64 from by decide +kernel, show (ll 256).toBitVec = BitVec.twoPow 64 8 from by decide +kernel, BitVec.mul_twoPow_eq_shiftLeft]
  rfl
theorem ll_or8 (z b : Int) (h0 : 0 ≤ b) (h1 : b < 256) : ll (z * 256) ||| ll b = ll (z * 256 + b) := by
  apply Int64.toBitVec_inj.mp
  rw [Int64.toBitVec_or, ← ll_add, Int64.toBitVec_add]
  refine (BitVec.add_eq_or_of_and_eq_zero _ _ ?_).symm
  have e1 : (ll (z * 256)).toBitVec = (ll z).toBitVec <<< 8 := by
    rw [← ll_mul, Int64.toBitVec_mul, show (ll 256).toBitVec = BitVec.twoPow 64 8 from by decide +kernel, BitVec.mul_twoPow_eq_shiftLeft]
  rw [e1]
  apply BitVec.eq_of_getLsbD_eq
  intro i hi
  rw [BitVec.getLsbD_and, BitVec.getLsbD_shiftLeft]
  by_cases h8 : i < 8
  · simp [h8]
  · have e2 : (ll b).toBitVec.getLsbD i = false := by
      show (ll b).toBitVec.toNat.testBit i = false
      apply Nat.testBit_lt_two_pow
      rw [ll_bv, BitVec.toNat_ofInt]
      have : (b % ((2 ^ 64 : Nat) : Int)).toNat < 2 ^ 8 := by omega
      exact Nat.lt_of_lt_of_le this (Nat.pow_le_pow_right (by decide) (by omega))
    rw [e2]
    simp
def cmpI (x y : Int) : Int := if x < y then -1 else if x = y then 0 else 1
theorem cmpI_R (x y : Int) : -1 ≤ cmpI x y ∧ cmpI x y ≤ 1 := by
  unfold cmpI
  (repeat' split) <;> omega
