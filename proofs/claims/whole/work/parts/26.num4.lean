/-- the int that a number is, wrapped -/
def w32 (z : Int) : Int := (z + 2147483648) % 4294967296 - 2147483648
theorem w32_R (z : Int) : iR (w32 z) := by unfold w32; constructor <;> omega
theorem w32_id {z : Int} (h : iR z) : w32 z = z := by have h1 := h.1; have h2 := h.2; unfold w32; omega
theorem ii_w32 (z : Int) : ii z = ii (w32 z) := by
  apply Int32.toInt_inj.mp
  rw [ii_toInt (w32_R z)]
  show (Int32.ofInt z).toInt = _
  rw [Int32.toInt_ofInt, Int.bmod_def]
  simp only [Int32.size]
  unfold w32
  split <;> omega
theorem ll_i32 (z : Int) : (ll z).toInt32 = ii (w32 z) := by rw [ll_i, ii_w32]
theorem ll_shl32 (z : Int) : ll z <<< ((ii 32).toInt64 &&& 63) = ll (z * 4294967296) := by
  rw [show ((ii 32).toInt64 &&& 63) = (32 : Int64) from by decide +kernel, ← ll_mul]
  apply Int64.toBitVec_inj.mp
  rw [Int64.toBitVec_shiftLeft, Int64.toBitVec_mul, show ((32 : Int64).toBitVec.smod 64) = 32#64 from by decide +kernel, show (ll 4294967296).toBitVec = BitVec.twoPow 64 32 from by decide +kernel, BitVec.mul_twoPow_eq_shiftLeft]
  rfl
theorem ll_shr32 {z : Int} (hz : lR z) : ll z >>> ((ii 32).toInt64 &&& 63) = ll (z / 4294967296) := by
  rw [show ((ii 32).toInt64 &&& 63) = (32 : Int64) from by decide +kernel]
  apply Int64.toInt_inj.mp
  have h1 := hz.1
  have h2 := hz.2
  rw [ll_toInt (z := z / 4294967296) ⟨by omega, by omega⟩]
  show ((ll z) >>> (32 : Int64)).toBitVec.toInt = _
  rw [Int64.toBitVec_shiftRight, show ((32 : Int64).toBitVec.smod 64) = 32#64 from by decide +kernel]
  show (BitVec.sshiftRight (ll z).toBitVec 32).toInt = _
  rw [BitVec.toInt_sshiftRight]
  show (ll z).toInt >>> 32 = _
  rw [ll_toInt hz, Int.shiftRight_eq_div_pow]
  rfl
theorem ll_and32 (z : Int) : ll z &&& ll 4294967295 = ll (z % 4294967296) := by
  apply Int64.toBitVec_inj.mp
  rw [Int64.toBitVec_and]
  apply BitVec.eq_of_toNat_eq
  rw [BitVec.toNat_and, ll_bv, ll_bv, ll_bv, BitVec.toNat_ofInt, BitVec.toNat_ofInt, BitVec.toNat_ofInt]
  have e : ((4294967295 : Int) % ((2 ^ 64 : Nat) : Int)).toNat = 2 ^ 32 - 1 := by decide
  rw [e, Nat.and_two_pow_sub_one_eq_mod]
  omega
theorem ll_or32 (z b : Int) (h0 : 0 ≤ b) (h1 : b < 4294967296) : ll (z * 4294967296) ||| ll b = ll (z * 4294967296 + b) := by
  apply Int64.toBitVec_inj.mp
  rw [Int64.toBitVec_or, ← ll_add, Int64.toBitVec_add]
  refine (BitVec.add_eq_or_of_and_eq_zero _ _ ?_).symm
  have e1 : (ll (z * 4294967296)).toBitVec = (ll z).toBitVec <<< 32 := by
    rw [← ll_mul, Int64.toBitVec_mul, show (ll 4294967296).toBitVec = BitVec.twoPow 64 32 from by decide +kernel, BitVec.mul_twoPow_eq_shiftLeft]
  rw [e1]
  apply BitVec.eq_of_getLsbD_eq
  intro i hi
  rw [BitVec.getLsbD_and, BitVec.getLsbD_shiftLeft]
  by_cases h8 : i < 32
  · simp [h8]
  · have e2 : (ll b).toBitVec.getLsbD i = false := by
      show (ll b).toBitVec.toNat.testBit i = false
      apply Nat.testBit_lt_two_pow
      rw [ll_bv, BitVec.toNat_ofInt]
      have : (b % ((2 ^ 64 : Nat) : Int)).toNat < 2 ^ 32 := by omega
      exact Nat.lt_of_lt_of_le this (Nat.pow_le_pow_right (by decide) (by omega))
    rw [e2]
    simp
theorem jr_l2iw {X : jx_T} {D : jd_T} {cc : ByteArray} {own : String} {ret : Option FieldType} {cs sl : Nat} {L : List sg_A} {lv : List (Nat × Value)} {pc : Nat} {st : List Value} {a : Int} (ok : jx_ok X D cc own ret) (d : decode cc pc = .ok (.l2i, 1))
    (k : jw X cs sl L lv (pc + 1) (.int (ii (w32 a)) :: st)) : jw X cs sl L lv pc (.long (ll a) :: st) := by
  intro h H locs ls h1 h2 h3 h4 h5
  exact lv_l2i ok.1 ok.2.1 d (ll_i32 a) (k h H locs ls h1 h2 h3 h4 h5)
