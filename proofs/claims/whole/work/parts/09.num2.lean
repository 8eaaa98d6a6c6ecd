/-! ===== bits of ints and longs ===== -/
theorem lc_R (a b : Int) : iR (if b < a then 1 else if a = b then 0 else -1) := by
  by_cases h1 : b < a
  · rw [if_pos h1]; exact ⟨by decide, by decide⟩
  · rw [if_neg h1]
    by_cases h2 : a = b
    · rw [if_pos h2]; exact ⟨by decide, by decide⟩
    · rw [if_neg h2]; exact ⟨by decide, by decide⟩
theorem ii_bv (z : Int) : (ii z).toBitVec = BitVec.ofInt 32 z := rfl
theorem ll_bv (z : Int) : (ll z).toBitVec = BitVec.ofInt 64 z := rfl
theorem ii_tn (z : Int) : (ii z).toBitVec.toNat = (z % 4294967296).toNat := by
  rw [ii_bv, BitVec.toNat_ofInt]
  rfl
theorem ii_nat (n : Nat) : nI n = ii (n : Int) := by
  unfold nI ii
  exact Int32.ofInt_eq_ofNat.symm
theorem ii_and255 (z : Int) : ii z &&& ii 255 = ii (z % 256) := by
  rw [pk_and (ii z) 8 (by decide +kernel), ii_nat, ii_tn]
  congr 1
  omega
theorem ll_shl8 (z : Int) : ll z <<< ((ii 8).toInt64 &&& 63) = ll (z * 256) := by
  rw [show ((ii 8).toInt64 &&& 63) = (8 : Int64) from by decide +kernel, ← ll_mul]
  apply Int64.toBitVec_inj.mp
  rw [Int64.toBitVec_shiftLeft, Int64.toBitVec_mul, show ((8 : Int64).toBitVec.smod 64) = 8#64 from by decide +kernel, show (ll 256).toBitVec = BitVec.twoPow 64 8 from by decide +kernel, BitVec.mul_twoPow_eq_shiftLeft]
  rfl
theorem ll_or8 (z b : Int) (h0 : 0 ≤ b) (h1 : b < 256) : ll (z * 256) ||| ll b = ll (z * 256 + b) := by
  apply Int64.toBitVec_inj.mp
  rw [Int64.toBitVec_or, ← ll_add, Int64.toBitVec_add]
  refine (BitVec.add_eq_or_of_and_eq_zero _ _ ?_).symm
  have e1 : (ll (z * 256)).toBitVec = (ll z).toBitVec <<< 8 := by
    rw [← ll_mul, Int64.toBitVec_mul, show (ll 256).toBitVec = BitVec.twoPow 64 8 from by decide +kernel, BitVec.mul_twoPow_eq_shiftLeft]
  rw [e1]
  apply BitVec.eq_of_getLsbD_eq
  intro i hi
  rw [BitVec.getLsbD_and, BitVec.getLsbD_shiftLeft]
  by_cases h8 : i < 8
  · simp [h8]
  · have e2 : (ll b).toBitVec.getLsbD i = false := by
      show (ll b).toBitVec.toNat.testBit i = false
      apply Nat.testBit_lt_two_pow
      rw [ll_bv, BitVec.toNat_ofInt]
      have : (b % ((2 ^ 64 : Nat) : Int)).toNat < 2 ^ 8 := by omega
      exact Nat.lt_of_lt_of_le this (Nat.pow_le_pow_right (by decide) (by omega))
    rw [e2]
    simp
def cmpI (x y : Int) : Int := if x < y then -1 else if x = y then 0 else 1
theorem cmpI_R (x y : Int) : -1 ≤ cmpI x y ∧ cmpI x y ≤ 1 := by
  unfold cmpI
  (repeat' split) <;> omega
section JM
variable {X : jx_T} {D : jd_T} {cc : ByteArray} {own : String} {ret : Option FieldType} {cs sl : Nat} {L : List sg_A} {lv : List (Nat × Value)} {pc : Nat} {st : List Value} {RM : Room}
theorem jr_imax {index : Nat} {a b : Int} (ok : jx_ok X D cc own ret) (hl : Cond.methodLink own index Lib.Math.max.name ∈ jw_all) (hs : Cond.static Lib.Math.max.name ∈ jw_all) (hi : Cond.initialized "java/lang/Math" ∈ jw_all) (hc : Cond.code Lib.Math.max.name Lib.Math.max.code 2 (some .int) ∈ jw_all) (ha : iR a) (hb : iR b) (hR : jx_R X = RM) (hF : 1 ≤ RM.frames ∧ 30 ≤ RM.locals) (hf : cs ≤ RM.cells ∧ sl ≤ RM.slots) (hw : (st.map fun v => v.category).sum ≤ 8) (d : decode cc pc = .ok (.invokestatic index, 3))
    (k : jw X cs sl L lv (pc + 3) (.int (ii (max a b)) :: st)) : jw X cs sl L lv pc (.int (ii b) :: .int (ii a) :: st) := by
  intro h H locs ls h1 h2 h3 h4 h5
  subst hR
  refine va_mmax ok.1 ok.2.1 (ok.2.2.1.trans h5.1.symm) ok.2.2.2.1 (ok.2.2.2.2.1 _ hl) (ok.2.2.2.2.1 _ hs) (ok.2.2.2.2.1 _ hi) (ok.2.2.2.2.1 _ hc) hF.1 (by have := hF.2; omega) hf.1 hf.2 d ?_
  rw [show (if ii a < ii b then ii b else ii a) = ii (max a b) from by
    by_cases q : a < b
    · rw [if_pos ((ii_lt ha hb).mpr q)]
      congr 1; omega
    · rw [if_neg (fun z => q ((ii_lt ha hb).mp z))]
      congr 1; omega]
  exact k h H locs ls h1 h2 h3 h4 h5
theorem jr_imin {index : Nat} {a b : Int} (ok : jx_ok X D cc own ret) (hl : Cond.methodLink own index Lib.Math.min.name ∈ jw_all) (hs : Cond.static Lib.Math.min.name ∈ jw_all) (hi : Cond.initialized "java/lang/Math" ∈ jw_all) (hc : Cond.code Lib.Math.min.name Lib.Math.min.code 2 (some .int) ∈ jw_all) (ha : iR a) (hb : iR b) (hR : jx_R X = RM) (hF : 1 ≤ RM.frames ∧ 30 ≤ RM.locals) (hf : cs ≤ RM.cells ∧ sl ≤ RM.slots) (hw : (st.map fun v => v.category).sum ≤ 8) (d : decode cc pc = .ok (.invokestatic index, 3))
    (k : jw X cs sl L lv (pc + 3) (.int (ii (min a b)) :: st)) : jw X cs sl L lv pc (.int (ii b) :: .int (ii a) :: st) := by
  intro h H locs ls h1 h2 h3 h4 h5
  subst hR
  refine va_mmin ok.1 ok.2.1 (ok.2.2.1.trans h5.1.symm) ok.2.2.2.1 (ok.2.2.2.2.1 _ hl) (ok.2.2.2.2.1 _ hs) (ok.2.2.2.2.1 _ hi) (ok.2.2.2.2.1 _ hc) hF.1 (by have := hF.2; omega) hf.1 hf.2 d ?_
  rw [show (if ii b < ii a then ii b else ii a) = ii (min a b) from by
    by_cases q : b < a
    · rw [if_pos ((ii_lt hb ha).mpr q)]
      congr 1; omega
    · rw [if_neg (fun z => q ((ii_lt hb ha).mp z))]
      congr 1; omega]
  exact k h H locs ls h1 h2 h3 h4 h5
theorem jr_lmax {index : Nat} {a b : Int} (ok : jx_ok X D cc own ret) (hl : Cond.methodLink own index Lib.MathLoose.max_long.x ∈ jw_all) (hs : Cond.static Lib.MathLoose.max_long.x ∈ jw_all) (hi : Cond.initialized "java/lang/Math" ∈ jw_all) (hc : Cond.code Lib.MathLoose.max_long.x Lib.MathLoose.max_long.code 4 (some .long) ∈ jw_all) (ha : lR a) (hb : lR b) (hR : jx_R X = RM) (hF : 1 ≤ RM.frames ∧ 30 ≤ RM.locals) (hf : cs ≤ RM.cells ∧ sl ≤ RM.slots) (hw : (st.map fun v => v.category).sum ≤ 8) (d : decode cc pc = .ok (.invokestatic index, 3))
    (k : jw X cs sl L lv (pc + 3) (.long (ll (max a b)) :: st)) : jw X cs sl L lv pc (.long (ll b) :: .long (ll a) :: st) := by
  intro h H locs ls h1 h2 h3 h4 h5
  subst hR
  refine va_mmax_long ok.1 ok.2.1 (ok.2.2.1.trans h5.1.symm) ok.2.2.2.1 (ok.2.2.2.2.1 _ hl) (ok.2.2.2.2.1 _ hs) (ok.2.2.2.2.1 _ hi) (ok.2.2.2.2.1 _ hc) hF.1 (by have := hF.2; omega) hf.1 hf.2 d ?_
  rw [show (if ll b < ll a then ll a else ll b) = ll (max a b) from by
    by_cases q : b < a
    · rw [if_pos ((ll_lt hb ha).mpr q)]
      congr 1; omega
    · rw [if_neg (fun z => q ((ll_lt hb ha).mp z))]
      congr 1; omega]
  exact k h H locs ls h1 h2 h3 h4 h5
theorem jr_lmin {index : Nat} {a b : Int} (ok : jx_ok X D cc own ret) (hl : Cond.methodLink own index Lib.MathLoose.min_long.x ∈ jw_all) (hs : Cond.static Lib.MathLoose.min_long.x ∈ jw_all) (hi : Cond.initialized "java/lang/Math" ∈ jw_all) (hc : Cond.code Lib.MathLoose.min_long.x Lib.MathLoose.min_long.code 4 (some .long) ∈ jw_all) (ha : lR a) (hb : lR b) (hR : jx_R X = RM) (hF : 1 ≤ RM.frames ∧ 30 ≤ RM.locals) (hf : cs ≤ RM.cells ∧ sl ≤ RM.slots) (hw : (st.map fun v => v.category).sum ≤ 8) (d : decode cc pc = .ok (.invokestatic index, 3))
    (k : jw X cs sl L lv (pc + 3) (.long (ll (min a b)) :: st)) : jw X cs sl L lv pc (.long (ll b) :: .long (ll a) :: st) := by
  intro h H locs ls h1 h2 h3 h4 h5
  subst hR
  refine va_mmin_long ok.1 ok.2.1 (ok.2.2.1.trans h5.1.symm) ok.2.2.2.1 (ok.2.2.2.2.1 _ hl) (ok.2.2.2.2.1 _ hs) (ok.2.2.2.2.1 _ hi) (ok.2.2.2.2.1 _ hc) hF.1 (by have := hF.2; omega) hf.1 hf.2 d ?_
  rw [show (if ll b < ll a then ll b else ll a) = ll (min a b) from by
    by_cases q : b < a
    · rw [if_pos ((ll_lt hb ha).mpr q)]
      congr 1; omega
    · rw [if_neg (fun z => q ((ll_lt hb ha).mp z))]
      congr 1; omega]
  exact k h H locs ls h1 h2 h3 h4 h5
end JM
