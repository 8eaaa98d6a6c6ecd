section JLC
variable {X : jx_T} {D : jd_T} {cc : ByteArray} {own : String} {ret : Option FieldType} {cs sl : Nat} {L : List sg_A} {lv : List (Nat × Value)} {pc : Nat} {st : List Value}
theorem jr_lcmp_xx {x y : Int64} (ok : jx_ok X D cc own ret) (d : decode cc pc = .ok (.lcmp, 1))
    (k : jw X cs sl L lv (pc + 1) (.int (ii (if y.toInt < x.toInt then 1 else if x.toInt = y.toInt then 0 else -1)) :: st)) : jw X cs sl L lv pc (.long y :: .long x :: st) := by
  have := jr_lcmp (a := x.toInt) (b := y.toInt) ok (ll_R x) (ll_R y) d k
  rw [ll_of, ll_of] at this
  exact this
theorem jr_lcmp_xl {x : Int64} {b : Int} (ok : jx_ok X D cc own ret) (hb : lR b) (d : decode cc pc = .ok (.lcmp, 1))
    (k : jw X cs sl L lv (pc + 1) (.int (ii (if b < x.toInt then 1 else if x.toInt = b then 0 else -1)) :: st)) : jw X cs sl L lv pc (.long (ll b) :: .long x :: st) := by
  have := jr_lcmp (a := x.toInt) (b := b) ok (ll_R x) hb d k
  rw [ll_of] at this
  exact this
theorem jr_lcmp_lx {a : Int} {y : Int64} (ok : jx_ok X D cc own ret) (ha : lR a) (d : decode cc pc = .ok (.lcmp, 1))
    (k : jw X cs sl L lv (pc + 1) (.int (ii (if y.toInt < a then 1 else if a = y.toInt then 0 else -1)) :: st)) : jw X cs sl L lv pc (.long y :: .long (ll a) :: st) := by
  have := jr_lcmp (a := a) (b := y.toInt) ok ha (ll_R y) d k
  rw [ll_of] at this
  exact this
end JLC
