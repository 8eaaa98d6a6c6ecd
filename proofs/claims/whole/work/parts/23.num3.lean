theorem jg_at {X : jx_T} {α : Type} {E : jg_T α} (fin : jg_fin X E) (u : α) : jx_fin X (E u).2.2.2.1 (E u).2.2.2.2 (fun _ : Unit => ((E u).1, (E u).2.1, (E u).2.2.1)) := fun _ h o t h1 h2 h3 h4 h5 h6 h7 h8 h9 => fin u h o t h1 h2 h3 h4 h5 h6 h7 h8 h9
section JGR
variable {X : jx_T} {D : jd_T} {cc : ByteArray} {own : String} {ret : Option FieldType} {cs sl : Nat} {L : List sg_A} {lv : List (Nat × Value)} {pc : Nat} {st : List Value} {RM rm : Room} {y : MethodName} {bytes : ByteArray} {maxL index n : Nat} {rt : Option FieldType} {As rest : List Value} {Lc Lr : List sg_A} {α : Type} {Lo : α → List sg_A} {v : α → Value} {φ : α → Prop} {mc ms : α → Nat}
theorem jr_gV1 {ci b : Nat} {C : String} {T : u_T} {N : Nat} {fs : List Value} (ks rs : List Nat) (L' : α → List sg_A) (ok : jx_ok X D cc own ret) (hR : jx_R X = RM) (hg : jm_V own index C y bytes maxL rt n) (q0 : Nat) (hM : jg_C (jx_l X) D y bytes maxL rt rm (.ref b :: As) Lc (fun u : α => (.returned (some (v u)), φ u, Lo u, mc u, ms u)))
    (hp : (ks ++ rs).Perm (List.range L.length)) (hc : sg_sel L ks = Lc) (hr : sg_sel L rs = Lr) (hL : ∀ u, Lo u ++ Lr = L' u) (hq : L[q0]? = some (ob D b ci fs)) (hcl : vwCl[ci]? = some (C, T, N)) (hst : st = As.reverse ++ .ref b :: rest) (hn : As.length = n) (hw : (rest.map fun v => v.category).sum ≤ 8) (hF : rm.frames + 1 ≤ RM.frames ∧ 8 + (maxL + 11) + rm.locals ≤ RM.locals) (hf : cs + rm.cells ≤ RM.cells ∧ sl + rm.slots ≤ RM.slots) (d : decode cc pc = .ok (.invokevirtual index, 3))
    (kk : ∀ u, φ u → jw X (cs + mc u) (sl + ms u) (L' u) lv (pc + 3) (v u :: rest)) : jw X cs sl L lv pc st := by
  subst hR
  exact jg_callV ks rs Lc Lr ok hg hM hp hc hr q0 hq hcl hst hn hw hF hf (v := fun u => some (v u)) (fun _ => rfl) d (fun u h => by have z := kk u h; rw [← hL u] at z; exact z)
theorem jr_gV0 {ci b : Nat} {C : String} {T : u_T} {N : Nat} {fs : List Value} (ks rs : List Nat) (L' : α → List sg_A) (ok : jx_ok X D cc own ret) (hR : jx_R X = RM) (hg : jm_V own index C y bytes maxL rt n) (q0 : Nat) (hM : jg_C (jx_l X) D y bytes maxL rt rm (.ref b :: As) Lc (fun u : α => (.returned none, φ u, Lo u, mc u, ms u)))
    (hp : (ks ++ rs).Perm (List.range L.length)) (hc : sg_sel L ks = Lc) (hr : sg_sel L rs = Lr) (hL : ∀ u, Lo u ++ Lr = L' u) (hq : L[q0]? = some (ob D b ci fs)) (hcl : vwCl[ci]? = some (C, T, N)) (hst : st = As.reverse ++ .ref b :: rest) (hn : As.length = n) (hw : (rest.map fun v => v.category).sum ≤ 8) (hF : rm.frames + 1 ≤ RM.frames ∧ 8 + (maxL + 11) + rm.locals ≤ RM.locals) (hf : cs + rm.cells ≤ RM.cells ∧ sl + rm.slots ≤ RM.slots) (d : decode cc pc = .ok (.invokevirtual index, 3))
    (kk : ∀ u, φ u → jw X (cs + mc u) (sl + ms u) (L' u) lv (pc + 3) rest) : jw X cs sl L lv pc st := by
  subst hR
  exact jg_callV ks rs Lc Lr ok hg hM hp hc hr q0 hq hcl hst hn hw hF hf (v := fun _ => none) (fun _ => rfl) d (fun u h => by have z := kk u h; rw [← hL u] at z; exact z)
end JGR
/-- the byte that a number is, with its sign -/
def sb (w : Int) : Int := (w + 128) % 256 - 128
theorem sb_R (w : Int) : -128 ≤ sb w ∧ sb w ≤ 127 := by unfold sb; omega
theorem sb_mod (w : Int) : sb w % 256 = w % 256 := by unfold sb; omega
theorem sb_id {w : Int} (h : -128 ≤ w ∧ w ≤ 127) : sb w = w := by unfold sb; omega
theorem ii_i2b (w : Int) : (ii w).toInt8.toInt32 = ii (sb w) := by
  apply Int32.toInt_inj.mp
  have hr : (ii (sb w)).toInt = sb w := ii_toInt (by have := sb_R w; constructor <;> omega)
  rw [Int8.toInt_toInt32, Int32.toInt_toInt8, hr]
  show (Int32.ofInt w).toInt.bmod (2 ^ 8) = sb w
  rw [Int32.toInt_ofInt]
  unfold sb
  rw [Int.bmod_def, Int.bmod_def]
  simp only [Int32.size]
  split <;> split <;> omega
theorem fit_b {z : Int} (h : -128 ≤ z ∧ z ≤ 127) : fits .byte (.int (ii z)) = true := by
  rw [← sb_id h, ← ii_i2b]
  exact pk_fb _
theorem nar_b {z : Int} (h : -128 ≤ z ∧ z ≤ 127) : narrow .byte (.int (ii z)) = .int (ii z) := by
  rw [← sb_id h, ← ii_i2b]
  exact pk_nb _
theorem ii_shr24 {z : Int} (hz : iR z) : ii z >>> (ii 24 &&& 31) = ii (z / 16777216) := by
  apply Int32.toInt_inj.mp
  rw [pk_shr (ii z) (ii 24 &&& 31) 24 (by decide +kernel), ii_toInt hz, Int.shiftRight_eq_div_pow]
  have h1 := hz.1
  have h2 := hz.2
  have e : ((2 ^ 24 : Nat) : Int) = 16777216 := by decide
  rw [e]
  exact (ii_toInt ⟨by omega, by omega⟩).symm
theorem ii_shr16 {z : Int} (hz : iR z) : ii z >>> (ii 16 &&& 31) = ii (z / 65536) := by
  apply Int32.toInt_inj.mp
  rw [pk_shr (ii z) (ii 16 &&& 31) 16 (by decide +kernel), ii_toInt hz, Int.shiftRight_eq_div_pow]
  have h1 := hz.1
  have h2 := hz.2
  have e : ((2 ^ 16 : Nat) : Int) = 65536 := by decide
  rw [e]
  exact (ii_toInt ⟨by omega, by omega⟩).symm
theorem ii_shr8 {z : Int} (hz : iR z) : ii z >>> (ii 8 &&& 31) = ii (z / 256) := by
  apply Int32.toInt_inj.mp
  rw [pk_shr (ii z) (ii 8 &&& 31) 8 (by decide +kernel), ii_toInt hz, Int.shiftRight_eq_div_pow]
  have h1 := hz.1
  have h2 := hz.2
  have e : ((2 ^ 8 : Nat) : Int) = 256 := by decide
  rw [e]
  exact (ii_toInt ⟨by omega, by omega⟩).symm
theorem ii_shr0 {z : Int} (hz : iR z) : ii z >>> (ii 0 &&& 31) = ii (z / 1) := by
  apply Int32.toInt_inj.mp
  rw [pk_shr (ii z) (ii 0 &&& 31) 0 (by decide +kernel), ii_toInt hz, Int.shiftRight_eq_div_pow]
  have h1 := hz.1
  have h2 := hz.2
  have e : ((2 ^ 0 : Nat) : Int) = 1 := by decide
  rw [e]
  exact (ii_toInt ⟨by omega, by omega⟩).symm
