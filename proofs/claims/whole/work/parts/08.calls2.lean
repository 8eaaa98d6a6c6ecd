/-! ===== calls whose end is one: rows with everything in its place ===== -/
section JD
variable {X : jx_T} {D : jd_T} {cc : ByteArray} {own : String} {ret : Option FieldType} {cs sl : Nat} {L : List sg_A} {lv : List (Nat × Value)} {pc : Nat} {st : List Value} {RM rm : Room} {y : MethodName} {bytes : ByteArray} {maxL index n : Nat} {rt : Option FieldType} {As rest : List Value} {Lc Lr Lo : List sg_A} {v : Value} {φ : Prop}
theorem jr_cV1 {ci b : Nat} {C : String} {T : u_T} {N : Nat} {fs : List Value} (ks rs : List Nat) (L' : List sg_A) (cs' sl' : Nat) (ok : jx_ok X D cc own ret) (hR : jx_R X = RM) (hg : jm_V own index C y bytes maxL rt n) (q0 : Nat) (hM : jc_C (jx_l X) D y bytes maxL rt rm (.ref b :: As) Lc (fun _ : Unit => (.returned (some v), φ, Lo)))
    (hp : (ks ++ rs).Perm (List.range L.length)) (hc : sg_sel L ks = Lc) (hr : sg_sel L rs = Lr) (hL : Lo ++ Lr = L') (hq : L[q0]? = some (ob D b ci fs)) (hcl : vwCl[ci]? = some (C, T, N)) (hst : st = As.reverse ++ .ref b :: rest) (hn : As.length = n) (hw : (rest.map fun v => v.category).sum ≤ 8) (hF : rm.frames + 1 ≤ RM.frames ∧ 8 + (maxL + 11) + rm.locals ≤ RM.locals) (hcs : cs + rm.cells = cs') (hsl : sl + rm.slots = sl') (hf : cs' ≤ RM.cells ∧ sl' ≤ RM.slots) (d : decode cc pc = .ok (.invokevirtual index, 3))
    (kk : φ → jw X cs' sl' L' lv (pc + 3) (v :: rest)) : jw X cs sl L lv pc st := by
  subst hL hcs hsl hR
  exact jr_callV ks rs Lc Lr ok hg hM hp hc hr q0 hq hcl hst hn hw hF hf (v := fun _ => some v) (fun _ => rfl) d (fun _ h => kk h)
theorem jr_cV0 {ci b : Nat} {C : String} {T : u_T} {N : Nat} {fs : List Value} (ks rs : List Nat) (L' : List sg_A) (cs' sl' : Nat) (ok : jx_ok X D cc own ret) (hR : jx_R X = RM) (hg : jm_V own index C y bytes maxL rt n) (q0 : Nat) (hM : jc_C (jx_l X) D y bytes maxL rt rm (.ref b :: As) Lc (fun _ : Unit => (.returned none, φ, Lo)))
    (hp : (ks ++ rs).Perm (List.range L.length)) (hc : sg_sel L ks = Lc) (hr : sg_sel L rs = Lr) (hL : Lo ++ Lr = L') (hq : L[q0]? = some (ob D b ci fs)) (hcl : vwCl[ci]? = some (C, T, N)) (hst : st = As.reverse ++ .ref b :: rest) (hn : As.length = n) (hw : (rest.map fun v => v.category).sum ≤ 8) (hF : rm.frames + 1 ≤ RM.frames ∧ 8 + (maxL + 11) + rm.locals ≤ RM.locals) (hcs : cs + rm.cells = cs') (hsl : sl + rm.slots = sl') (hf : cs' ≤ RM.cells ∧ sl' ≤ RM.slots) (d : decode cc pc = .ok (.invokevirtual index, 3))
    (kk : φ → jw X cs' sl' L' lv (pc + 3) rest) : jw X cs sl L lv pc st := by
  subst hL hcs hsl hR
  exact jr_callV ks rs Lc Lr ok hg hM hp hc hr q0 hq hcl hst hn hw hF hf (v := fun _ => none) (fun _ => rfl) d (fun _ h => kk h)
theorem jr_cS1 (ks rs : List Nat) (L' : List sg_A) (cs' sl' : Nat) (ok : jx_ok X D cc own ret) (hR : jx_R X = RM) (hg : jm_S own index y bytes maxL rt n) (hM : jc_C (jx_l X) D y bytes maxL rt rm As Lc (fun _ : Unit => (.returned (some v), φ, Lo)))
    (hp : (ks ++ rs).Perm (List.range L.length)) (hc : sg_sel L ks = Lc) (hr : sg_sel L rs = Lr) (hL : Lo ++ Lr = L') (hst : st = As.reverse ++ rest) (hn : As.length = n) (hw : (rest.map fun v => v.category).sum ≤ 8) (hF : rm.frames + 1 ≤ RM.frames ∧ 8 + (maxL + 11) + rm.locals ≤ RM.locals) (hcs : cs + rm.cells = cs') (hsl : sl + rm.slots = sl') (hf : cs' ≤ RM.cells ∧ sl' ≤ RM.slots) (d : decode cc pc = .ok (.invokestatic index, 3))
    (kk : φ → jw X cs' sl' L' lv (pc + 3) (v :: rest)) : jw X cs sl L lv pc st := by
  subst hL hcs hsl hR
  exact jr_callS ks rs Lc Lr ok hg hM hp hc hr hst hn hw hF hf (v := fun _ => some v) (fun _ => rfl) d (fun _ h => kk h)
theorem jr_cI {b : Nat} (ks rs : List Nat) (L' : List sg_A) (cs' sl' : Nat) (ok : jx_ok X D cc own ret) (hR : jx_R X = RM) (hg : jm_I own index y bytes maxL n) (hM : jc_C (jx_l X) D y bytes maxL none rm (.ref b :: As) Lc (fun _ : Unit => (.returned none, φ, Lo)))
    (hp : (ks ++ rs).Perm (List.range L.length)) (hc : sg_sel L ks = Lc) (hr : sg_sel L rs = Lr) (hL : Lo ++ Lr = L') (hst : st = As.reverse ++ .ref b :: rest) (hn : As.length = n) (hw : (rest.map fun v => v.category).sum ≤ 8) (hF : rm.frames + 1 ≤ RM.frames ∧ 8 + (maxL + 11) + rm.locals ≤ RM.locals) (hcs : cs + rm.cells = cs') (hsl : sl + rm.slots = sl') (hf : cs' ≤ RM.cells ∧ sl' ≤ RM.slots) (d : decode cc pc = .ok (.invokespecial index, 3))
    (kk : φ → jw X cs' sl' L' lv (pc + 3) rest) : jw X cs sl L lv pc st := by
  subst hL hcs hsl hR
  exact jr_callI ks rs Lc Lr ok hg hM hp hc hr hst hn hw hF hf (v := fun _ => none) (fun _ => rfl) d (fun _ h => kk h)
end JD
theorem nz_b {z : Int} (h : z = 0 ∨ z = 1) : narrow .boolean (.int (ii z)) = .int (ii z) := by
  rcases h with rfl | rfl <;> decide +kernel
/-- a part of the list is enough -/
theorem sg_same {L : List sg_A} : ∀ h, sg_l L h → sg_l L h := fun _ k => k
