section JLC
variable {X : jx_T} {D : jd_T} {cc : ByteArray} {own : String} {ret : Option FieldType} {cs sl : Nat} {L : List sg_A} {lv : List (Nat × Value)} {pc : Nat} {st : List Value}
theorem jr_lcmp_xx {x y : Int64} (ok : jx_ok X D cc own ret) (d : decode cc pc = .ok (.lcmp, 1))
    (k : jw X cs sl L lv (pc + 1) (.int (ii (if y.toInt < x.toInt then 1 else if x.toInt = y.toInt then 0 else -1)) :: st)) : jw X cs sl L lv pc (.long y :: .long x :: st) := by
  have := jr_lcmp (a := x.toInt) (b := y.toInt) ok (ll_R x) (ll_R y) d k
  rw [ll_of, ll_of] at this
  exact this
theorem jr_lcmp_xl {x : Int64} {b : Int} (ok : jx_ok X D cc own ret) (hb : lR b) (d : decode cc pc = .ok (.lcmp, 1))
    (k : jw X cs sl L lv (pc + 1) (.int (ii (if b < x.toInt then 1 else if x.toInt = b then 0 else -1)) :: st)) : jw X cs sl L lv pc (.long (ll b) :: .long x :: st) := by
  have := jr_lcmp (a := x.toInt) (b := b) ok (ll_R x) hb d k
  rw [ll_of] at this
  exact this
theorem jr_lcmp_lx {a : Int} {y : Int64} (ok : jx_ok X D cc own ret) (ha : lR a) (d : decode cc pc = .ok (.lcmp, 1))
    (k : jw X cs sl L lv (pc + 1) (.int (ii (if y.toInt < a then 1 else if a = y.toInt then 0 else -1)) :: st)) : jw X cs sl L lv pc (.long y :: .long (ll a) :: st) := by
  have := jr_lcmp (a := a) (b := y.toInt) ok ha (ll_R y) d k
  rw [ll_of] at this
  exact this
end JLC
theorem sg_drop : ∀ (L : List sg_A) (k : Nat) (h : sg_F), sg_l L h → ∃ g : sg_F, (∀ q c, g q = some c → h q = some c) ∧ sg_l (L.eraseIdx k) g
  | [], k, h, hl => ⟨h, fun _ _ z => z, by simpa using hl⟩
  | P :: L, 0, h, ⟨f, g, d, e, p, q⟩ => ⟨g, fun x c z => by rw [e, sg_un_comm d]; exact sg_un_l z, by simpa using q⟩
  | P :: L, k + 1, h, ⟨f, g, d, e, p, q⟩ => by
    obtain ⟨g1, s1, l1⟩ := sg_drop L k g q
    have d1 : sg_dj f g1 := fun x => by
      rcases d x with z | z
      · exact Or.inl z
      · right
        cases hx : g1 x with
        | none => rfl
        | some c => rw [s1 x c hx] at z; cases z
    refine ⟨sg_un f g1, fun x c z => ?_, ?_⟩
    · rw [e]
      rcases sg_un_some z with w | w
      · exact sg_un_l w
      · rw [sg_un_comm d]; exact sg_un_l (s1 x c w)
    · rw [List.eraseIdx_cons_succ]
      exact ⟨f, g1, d1, rfl, p, l1⟩
/-- a claim that nobody needs more -/
theorem jr_drop {X : jx_T} {cs sl : Nat} {L L' : List sg_A} {lv : List (Nat × Value)} {pc : Nat} {st : List Value} (k : Nat) (hL : L.eraseIdx k = L') (kk : jw X cs sl L' lv pc st) : jw X cs sl L lv pc st := by
  intro h H locs ls h1 h2 h3 h4 h5
  obtain ⟨g, s1, l1⟩ := sg_drop L k h h1
  rw [hL] at l1
  exact kk g H locs ls l1 (fun q c z => h2 q c (s1 q c z)) (fun q c z => h3 q c (s1 q c z)) h4 h5
