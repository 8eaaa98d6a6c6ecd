section JW2
variable {X : jx_T} {D : jd_T} {cc : ByteArray} {own : String} {ret : Option FieldType} {cs sl : Nat} {L : List sg_A} {lv : List (Nat × Value)} {pc : Nat} {st : List Value} {RM : Room} {Rl : sg_A → List sg_A → Prop}
theorem jr_wlook {dflt : Int} {ps : Array (Int × Int)} {len : Nat} {a z off : Int} (tgt : Nat) (c : w32 a = z) (ok : jx_ok X D cc own ret) (d : decode cc pc = .ok (.lookupswitch dflt ps, len)) (hp : (ps.toList.zip (ps.toList.drop 1)).all (fun (a, next) => a.1 < next.1) = true) (ho : Op.lookupswitch.offset ps.toList dflt z = off) (ht : (pc : Int) + off = (tgt : Int))
    (k : jw X cs sl L lv tgt st) : jw X cs sl L lv pc (.int (ii a) :: st) := by
  subst c; rw [ii_w32 a]; exact jr_lookup tgt ok (w32_R a) d hp ho ht k
theorem jr_wtab {dflt lo hi : Int} {offs : Array Int} {len : Nat} {a z off : Int} (tgt : Nat) (c : w32 a = z) (ok : jx_ok X D cc own ret) (d : decode cc pc = .ok (.tableswitch dflt lo hi offs, len)) (hx1 : ¬ z < lo) (hx2 : ¬ hi < z) (ho : offs[(z - lo).toNat]? = some off) (ht : (pc : Int) + off = (tgt : Int))
    (k : jw X cs sl L lv tgt st) : jw X cs sl L lv pc (.int (ii a) :: st) := by
  subst c; rw [ii_w32 a]; exact jr_tableIn tgt ok (w32_R a) d hx1 hx2 ho ht k
theorem jr_wtabD {dflt lo hi : Int} {offs : Array Int} {len : Nat} {a z : Int} (tgt : Nat) (c : w32 a = z) (ok : jx_ok X D cc own ret) (d : decode cc pc = .ok (.tableswitch dflt lo hi offs, len)) (hx : z < lo ∨ hi < z) (ht : (pc : Int) + dflt = (tgt : Int))
    (k : jw X cs sl L lv tgt st) : jw X cs sl L lv pc (.int (ii a) :: st) := by
  subst c; rw [ii_w32 a]; exact jr_tableOut tgt ok (w32_R a) d hx ht k
theorem jr_wimax {index : Nat} {a b a' b' : Int} (ok : jx_ok X D cc own ret) (hl : Cond.methodLink own index Lib.Math.max.name ∈ jw_all) (hs : Cond.static Lib.Math.max.name ∈ jw_all) (hi : Cond.initialized "java/lang/Math" ∈ jw_all) (hc : Cond.code Lib.Math.max.name Lib.Math.max.code 2 (some .int) ∈ jw_all) (ha : w32 a = a') (hb : w32 b = b') (hR : jx_R X = RM) (hF : 1 ≤ RM.frames ∧ 30 ≤ RM.locals) (hf : cs ≤ RM.cells ∧ sl ≤ RM.slots) (hw : (st.map fun v => v.category).sum ≤ 8) (d : decode cc pc = .ok (.invokestatic index, 3))
    (k : jw X cs sl L lv (pc + 3) (.int (ii (max a' b')) :: st)) : jw X cs sl L lv pc (.int (ii b) :: .int (ii a) :: st) := by
  subst ha; subst hb; rw [ii_w32 a, ii_w32 b]; exact jr_imax ok hl hs hi hc (w32_R a) (w32_R b) hR hF hf hw d k
theorem jr_xlmax {index : Nat} {x y : Int64} {a' b' : Int} (ok : jx_ok X D cc own ret) (hl : Cond.methodLink own index Lib.MathLoose.max_long.x ∈ jw_all) (hs : Cond.static Lib.MathLoose.max_long.x ∈ jw_all) (hi : Cond.initialized "java/lang/Math" ∈ jw_all) (hc : Cond.code Lib.MathLoose.max_long.x Lib.MathLoose.max_long.code 4 (some .long) ∈ jw_all) (ha : x.toInt = a') (hb : y.toInt = b') (hR : jx_R X = RM) (hF : 1 ≤ RM.frames ∧ 30 ≤ RM.locals) (hf : cs ≤ RM.cells ∧ sl ≤ RM.slots) (hw : (st.map fun v => v.category).sum ≤ 8) (d : decode cc pc = .ok (.invokestatic index, 3))
    (k : jw X cs sl L lv (pc + 3) (.long (ll (max a' b')) :: st)) : jw X cs sl L lv pc (.long y :: .long x :: st) := by
  subst ha; subst hb
  have := jr_lmax (a := x.toInt) (b := y.toInt) ok hl hs hi hc (ll_R x) (ll_R y) hR hF hf hw d k
  rw [ll_of, ll_of] at this
  exact this
theorem jr_wimin {index : Nat} {a b a' b' : Int} (ok : jx_ok X D cc own ret) (hl : Cond.methodLink own index Lib.Math.min.name ∈ jw_all) (hs : Cond.static Lib.Math.min.name ∈ jw_all) (hi : Cond.initialized "java/lang/Math" ∈ jw_all) (hc : Cond.code Lib.Math.min.name Lib.Math.min.code 2 (some .int) ∈ jw_all) (ha : w32 a = a') (hb : w32 b = b') (hR : jx_R X = RM) (hF : 1 ≤ RM.frames ∧ 30 ≤ RM.locals) (hf : cs ≤ RM.cells ∧ sl ≤ RM.slots) (hw : (st.map fun v => v.category).sum ≤ 8) (d : decode cc pc = .ok (.invokestatic index, 3))
    (k : jw X cs sl L lv (pc + 3) (.int (ii (min a' b')) :: st)) : jw X cs sl L lv pc (.int (ii b) :: .int (ii a) :: st) := by
  subst ha; subst hb; rw [ii_w32 a, ii_w32 b]; exact jr_imin ok hl hs hi hc (w32_R a) (w32_R b) hR hF hf hw d k
theorem jr_xlmin {index : Nat} {x y : Int64} {a' b' : Int} (ok : jx_ok X D cc own ret) (hl : Cond.methodLink own index Lib.MathLoose.min_long.x ∈ jw_all) (hs : Cond.static Lib.MathLoose.min_long.x ∈ jw_all) (hi : Cond.initialized "java/lang/Math" ∈ jw_all) (hc : Cond.code Lib.MathLoose.min_long.x Lib.MathLoose.min_long.code 4 (some .long) ∈ jw_all) (ha : x.toInt = a') (hb : y.toInt = b') (hR : jx_R X = RM) (hF : 1 ≤ RM.frames ∧ 30 ≤ RM.locals) (hf : cs ≤ RM.cells ∧ sl ≤ RM.slots) (hw : (st.map fun v => v.category).sum ≤ 8) (d : decode cc pc = .ok (.invokestatic index, 3))
    (k : jw X cs sl L lv (pc + 3) (.long (ll (min a' b')) :: st)) : jw X cs sl L lv pc (.long y :: .long x :: st) := by
  subst ha; subst hb
  have := jr_lmin (a := x.toInt) (b := y.toInt) ok hl hs hi hc (ll_R x) (ll_R y) hR hF hf hw d k
  rw [ll_of, ll_of] at this
  exact this
theorem c_IcmpW (l : Launch) (D : jd_T) (a b : Int) : jc_C l D y_J_Integer_compare_III b_J_Integer_compare_III 2 (some .int) { frames := 0, cells := 0, slots := 0, locals := 0 } [.int (ii a), .int (ii b)] [] (fun _ : Unit => (.returned (some (.int (ii (cmpI (w32 a) (w32 b))))), True, [])) := by
  rw [ii_w32 a, ii_w32 b]; exact c_Icmp l D (w32 a) (w32 b) (w32_R a) (w32_R b)
theorem jr_acmp_ne {x y : Nat} {off : Int} (tgt : Nat) (ok : jx_ok X D cc own ret) (d : decode cc pc = .ok (.if_acmp .ne off, 3)) (ht : (pc : Int) + off = (tgt : Int))
    (kt : ¬ x = y → jw X cs sl L lv tgt st) (kf : x = y → jw X cs sl L lv (pc + 3) st) : jw X cs sl L lv pc (.ref y :: .ref x :: st) := by
  intro h H locs ls h1 h2 h3 h4 h5
  exact lv_acmp_ne (rx := some x) (ry := some y) ok.1 ok.2.1 d ht (fun c => kt (fun e => c (congrArg some e)) h H locs ls h1 h2 h3 h4 h5) (fun c => kf (Option.some.inj c) h H locs ls h1 h2 h3 h4 h5)
theorem sg_big_ne {P : Nat → sg_A} {ad : Nat → Nat} {n : Nat} (hP : ∀ i f, P i f → f (ad i) ≠ none) : ∀ {h : sg_F}, sg_big P n h → ∀ i j, i < n → j < n → i ≠ j → ad i ≠ ad j := by
  have key : ∀ (n : Nat) (h : sg_F), sg_big P n h → (∀ i, i < n → h (ad i) ≠ none) ∧ ∀ i j, i < j → j < n → ad i ≠ ad j := by
    intro n
    induction n with
    | zero => intro h _; exact ⟨fun i hi => absurd hi (Nat.not_lt_zero i), fun i j _ hj => absurd hj (Nat.not_lt_zero j)⟩
    | succ n ih =>
      intro h ⟨f, g, d, e, p, q⟩
      obtain ⟨a1, a2⟩ := ih f p
      have hg := hP n g q
      refine ⟨fun i hi => ?_, fun i j hij hj => ?_⟩
      · rw [e]
        intro z
        obtain ⟨z1, z2⟩ := sg_un_none.mp z
        by_cases hin : i < n
        · exact a1 i hin z1
        · have : i = n := by omega
          subst this; exact hg z2
      · by_cases hjn : j < n
        · exact a2 i j hij hjn
        · have : j = n := by omega
          subst this
          intro z
          rcases d (ad i) with w | w
          · exact a1 i hij w
          · rw [z] at w; exact hg w
  intro h hb i j hi hj hne
  obtain ⟨-, a2⟩ := key n h hb
  rcases Nat.lt_or_gt_of_ne hne with z | z
  · exact a2 i j z hj
  · exact fun e => a2 j i z hi e.symm
theorem jq_copy1l {index t a : Nat} {n1 sp dp n : Int} {ty : FieldType} {f : Int → Int64} (L' : List sg_A) (ok : jx_ok X D cc own ret) (hR : jx_R X = RM) (hl : Cond.methodLink own index arraycopyName ∈ jw_all) (hn9 : Cond.native arraycopyName ∈ jw_all) (hs9 : Cond.static arraycopyName ∈ jw_all) (hi9 : Cond.initialized "java/lang/System" ∈ jw_all) (hq1 : sg_at L (al D t a n1 f) Rl) (ht : (jk_tys D.2)[t]? = some (D.2 t, ty)) (hprim : refKind ty = false) (h1 : 0 ≤ sp) (h2 : 0 ≤ dp) (h3 : 0 ≤ n) (h4 : sp + n ≤ n1) (h5 : dp + n ≤ n1) (hfit : ∀ i, sp ≤ i → i < sp + n → fits ty (.long (f i)) = true) (hF : 1 ≤ RM.frames ∧ 40 ≤ RM.locals) (hw : (st.map fun v => v.category).sum ≤ 8) (hL : Rl (al D t a n1 (fun j => if dp ≤ j ∧ j < dp + n then f (sp + (j - dp)) else f j)) L') (d : decode cc pc = .ok (.invokestatic index, 3))
    (kk : jw X cs sl L' lv (pc + 3) st) : jw X cs sl L lv pc (.int (ii n) :: .int (ii dp) :: .ref a :: .int (ii sp) :: .ref a :: st) := by
  intro h H locs ls h6 h7 h8 h9 h10
  subst hR
  have hb1 : n1 ≤ 2147483647 := by
    obtain ⟨f9, g9, dj, he, hp, mk⟩ := hq1 h h6
    exact hp.2.1
  have hb0 : n1 ≤ 2147483647 := by
    obtain ⟨f9, g9, dj, he, hp, mk⟩ := hq1 h h6
    exact hp.2.1
  have hc0 := jq_cell hq1 (fun f9 hp => hp.2.2) h6 h7
  have hc1 := jq_cell hq1 (fun f9 hp => hp.2.2) h6 h7
  have r1 : iR sp := ⟨by omega, by omega⟩
  have r2 : iR dp := ⟨by omega, by omega⟩
  have r3 : iR n := ⟨by omega, by omega⟩
  have hta := (ok.2.2.2.2.2.2.2.1.1.2 t _ ht).1
  refine W_copyl (f := fun j => f (j : Int)) (g := fun j => f (j : Int)) (ty := ty) ok.1 ok.2.1 (ok.2.2.1.trans h10.1.symm) ok.2.2.2.1 (ok.2.2.2.2.1 _ hl) (ok.2.2.2.2.1 _ hn9) (ok.2.2.2.2.1 _ hs9) (ok.2.2.2.2.1 _ hi9) hc0 hc1 hta hta hprim (ii_nneg r1 h1) (ii_nneg r2 h2) (ii_nneg r3 h3)
    (by rw [ii_clamp r1, ii_clamp r3]; omega) (by rw [ii_clamp r2, ii_clamp r3]; omega) (fun i hi => by
      rw [ii_clamp r3] at hi
      rw [ii_clamp r1]
      have := hfit ((sp.toNat + i : Nat) : Int) (by omega) (by omega)
      exact this) hF.1 (by have := hF.2; rw [show nativeFrameWords "java/lang/System" "arraycopy" 5 = 7 from by decide +kernel]; omega) d fun H1 L1 e1 e2 e3 e4 => ?_
  obtain ⟨f9, g9, dj, he, hp, mk⟩ := hq1 h h6
  have hf9 := hp.2.2
  subst hf9
  subst he
  have hA : jx_A X a := h8 a _ (sg_un_l (sg_1_at a _))
  have hcell : H1[a]? = some (arrV (D.2 t) n1.toNat (fun j => .long ((fun j => if dp ≤ j ∧ j < dp + n then f (sp + (j - dp)) else f j) (j : Int)))) := by
    rw [e1]
    congr 2
    funext j
    rw [ii_clamp r1, ii_clamp r2, ii_clamp r3]
    simp only [va_cpy]
    by_cases hj : dp.toNat ≤ j ∧ j < dp.toNat + n.toNat
    · rw [if_pos hj, if_pos (by omega)]
      congr 2
      skip
      omega
    · rw [if_neg hj, if_neg (by omega)]
  have hnew := mk (al D t a n1 (fun j => if dp ≤ j ∧ j < dp + n then f (sp + (j - dp)) else f j)) L' _ hL ⟨hp.1, hb1, rfl⟩ (sg_1_dj dj)
  refine kk _ H1 _ ls hnew (sg_in_set dj h7 hcell e3) (fun q c hqc => ?_) ⟨by rw [e2]; exact h9.1, fun q g1 g2 => by
      rw [e3 q (fun z => g2 (by rw [z]; exact hA))]
      exact h9.2.1 q g1 g2, fun q hq => by
      rcases List.mem_append.mp hq with z | z
      · exact h9.2.2 q z
      · rw [e4 q z]; exact hA⟩ h10
  rcases sg_un_some hqc with z | z
  · rw [(sg_1_some z).1]; exact hA
  · exact h8 q c (by rw [sg_un_comm dj]; exact sg_un_l z)
theorem jq_aast {t a v ci : Nat} {n i : Int} {f : Int → Value} {fs : List Value} {C : String} {T : u_T} {N : Nat} (L' : List sg_A) (ok : jx_ok X D cc own ret) (q0 : Nat) (hq : L[q0]? = some (aq D t a n f)) (hv : sg_at L (ob D v ci fs) Rl) (hcl : vwCl[ci]? = some (C, T, N)) (ht : (jk_tys D.2)[t]? = some (D.2 t, .object C)) (hi0 : 0 ≤ i) (hi1 : i < n) (hL : L.set q0 (aq D t a n (fun j => if j = i then .ref v else f j)) = L') (d : decode cc pc = .ok (.aastore, 1))
    (kk : jw X cs sl L' lv (pc + 1) st) : jw X cs sl L lv pc (.ref v :: .int (ii i) :: .ref a :: st) := by
  intro h H locs ls h1 h2 h3 h4 h5
  have hn : n ≤ 2147483647 := by
    obtain ⟨f, g, dj, he, hp, mk⟩ := sg_pull L q0 _ h hq h1
    exact hp.2.1
  have hcell := jr_cell hq (fun f hp => hp.2.2) h1 h2
  have hiR : iR i := ⟨by omega, by omega⟩
  obtain ⟨f0, g0, d0, e0, ⟨cv, r, hf0, hcr, q2, q3, q4⟩, -⟩ := hv h h1
  have hcv : H[v]? = some cv := h2 v cv (by rw [e0, hf0]; exact sg_un_l (sg_1_at v cv))
  obtain ⟨kA, comp, r1, r2, r3, r4⟩ := (ok.2.2.2.2.2.2.2.1.1.2 t _ ht).2
  obtain ⟨-, hfc, kC, hkC, hkind⟩ := ok.2.2.2.2.2.2.2.1.1.1 ci _ hcl
  have hcomp : comp = D.1.1 ci := Option.some.inj (r3.symm.trans hfc)
  refine W.aast ok.1 ok.2.1 hcell (fun q z => by cases z) (fun z => by cases z) r1 r2 rfl (by rw [hcomp]; exact hkC) ⟨ii_nneg hiR hi0, by rw [ii_clamp hiR, arrV_size]; omega⟩ hcv (fun q z => by rw [q3] at z; cases z) (by rw [q2]; exact hkC) (by rw [q2, hcomp]; exact va_asg _ _) rfl rfl d fun H' e1 e2 e3 => ?_
  rw [arrV_store] at e1
  obtain ⟨h', a1, a2, a3, a4⟩ := jr_cellset (X := X) (P' := aq D t a n (fun j => if j = i then .ref v else f j)) hq (fun f hp => hp.2.2) ⟨by omega, hn, rfl⟩ hL h1 h2 h3 h4 (by
    rw [e1]
    congr 2
    funext j
    rw [ii_clamp hiR]
    simp only [updV]
    by_cases hj : j = i.toNat
    · rw [if_pos hj, if_pos (by omega)]
    · rw [if_neg hj, if_neg (by omega)]) e2 e3
  exact kk h' H' _ ls a1 a2 a3 a4 h5
variable {rm : Room} {y : MethodName} {bytes : ByteArray} {maxL index n : Nat} {rt : Option FieldType} {As rest : List Value} {L' : List sg_A} {v : Value}
theorem jq_cV1 {ci b : Nat} {C : String} {T : u_T} {N fr lo : Nat} {fs : List Value} (ok : jx_ok X D cc own ret) (hR : jx_R X = RM) (hg : jm_V own index C y bytes maxL rt n) (hM : jc_C (jx_l X) D y bytes maxL rt { frames := fr, cells := 0, slots := 0, locals := lo } (.ref b :: As) L (fun _ : Unit => (.returned (some v), True, L')))
    (hq : sg_at L (ob D b ci fs) Rl) (hcl : vwCl[ci]? = some (C, T, N)) (hst : st = As.reverse ++ .ref b :: rest) (hn : As.length = n) (hw : (rest.map fun v => v.category).sum ≤ 8) (hF : fr + 1 ≤ RM.frames ∧ 8 + (maxL + 11) + lo ≤ RM.locals) (hf : cs ≤ RM.cells ∧ sl ≤ RM.slots) (d : decode cc pc = .ok (.invokevirtual index, 3))
    (kk : jw X cs sl L' lv (pc + 3) (v :: rest)) : jw X cs sl L lv pc st := jq_callV ok hR hg hM hq hcl hst hn hw hF hf d kk
theorem jq_cV0 {ci b : Nat} {C : String} {T : u_T} {N fr lo : Nat} {fs : List Value} (ok : jx_ok X D cc own ret) (hR : jx_R X = RM) (hg : jm_V own index C y bytes maxL rt n) (hM : jc_C (jx_l X) D y bytes maxL rt { frames := fr, cells := 0, slots := 0, locals := lo } (.ref b :: As) L (fun _ : Unit => (.returned none, True, L')))
    (hq : sg_at L (ob D b ci fs) Rl) (hcl : vwCl[ci]? = some (C, T, N)) (hst : st = As.reverse ++ .ref b :: rest) (hn : As.length = n) (hw : (rest.map fun v => v.category).sum ≤ 8) (hF : fr + 1 ≤ RM.frames ∧ 8 + (maxL + 11) + lo ≤ RM.locals) (hf : cs ≤ RM.cells ∧ sl ≤ RM.slots) (d : decode cc pc = .ok (.invokevirtual index, 3))
    (kk : jw X cs sl L' lv (pc + 3) rest) : jw X cs sl L lv pc st := jq_callV ok hR hg hM hq hcl hst hn hw hF hf d kk
theorem jq_cS1 {fr lo : Nat} (ok : jx_ok X D cc own ret) (hR : jx_R X = RM) (hg : jm_S own index y bytes maxL rt n) (hM : jc_C (jx_l X) D y bytes maxL rt { frames := fr, cells := 0, slots := 0, locals := lo } As L (fun _ : Unit => (.returned (some v), True, L')))
    (hst : st = As.reverse ++ rest) (hn : As.length = n) (hw : (rest.map fun v => v.category).sum ≤ 8) (hF : fr + 1 ≤ RM.frames ∧ 8 + (maxL + 11) + lo ≤ RM.locals) (hf : cs ≤ RM.cells ∧ sl ≤ RM.slots) (d : decode cc pc = .ok (.invokestatic index, 3))
    (kk : jw X cs sl L' lv (pc + 3) (v :: rest)) : jw X cs sl L lv pc st :=
  jr_cS1 (List.range L.length) [] L' cs sl ok hR hg hM (by rw [List.append_nil]) (sg_sel_all L) (Lr := []) rfl (List.append_nil _) hst hn hw hF rfl rfl hf d (fun _ => kk)
-- calls that make cells: b0 and k0 may be made by the caller, b and k are left of them, b1 and k1 behind the call
variable {α : Type} {b0 k0 b1 k1 : Nat} {Lo : α → List sg_A}
theorem jq_gV1 {ci a b k : Nat} {C : String} {T : u_T} {N fr lo fr0 lo0 : Nat} {fs : List Value} (ok : jx_ok X D cc own ret) (hI : jI D (jx_A X) (jx_s X) (jx_s X).heap) (hR : jx_R X = { frames := fr0, cells := b0, slots := k0, locals := lo0 }) (hcc : b ≤ b0 ∧ k ≤ k0) (hg : jm_V own index C y bytes maxL rt n) (hM : jgI_C (jx_l X) D y bytes maxL rt { frames := fr, cells := b, slots := k, locals := lo } (.ref a :: As) L (fun u : α => (.returned (some v), b1 ≤ b ∧ k1 ≤ k, Lo u, b - b1, k - k1)))
    (hq : sg_at L (ob D a ci fs) Rl) (hcl : vwCl[ci]? = some (C, T, N)) (hst : st = As.reverse ++ .ref a :: rest) (hn : As.length = n) (hw : (rest.map fun v => v.category).sum ≤ 8) (hF : fr + 1 ≤ fr0 ∧ 8 + (maxL + 11) + lo ≤ lo0) (d : decode cc pc = .ok (.invokevirtual index, 3))
    (kk : ∀ u, b1 ≤ b0 ∧ k1 ≤ k0 → jw X (b0 - b1) (k0 - k1) (Lo u) lv (pc + 3) (v :: rest)) : jw X (b0 - b) (k0 - k) L lv pc st :=
  jgI_callV (v := fun _ => some v) ok hI hg hM hq hcl hst hn hw (by rw [hR]; exact hF) (by rw [hR]; exact ⟨by show b0 - b + b ≤ b0; omega, by show k0 - k + k ≤ k0; omega⟩) (fun _ => rfl) d (fun u hu => jr_widen (by show b0 - b + (b - b1) ≤ b0 - b1; omega) (by show k0 - k + (k - k1) ≤ k0 - k1; omega) (kk u ⟨by omega, by omega⟩))
theorem jq_gV0 {ci a b k : Nat} {C : String} {T : u_T} {N fr lo fr0 lo0 : Nat} {fs : List Value} (ok : jx_ok X D cc own ret) (hI : jI D (jx_A X) (jx_s X) (jx_s X).heap) (hR : jx_R X = { frames := fr0, cells := b0, slots := k0, locals := lo0 }) (hcc : b ≤ b0 ∧ k ≤ k0) (hg : jm_V own index C y bytes maxL rt n) (hM : jgI_C (jx_l X) D y bytes maxL rt { frames := fr, cells := b, slots := k, locals := lo } (.ref a :: As) L (fun u : α => (.returned none, b1 ≤ b ∧ k1 ≤ k, Lo u, b - b1, k - k1)))
    (hq : sg_at L (ob D a ci fs) Rl) (hcl : vwCl[ci]? = some (C, T, N)) (hst : st = As.reverse ++ .ref a :: rest) (hn : As.length = n) (hw : (rest.map fun v => v.category).sum ≤ 8) (hF : fr + 1 ≤ fr0 ∧ 8 + (maxL + 11) + lo ≤ lo0) (d : decode cc pc = .ok (.invokevirtual index, 3))
    (kk : ∀ u, b1 ≤ b0 ∧ k1 ≤ k0 → jw X (b0 - b1) (k0 - k1) (Lo u) lv (pc + 3) rest) : jw X (b0 - b) (k0 - k) L lv pc st :=
  jgI_callV (v := fun _ => none) ok hI hg hM hq hcl hst hn hw (by rw [hR]; exact hF) (by rw [hR]; exact ⟨by show b0 - b + b ≤ b0; omega, by show k0 - k + k ≤ k0; omega⟩) (fun _ => rfl) d (fun u hu => jr_widen (by show b0 - b + (b - b1) ≤ b0 - b1; omega) (by show k0 - k + (k - k1) ≤ k0 - k1; omega) (kk u ⟨by omega, by omega⟩))
-- ends of what makes cells: the state is (c, S)
variable {κ σ : Type} {Lf : α → κ → σ → List sg_A} {c c9 : κ} {Sc S9 : σ} {bc bs : κ → Nat}
theorem jg_iret {z r : Int} (u : α) (ok : jx_ok X D cc own (some .int)) (fin : jg_fin X (fun u : α => (.returned (some (.int (ii r))), bc c9 ≤ b0 ∧ bs c9 ≤ k0, Lf u c9 S9, b0 - bc c9, k0 - bs c9))) (hcc : bc c ≤ b0 ∧ bs c ≤ k0) (hs : some (z, c, Sc) = some (r, c9, S9)) (d : decode cc pc = .ok (.ireturn, 1)) : jw X (b0 - bc c) (k0 - bs c) (Lf u c Sc) lv pc [.int (ii z)] := by
  cases hs; exact jr_iret ok (jg_at fin u) (Nat.le_refl _) (Nat.le_refl _) () rfl hcc sg_same d
theorem jg_zret {z r : Int} (u : α) (ok : jx_ok X D cc own (some .boolean)) (hz : narrow .boolean (.int (ii z)) = .int (ii z)) (fin : jg_fin X (fun u : α => (.returned (some (.int (ii r))), bc c9 ≤ b0 ∧ bs c9 ≤ k0, Lf u c9 S9, b0 - bc c9, k0 - bs c9))) (hcc : bc c ≤ b0 ∧ bs c ≤ k0) (hs : some (z, c, Sc) = some (r, c9, S9)) (d : decode cc pc = .ok (.ireturn, 1)) : jw X (b0 - bc c) (k0 - bs c) (Lf u c Sc) lv pc [.int (ii z)] := by
  cases hs; exact jr_zret ok hz (jg_at fin u) (Nat.le_refl _) (Nat.le_refl _) () rfl hcc sg_same d
theorem jg_lret {z r : Int64} (u : α) (ok : jx_ok X D cc own (some .long)) (fin : jg_fin X (fun u : α => (.returned (some (.long r)), bc c9 ≤ b0 ∧ bs c9 ≤ k0, Lf u c9 S9, b0 - bc c9, k0 - bs c9))) (hcc : bc c ≤ b0 ∧ bs c ≤ k0) (hs : some (z, c, Sc) = some (r, c9, S9)) (d : decode cc pc = .ok (.lreturn, 1)) : jw X (b0 - bc c) (k0 - bs c) (Lf u c Sc) lv pc [.long z] := by
  cases hs; exact jr_lret ok (jg_at fin u) (Nat.le_refl _) (Nat.le_refl _) () rfl hcc sg_same d
theorem jg_vret {r : Unit} (u : α) (ok : jx_ok X D cc own none) (fin : jg_fin X (fun u : α => (.returned (none), bc c9 ≤ b0 ∧ bs c9 ≤ k0, Lf u c9 S9, b0 - bc c9, k0 - bs c9))) (hcc : bc c ≤ b0 ∧ bs c ≤ k0) (hs : some ((), c, Sc) = some (r, c9, S9)) (d : decode cc pc = .ok (.return_, 1)) : jw X (b0 - bc c) (k0 - bs c) (Lf u c Sc) lv pc [] := by
  cases hs; exact jr_vret ok (jg_at fin u) (Nat.le_refl _) (Nat.le_refl _) () rfl hcc sg_same d
theorem jg_aret {C : String} {f : Nat → Nat} {z r : Nat} (u : α) (ok : jx_ok X D cc own (some (.object C))) (fin : jg_fin X (fun u : α => (.returned (some (.ref (f r))), bc c9 ≤ b0 ∧ bs c9 ≤ k0, Lf u c9 S9, b0 - bc c9, k0 - bs c9))) (hcc : bc c ≤ b0 ∧ bs c ≤ k0) (hs : some (z, c, Sc) = some (r, c9, S9)) (d : decode cc pc = .ok (.areturn, 1)) : jw X (b0 - bc c) (k0 - bs c) (Lf u c Sc) lv pc [.ref (f z)] := by
  cases hs; exact jr_aret ok (Or.inr ⟨_, rfl⟩) (jg_at fin u) (Nat.le_refl _) (Nat.le_refl _) () rfl hcc sg_same d
theorem jm_aret {mc ms : Nat} {Lg : σ → List sg_A} {C : String} {f : Nat → Nat} {z r : Nat} (ok : jx_ok X D cc own (some (.object C))) (fin : jx_fin X mc ms (fun _ : Unit => (.returned (some (.ref (f r))), True, Lg S9))) (hs : some (z, Sc) = some (r, S9)) (d : decode cc pc = .ok (.areturn, 1)) : jw X 0 0 (Lg Sc) lv pc [.ref (f z)] := by
  cases hs; exact jr_aret ok (Or.inr ⟨_, rfl⟩) fin (Nat.zero_le _) (Nat.zero_le _) () rfl trivial sg_same d
def mb3 {α β γ δ : Type} (x : Option (α × β × γ)) (f : α → β → γ → Option δ) : Option δ := match x with
  | none => none
  | some q => f q.1 q.2.1 q.2.2
theorem mb3_some {α β γ δ : Type} {x : Option (α × β × γ)} {f : α → β → γ → Option δ} {r : δ} (h : mb3 x f = some r) : ∃ a b c, x = some (a, b, c) ∧ f a b c = some r := by
  cases x with
  | none => cases h
  | some q => exact ⟨q.1, q.2.1, q.2.2, rfl, h⟩
end JW2
