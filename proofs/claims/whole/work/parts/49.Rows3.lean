section JW3
variable {X : jx_T} {D : jd_T} {cc : ByteArray} {own : String} {ret : Option FieldType} {cs sl : Nat} {L : List sg_A} {lv : List (Nat × Value)} {pc : Nat} {st rest : List Value} {RM : Room} {Rl : sg_A → List sg_A → Prop} {b0 k0 b k fr0 lo0 : Nat}
/-- a fresh cell takes an old one's place; the old one is forgotten -/
theorem jw_swap {P New : sg_A} {L' : List sg_A} (hq : sg_at L P Rl) (hL : Rl New L') (kk : jw X cs sl L' lv pc st) : jw X cs sl (L ++ [New]) lv pc st := by
  intro h H locs ls h1 h2 h3 h4 h5
  obtain ⟨f, g, d1, e1, p1, f3, g3, d3, e3, p4, p5⟩ := (sg_l_app L [New] h).mp h1
  obtain ⟨f2, g2, d2, e2, p3, mk⟩ := hq f p1
  have p6 : g3 = sg_0 := p5
  have eg : g = f3 := by rw [e3, p6, sg_un_0]
  subst eg
  have dd : sg_dj g2 g := by rw [e2] at d1; exact (sg_un_dj.mp d1).2
  have sub : ∀ (q : Nat) (c : Cell), sg_un g g2 q = some c → h q = some c := fun q c z => by
    rw [e1]
    rcases sg_un_some z with w | w
    · rw [sg_un_comm d1]; exact sg_un_l w
    · refine sg_un_l ?_
      rw [e2, sg_un_comm d2]; exact sg_un_l w
  exact kk _ H locs ls (mk New L' g hL p4 dd.symm) (fun q c z => h2 q c (sub q c z)) (fun q c z => h3 q c (sub q c z)) h4 h5
theorem jq_putA {a ci kf index q : Nat} {fs : List Value} {ty : FieldType} {Old New : sg_A} (L' : List sg_A) (ko ka : Nat) (ok : jx_ok X D cc own ret) (hF : jt_F own index ci kf ty false) (ho : L[ko]? = some (ob D a ci fs)) (ha : (L.set ko (ob D a ci (fs.set kf (.ref q))))[ka]? = some Old) (hn : narrow ty (.ref q) = .ref q) (hfit : fits ty (.ref q) = true) (hl : kf < fs.length) (hL : (L.set ko (ob D a ci (fs.set kf (.ref q)))).set ka New = L') (d : decode cc pc = .ok (.putfield index, 3))
    (kk : jw X cs sl L' lv (pc + 3) st) : jw X cs sl (L ++ [New]) lv pc (.ref q :: .ref a :: st) := by
  have hlt : ko < L.length := (List.getElem?_eq_some_iff.mp ho).1
  refine jr_put (L.set ko (ob D a ci (fs.set kf (.ref q))) ++ [New]) ok ko hF (by rw [List.getElem?_append_left hlt]; exact ho) hn hfit hl (List.set_append_left ko _ hlt) d ?_
  exact jw_swap (sg_atk ka ha) hL kk
theorem jq_putP {a ci kf index q n i : Nat} {fs : List Value} {ty : FieldType} {Old New : sg_A} {F F' : Nat → List sg_A} (L' : List sg_A) (q0 ko ka : Nat) (ok : jx_ok X D cc own ret) (hF : jt_F own index ci kf ty false) (hq : L[q0]? = some (sg_big (fun j => sg_l (F j)) n)) (hi : i < n) (ho : (F i)[ko]? = some (ob D a ci fs)) (ha : ((F i).set ko (ob D a ci (fs.set kf (.ref q))))[ka]? = some Old) (hn : narrow ty (.ref q) = .ref q) (hfit : fits ty (.ref q) = true) (hl : kf < fs.length)
    (hF1 : ∀ j, j ≠ i → F' j = F j) (hF2 : F' i = ((F i).set ko (ob D a ci (fs.set kf (.ref q)))).set ka New) (hL : L.set q0 (sg_big (fun j => sg_l (F' j)) n) = L') (d : decode cc pc = .ok (.putfield index, 3))
    (kk : jw X cs sl L' lv (pc + 3) st) : jw X cs sl (L ++ [New]) lv pc (.ref q :: .ref a :: st) := by
  have hlt : q0 < L.length := (List.getElem?_eq_some_iff.mp hq).1
  let F1 : Nat → List sg_A := fun j => if j = i then (F i).set ko (ob D a ci (fs.set kf (.ref q))) else F j
  have e1 : F1 i = (F i).set ko (ob D a ci (fs.set kf (.ref q))) := if_pos rfl
  have e2 : ∀ j, j ≠ i → F1 j = F j := fun j hj => if_neg hj
  refine jq_put (L.set q0 (sg_big (fun j => sg_l (F1 j)) n) ++ [New]) ok hF (sg_atp (L := L ++ [New]) (F := F) q0 (by rw [List.getElem?_append_left hlt]; exact hq) hi ko ho) hn hfit hl ⟨F1, e2, e1, List.set_append_left q0 _ hlt⟩ d ?_
  refine jw_swap (sg_atp (F := F1) q0 (List.getElem?_set_self hlt) hi ka (by rw [e1]; exact ha)) ⟨F', fun j hj => by rw [hF1 j hj, e2 j hj], by rw [hF2, e1], ?_⟩ kk
  rw [List.set_set]; exact hL
theorem jq_copyG {y : MethodName} {bytes : ByteArray} {index m : Nat} {rt : Option FieldType} {P : sg_A} {New : Nat → sg_A} {As : List Value} (ok : jx_ok X D cc own ret) (hR : jx_R X = { frames := fr0, cells := b0, slots := k0, locals := lo0 }) (hcc : b ≤ b0 ∧ k ≤ k0) (hb : 1 ≤ b ∧ m ≤ k) (hg : jm_S own index y bytes 3 rt 2) (hM : jc_C (jx_l X) D y bytes 3 rt { frames := 1, cells := 1, slots := m, locals := 40 } As [P] (fun q : Nat => (.returned (some (.ref q)), True, [P, New q])))
    (hq : sg_at L P Rl) (hL : Rl P L) (hst : st = As.reverse ++ rest) (hn : As.length = 2) (hw : (rest.map fun v => v.category).sum ≤ 8) (hF : 2 ≤ fr0 ∧ 62 ≤ lo0) (d : decode cc pc = .ok (.invokestatic index, 3))
    (kk : ∀ q, jw X (b0 - (b - 1)) (k0 - (k - m)) (L ++ [New q]) lv (pc + 3) (.ref q :: rest)) : jw X (b0 - b) (k0 - k) L lv pc st := by
  intro h H locs ls h1 h2 h3 h4 h5
  obtain ⟨f, g, dj, e, p, mk⟩ := hq h h1
  have hl : sg_l [P, fun x => x = g] h := ⟨f, g, dj, e, p, g, sg_0, sg_dj_0 g, (sg_un_0 g).symm, rfl, rfl⟩
  refine (jr_cS1x (L := [P, fun x => x = g]) [0] [1] (fun q => [P, New q] ++ [fun x => x = g]) (b0 - b + 1) (k0 - k + m) ok hR hg hM (List.isPerm_iff.mp rfl) rfl rfl (fun _ => rfl) hst hn hw ⟨hF.1, hF.2⟩ rfl rfl ⟨by show b0 - b + 1 ≤ b0; omega, by show k0 - k + m ≤ k0; omega⟩ d (fun q _ => ?_)) h H locs ls hl h2 h3 h4 h5
  refine jr_widen (cs' := b0 - (b - 1)) (sl' := k0 - (k - m)) (by omega) (by omega) ?_
  intro h' H' locs' ls' a1 a2 a3 a4 a5
  refine kk q h' H' locs' ls' ?_ a2 a3 a4 a5
  obtain ⟨f1, g1, d1, e1, p1, f2, g2, d2, e2, p2, f3, g3, d3, e3, p3, p4⟩ := a1
  have p3' : f3 = g := p3
  have p4' : g3 = sg_0 := p4
  subst p3'
  have e4 : g2 = f3 := by rw [e3, p4', sg_un_0]
  subst e4
  subst e2
  have q1 := sg_dj_un.mp d1
  refine (sg_l_app L [New q] h').mpr ⟨sg_un f1 g2, f2, sg_un_dj.mpr ⟨q1.1, d2.symm⟩, ?_, mk P L f1 hL p1 q1.2, f2, sg_0, sg_dj_0 _, (sg_un_0 _).symm, p2, rfl⟩
  rw [e1, sg_un_assoc, sg_un_comm d2]
theorem jq_newGi {n : Int} (ok : jx_ok X D cc own ret) (hR : jx_R X = { frames := fr0, cells := b0, slots := k0, locals := lo0 }) (hcc : b ≤ b0 ∧ k ≤ k0) (hw : Cond.arrayClass .int ∈ jw_all) (hb : ((0 : Int) ≤ n ∧ n ≤ 67108864) ∧ 1 ≤ b ∧ n.toNat ≤ k) (d : decode cc pc = .ok (.newarray .int, 2))
    (kk : ∀ q : Nat, jw X (b0 - (b - 1)) (k0 - (k - n.toNat)) (L ++ [ai D 0 q n (fun _ => 0)]) lv (pc + 2) (.ref q :: st)) : jw X (b0 - b) (k0 - k) L lv pc (.int (ii n) :: st) :=
  jr_newi ok hR hw hb.1.1 hb.1.2 (by show b0 - b + 1 ≤ b0; omega) (by show k0 - k + n.toNat ≤ k0; omega) d (fun q => jr_widen (by omega) (by omega) (kk q))
theorem jq_newGz {n : Int} (ok : jx_ok X D cc own ret) (hR : jx_R X = { frames := fr0, cells := b0, slots := k0, locals := lo0 }) (hcc : b ≤ b0 ∧ k ≤ k0) (hw : Cond.arrayClass .boolean ∈ jw_all) (hb : ((0 : Int) ≤ n ∧ n ≤ 67108864) ∧ 1 ≤ b ∧ n.toNat ≤ k) (d : decode cc pc = .ok (.newarray .boolean, 2))
    (kk : ∀ q : Nat, jw X (b0 - (b - 1)) (k0 - (k - n.toNat)) (L ++ [ai D 3 q n (fun _ => 0)]) lv (pc + 2) (.ref q :: st)) : jw X (b0 - b) (k0 - k) L lv pc (.int (ii n) :: st) :=
  jr_newz ok hR hw hb.1.1 hb.1.2 (by show b0 - b + 1 ≤ b0; omega) (by show k0 - k + n.toNat ≤ k0; omega) d (fun q => jr_widen (by omega) (by omega) (kk q))
theorem jq_newGl {n : Int} (ok : jx_ok X D cc own ret) (hR : jx_R X = { frames := fr0, cells := b0, slots := k0, locals := lo0 }) (hcc : b ≤ b0 ∧ k ≤ k0) (hw : Cond.arrayClass .long ∈ jw_all) (hb : ((0 : Int) ≤ n ∧ n ≤ 67108864) ∧ 1 ≤ b ∧ n.toNat ≤ k) (d : decode cc pc = .ok (.newarray .long, 2))
    (kk : ∀ q : Nat, jw X (b0 - (b - 1)) (k0 - (k - n.toNat)) (L ++ [al D 2 q n (fun _ => 0)]) lv (pc + 2) (.ref q :: st)) : jw X (b0 - b) (k0 - k) L lv pc (.int (ii n) :: st) :=
  jr_newl ok hR hw hb.1.1 hb.1.2 (by show b0 - b + 1 ≤ b0; omega) (by show k0 - k + n.toNat ≤ k0; omega) d (fun q => jr_widen (by omega) (by omega) (kk q))
/-- the copy's content -/
def aK {α : Type} (f : Int → α) (z : α) (n m : Int) : Int → α := fun j => if 0 ≤ j ∧ j < min n m then f j else z
theorem aK_eq {α : Type} (f : Int → α) (z : α) (n m : Int) : (fun j : Int => if 0 ≤ j ∧ j < 0 + (min n m) then f (0 + (j - 0)) else (fun _ => z) j) = aK f z n m := by
  funext j; unfold aK
  rw [Int.zero_add, Int.zero_add, Int.sub_zero]
/-- all are bytes -/
def bChk (f : Int → Int) : Nat → Bool
  | 0 => true
  | k + 1 => bChk f k && decide (-128 ≤ f (k : Int) ∧ f (k : Int) ≤ 127)
theorem bChk_at {f : Int → Int} : ∀ {n : Nat}, bChk f n = true → ∀ i : Int, 0 ≤ i → i < (n : Int) → -128 ≤ f i ∧ f i ≤ 127
  | 0, _, i, h0, h1 => by omega
  | n + 1, h, i, h0, h1 => by
    rw [bChk, Bool.and_eq_true] at h
    by_cases c : i = (n : Int)
    · subst c; exact of_decide_eq_true h.2
    · exact bChk_at h.1 i h0 (by omega)
theorem c_cpB (l : Launch) (D : jd_T) (a : Nat) (n m : Int) (f : Int → Int) (h : (((0 : Int) ≤ n ∧ n ≤ 2147483647) ∧ ((0 : Int) ≤ m ∧ m ≤ 67108864) ∧ n ≠ m) ∧ bChk f n.toNat = true) : jc_C l D y_J_Arrays_copyOf_BIB b_J_Arrays_copyOf_BIB 3 (some (.array .byte)) { frames := 1, cells := 1, slots := m.toNat, locals := 40 } [.ref a, .int (ii m)] [ai D 1 a n f] (fun q : Nat => (.returned (some (.ref q)), True, [ai D 1 a n f, ai D 1 q m (aK f 0 n m)])) := by
  have := c_copyB l D a n m f h.1.1.1 h.1.2.1.1 h.1.2.1.2 h.1.1.2 h.1.2.2 (fun i h0 h1 => fit_b (bChk_at h.2 i h0 (by omega)))
  rw [aK_eq f 0 n m] at this
  exact this
theorem c_cpI (l : Launch) (D : jd_T) (a : Nat) (n m : Int) (f : Int → Int) (h : ((0 : Int) ≤ n ∧ n ≤ 2147483647) ∧ ((0 : Int) ≤ m ∧ m ≤ 67108864) ∧ n ≠ m) : jc_C l D y_J_Arrays_copyOf_III b_J_Arrays_copyOf_III 3 (some (.array .int)) { frames := 1, cells := 1, slots := m.toNat, locals := 40 } [.ref a, .int (ii m)] [ai D 0 a n f] (fun q : Nat => (.returned (some (.ref q)), True, [ai D 0 a n f, ai D 0 q m (aK f 0 n m)])) := by
  have := c_copyI l D a n m f h.1.1 h.2.1.1 h.2.1.2 h.1.2 h.2.2
  rw [aK_eq f 0 n m] at this
  exact this
theorem c_cpL (l : Launch) (D : jd_T) (a : Nat) (n m : Int) (f : Int → Int64) (h : ((0 : Int) ≤ n ∧ n ≤ 2147483647) ∧ ((0 : Int) ≤ m ∧ m ≤ 67108864) ∧ n ≠ m) : jc_C l D y_J_Arrays_copyOf_JIJ b_J_Arrays_copyOf_JIJ 3 (some (.array .long)) { frames := 1, cells := 1, slots := m.toNat, locals := 40 } [.ref a, .int (ii m)] [al D 2 a n f] (fun q : Nat => (.returned (some (.ref q)), True, [al D 2 a n f, al D 2 q m (aK f 0 n m)])) := by
  have := c_copyL l D a n m f h.1.1 h.2.1.1 h.2.1.2 h.1.2 h.2.2
  rw [aK_eq f 0 n m] at this
  exact this
variable {α κ σ : Type} {Lf : α → κ → σ → List sg_A} {c c9 : κ} {Sc S9 : σ} {bc bs : κ → Nat} {ψ : α → Prop}
theorem jh_iret {z r : Int} (u : α) (ok : jx_ok X D cc own (some .int)) (fin : jg_fin X (fun u : α => (.returned (some (.int (ii r))), (bc c9 ≤ b0 ∧ bs c9 ≤ k0) ∧ ψ u, Lf u c9 S9, b0 - bc c9, k0 - bs c9))) (hcc : (bc c ≤ b0 ∧ bs c ≤ k0) ∧ ψ u) (hs : some (z, c, Sc) = some (r, c9, S9)) (d : decode cc pc = .ok (.ireturn, 1)) : jw X (b0 - bc c) (k0 - bs c) (Lf u c Sc) lv pc [.int (ii z)] := by
  cases hs; exact jr_iret ok (jg_at fin u) (Nat.le_refl _) (Nat.le_refl _) () rfl hcc sg_same d
theorem jh_zret {z r : Int} (u : α) (ok : jx_ok X D cc own (some .boolean)) (hz : narrow .boolean (.int (ii z)) = .int (ii z)) (fin : jg_fin X (fun u : α => (.returned (some (.int (ii r))), (bc c9 ≤ b0 ∧ bs c9 ≤ k0) ∧ ψ u, Lf u c9 S9, b0 - bc c9, k0 - bs c9))) (hcc : (bc c ≤ b0 ∧ bs c ≤ k0) ∧ ψ u) (hs : some (z, c, Sc) = some (r, c9, S9)) (d : decode cc pc = .ok (.ireturn, 1)) : jw X (b0 - bc c) (k0 - bs c) (Lf u c Sc) lv pc [.int (ii z)] := by
  cases hs; exact jr_zret ok hz (jg_at fin u) (Nat.le_refl _) (Nat.le_refl _) () rfl hcc sg_same d
theorem jh_lret {z r : Int64} (u : α) (ok : jx_ok X D cc own (some .long)) (fin : jg_fin X (fun u : α => (.returned (some (.long r)), (bc c9 ≤ b0 ∧ bs c9 ≤ k0) ∧ ψ u, Lf u c9 S9, b0 - bc c9, k0 - bs c9))) (hcc : (bc c ≤ b0 ∧ bs c ≤ k0) ∧ ψ u) (hs : some (z, c, Sc) = some (r, c9, S9)) (d : decode cc pc = .ok (.lreturn, 1)) : jw X (b0 - bc c) (k0 - bs c) (Lf u c Sc) lv pc [.long z] := by
  cases hs; exact jr_lret ok (jg_at fin u) (Nat.le_refl _) (Nat.le_refl _) () rfl hcc sg_same d
theorem jh_vret {r : Unit} (u : α) (ok : jx_ok X D cc own none) (fin : jg_fin X (fun u : α => (.returned (none), (bc c9 ≤ b0 ∧ bs c9 ≤ k0) ∧ ψ u, Lf u c9 S9, b0 - bc c9, k0 - bs c9))) (hcc : (bc c ≤ b0 ∧ bs c ≤ k0) ∧ ψ u) (hs : some ((), c, Sc) = some (r, c9, S9)) (d : decode cc pc = .ok (.return_, 1)) : jw X (b0 - bc c) (k0 - bs c) (Lf u c Sc) lv pc [] := by
  cases hs; exact jr_vret ok (jg_at fin u) (Nat.le_refl _) (Nat.le_refl _) () rfl hcc sg_same d
theorem jh_aret {C : String} {f : Nat → Nat} {z r : Nat} (u : α) (ok : jx_ok X D cc own (some (.object C))) (fin : jg_fin X (fun u : α => (.returned (some (.ref (f r))), (bc c9 ≤ b0 ∧ bs c9 ≤ k0) ∧ ψ u, Lf u c9 S9, b0 - bc c9, k0 - bs c9))) (hcc : (bc c ≤ b0 ∧ bs c ≤ k0) ∧ ψ u) (hs : some (z, c, Sc) = some (r, c9, S9)) (d : decode cc pc = .ok (.areturn, 1)) : jw X (b0 - bc c) (k0 - bs c) (Lf u c Sc) lv pc [.ref (f z)] := by
  cases hs; exact jr_aret ok (Or.inr ⟨_, rfl⟩) (jg_at fin u) (Nat.le_refl _) (Nat.le_refl _) () rfl hcc sg_same d
variable {y : MethodName} {bytes : ByteArray} {maxL index n b1 k1 : Nat} {rt : Option FieldType} {As : List Value} {v : Value} {Lo : α → List sg_A}
theorem jh_gV1 {ci a : Nat} {C : String} {T : u_T} {N fr lo : Nat} {fs : List Value} (ok : jx_ok X D cc own ret) (hI : jI D (jx_A X) (jx_s X) (jx_s X).heap) (hR : jx_R X = { frames := fr0, cells := b0, slots := k0, locals := lo0 }) (hcc : b ≤ b0 ∧ k ≤ k0) (hg : jm_V own index C y bytes maxL rt n) (hM : jgI_C (jx_l X) D y bytes maxL rt { frames := fr, cells := b, slots := k, locals := lo } (.ref a :: As) L (fun u : α => (.returned (some v), (b1 ≤ b ∧ k1 ≤ k) ∧ ψ u, Lo u, b - b1, k - k1)))
    (hq : sg_at L (ob D a ci fs) Rl) (hcl : vwCl[ci]? = some (C, T, N)) (hst : st = As.reverse ++ .ref a :: rest) (hn : As.length = n) (hw : (rest.map fun v => v.category).sum ≤ 8) (hF : fr + 1 ≤ fr0 ∧ 8 + (maxL + 11) + lo ≤ lo0) (d : decode cc pc = .ok (.invokevirtual index, 3))
    (kk : ∀ u, b1 ≤ b0 ∧ k1 ≤ k0 → ψ u → jw X (b0 - b1) (k0 - k1) (Lo u) lv (pc + 3) (v :: rest)) : jw X (b0 - b) (k0 - k) L lv pc st :=
  jgI_callV (v := fun _ => some v) ok hI hg hM hq hcl hst hn hw (by rw [hR]; exact hF) (by rw [hR]; exact ⟨by show b0 - b + b ≤ b0; omega, by show k0 - k + k ≤ k0; omega⟩) (fun _ => rfl) d (fun u hu => jr_widen (by have := hu.1; show b0 - b + (b - b1) ≤ b0 - b1; omega) (by have := hu.1; show k0 - k + (k - k1) ≤ k0 - k1; omega) (kk u ⟨by have := hu.1; omega, by have := hu.1; omega⟩ hu.2))
theorem jh_gV0 {ci a : Nat} {C : String} {T : u_T} {N fr lo : Nat} {fs : List Value} (ok : jx_ok X D cc own ret) (hI : jI D (jx_A X) (jx_s X) (jx_s X).heap) (hR : jx_R X = { frames := fr0, cells := b0, slots := k0, locals := lo0 }) (hcc : b ≤ b0 ∧ k ≤ k0) (hg : jm_V own index C y bytes maxL rt n) (hM : jgI_C (jx_l X) D y bytes maxL rt { frames := fr, cells := b, slots := k, locals := lo } (.ref a :: As) L (fun u : α => (.returned none, (b1 ≤ b ∧ k1 ≤ k) ∧ ψ u, Lo u, b - b1, k - k1)))
    (hq : sg_at L (ob D a ci fs) Rl) (hcl : vwCl[ci]? = some (C, T, N)) (hst : st = As.reverse ++ .ref a :: rest) (hn : As.length = n) (hw : (rest.map fun v => v.category).sum ≤ 8) (hF : fr + 1 ≤ fr0 ∧ 8 + (maxL + 11) + lo ≤ lo0) (d : decode cc pc = .ok (.invokevirtual index, 3))
    (kk : ∀ u, b1 ≤ b0 ∧ k1 ≤ k0 → ψ u → jw X (b0 - b1) (k0 - k1) (Lo u) lv (pc + 3) rest) : jw X (b0 - b) (k0 - k) L lv pc st :=
  jgI_callV (v := fun _ => none) ok hI hg hM hq hcl hst hn hw (by rw [hR]; exact hF) (by rw [hR]; exact ⟨by show b0 - b + b ≤ b0; omega, by show k0 - k + k ≤ k0; omega⟩) (fun _ => rfl) d (fun u hu => jr_widen (by have := hu.1; show b0 - b + (b - b1) ≤ b0 - b1; omega) (by have := hu.1; show k0 - k + (k - k1) ≤ k0 - k1; omega) (kk u ⟨by have := hu.1; omega, by have := hu.1; omega⟩ hu.2))
end JW3
