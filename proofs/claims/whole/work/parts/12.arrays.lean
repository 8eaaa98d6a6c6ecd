/-! ===== new arrays; System.arraycopy ===== -/
section JN
variable {X : jx_T} {D : jd_T} {cc : ByteArray} {own : String} {ret : Option FieldType} {cs sl : Nat} {L : List sg_A} {lv : List (Nat × Value)} {pc : Nat} {st : List Value} {RM : Room}
theorem jr_newraw {atype : ArrayType} {t : Nat} {n : Int} {P : Nat → sg_A} (ok : jx_ok X D cc own ret) (hR : jx_R X = RM) (ht : (jk_tys D.2)[t]? = some (D.2 t, newarray.typeOf atype)) (hw : Cond.arrayClass (newarray.typeOf atype) ∈ jw_all) (h0 : 0 ≤ n) (hn : n ≤ 2147483647) (hb : n.toNat * componentBytes (newarray.typeOf atype) ≤ 536870912) (hP : ∀ q, P q (sg_1 q (arrV (D.2 t) n.toNat (fun _ => defaultValue (newarray.typeOf atype))))) (hnr : ∀ c, newarray.typeOf atype ≠ .object c)
    (hcells : cs + 1 ≤ RM.cells) (hslots : sl + n.toNat ≤ RM.slots) (d : decode cc pc = .ok (.newarray atype, 2))
    (kk : ∀ q : Nat, jw X (cs + 1) (sl + n.toNat) (L ++ [P q]) lv (pc + 2) (.ref q :: st)) : jw X cs sl L lv pc (.int (ii n) :: st) := by
  intro h H locs ls h1 h2 h3 h4 h5
  subst hR
  have hiR : iR n := ⟨by omega, by omega⟩
  refine va_newaK ok.1 ok.2.1 (ok.2.2.2.2.1 _ hw) rfl d rfl (ii_nneg hiR h0) (ii_clamp hiR) hb hcells hslots rfl fun H1 cA e1 z1 o1 hAr hNm => ?_
  have hra := (ok.2.2.2.2.2.2.2.1.1.2 t _ ht).2
  have hcA : D.2 t = cA := jr_arrcls hra hNm
  subst hcA
  refine kk H.size _ H1 locs ls (sg_push L _ h (sg_1 H.size _) h1 (hP H.size) (sg_dj_new h2 _)) (sg_in_new h2 e1 o1) (fun q c hq => ?_) ⟨Nat.le_trans h4.1 (by omega), fun x g1 g2 => (o1 x (Nat.lt_of_lt_of_le g1 h4.1)).trans (h4.2.1 x g1 g2), h4.2.2⟩ h5
  rcases sg_un_some hq with z | z
  · exact h3 q c z
  · rw [(sg_1_some z).1]; exact ok.2.2.2.2.2.2.2.2 _ h4.1
theorem jr_newi {n : Int} (ok : jx_ok X D cc own ret) (hR : jx_R X = RM) (hw : Cond.arrayClass .int ∈ jw_all) (h0 : 0 ≤ n) (hn : n ≤ 67108864) (hcells : cs + 1 ≤ RM.cells) (hslots : sl + n.toNat ≤ RM.slots) (d : decode cc pc = .ok (.newarray .int, 2))
    (kk : ∀ q : Nat, jw X (cs + 1) (sl + n.toNat) (L ++ [ai D 0 q n (fun _ => 0)]) lv (pc + 2) (.ref q :: st)) : jw X cs sl L lv pc (.int (ii n) :: st) :=
  jr_newraw (atype := .int) (t := 0) (P := fun q => ai D 0 q n (fun _ => 0)) ok hR rfl hw h0 (by omega) (by show n.toNat * 4 ≤ _; omega) (fun q => ⟨h0, by omega, rfl⟩) (fun c => by intro z; cases z) hcells hslots d kk
theorem jr_newb {n : Int} (ok : jx_ok X D cc own ret) (hR : jx_R X = RM) (hw : Cond.arrayClass .byte ∈ jw_all) (h0 : 0 ≤ n) (hn : n ≤ 67108864) (hcells : cs + 1 ≤ RM.cells) (hslots : sl + n.toNat ≤ RM.slots) (d : decode cc pc = .ok (.newarray .byte, 2))
    (kk : ∀ q : Nat, jw X (cs + 1) (sl + n.toNat) (L ++ [ai D 1 q n (fun _ => 0)]) lv (pc + 2) (.ref q :: st)) : jw X cs sl L lv pc (.int (ii n) :: st) :=
  jr_newraw (atype := .byte) (t := 1) (P := fun q => ai D 1 q n (fun _ => 0)) ok hR rfl hw h0 (by omega) (by show n.toNat * 1 ≤ _; omega) (fun q => ⟨h0, by omega, rfl⟩) (fun c => by intro z; cases z) hcells hslots d kk
theorem jr_newz {n : Int} (ok : jx_ok X D cc own ret) (hR : jx_R X = RM) (hw : Cond.arrayClass .boolean ∈ jw_all) (h0 : 0 ≤ n) (hn : n ≤ 67108864) (hcells : cs + 1 ≤ RM.cells) (hslots : sl + n.toNat ≤ RM.slots) (d : decode cc pc = .ok (.newarray .boolean, 2))
    (kk : ∀ q : Nat, jw X (cs + 1) (sl + n.toNat) (L ++ [ai D 3 q n (fun _ => 0)]) lv (pc + 2) (.ref q :: st)) : jw X cs sl L lv pc (.int (ii n) :: st) :=
  jr_newraw (atype := .boolean) (t := 3) (P := fun q => ai D 3 q n (fun _ => 0)) ok hR rfl hw h0 (by omega) (by show n.toNat * 1 ≤ _; omega) (fun q => ⟨h0, by omega, rfl⟩) (fun c => by intro z; cases z) hcells hslots d kk
theorem jr_newl {n : Int} (ok : jx_ok X D cc own ret) (hR : jx_R X = RM) (hw : Cond.arrayClass .long ∈ jw_all) (h0 : 0 ≤ n) (hn : n ≤ 67108864) (hcells : cs + 1 ≤ RM.cells) (hslots : sl + n.toNat ≤ RM.slots) (d : decode cc pc = .ok (.newarray .long, 2))
    (kk : ∀ q : Nat, jw X (cs + 1) (sl + n.toNat) (L ++ [al D 2 q n (fun _ => 0)]) lv (pc + 2) (.ref q :: st)) : jw X cs sl L lv pc (.int (ii n) :: st) :=
  jr_newraw (atype := .long) (t := 2) (P := fun q => al D 2 q n (fun _ => 0)) ok hR rfl hw h0 (by omega) (by show n.toNat * 8 ≤ _; omega) (fun q => ⟨h0, by omega, rfl⟩) (fun c => by intro z; cases z) hcells hslots d kk
theorem W_copyi {p : Program} {l : Launch} {e : Env} {R : Room} {s : State} {m : MethodId} {args : Array Value} {below : List Frame} {meth : Method} {c : Code} {H : Heap} {locs : List Loc} {cells slots : Nat} {Q : State → Prop} {ls : Array Slot} {rest : List Value} (hexec : p.tables.exec = Jvm.exec) (hb : c.code = cc) (hml : c.maxLocals = ls.size) {index : Nat} (hown : s.vm.findClass own = some m.cls) (hlink : (Cond.methodLink own index arraycopyName).before args s = true) (hnat : (Cond.native arraycopyName).before args s = true) (hstat : (Cond.static arraycopyName).before args s = true) (hini : (Cond.initialized "java/lang/System").before args s = true)
    {a0 a : Nat} {c0 c1 : ClassId} {n0 n1 : Nat} {f g : Nat → Int32} {ty : FieldType} (hc0 : H[a0]? = some (arrV c0 n0 (fun j => .int (f j)))) (hc1 : H[a]? = some (arrV c1 n1 (fun j => .int (g j)))) (ht0 : ArrOfT s c0 ty) (ht1 : ArrOfT s c1 ty) (hprim : refKind ty = false)
    {sp dp n : Int32} (h1 : ¬ sp < 0) (h2 : ¬ dp < 0) (h3 : ¬ n < 0) (h4 : sp.toNatClampNeg + n.toNatClampNeg ≤ n0) (h5 : dp.toNatClampNeg + n.toNatClampNeg ≤ n1) (hfit : ∀ i, i < n.toNatClampNeg → fits ty (.int (f (sp.toNatClampNeg + i))) = true)
    (hframes : 1 ≤ R.frames) (hlocals : (rest.map fun v => v.category).sum + (nativeFrameWords "java/lang/System" "arraycopy" 5 + 11) ≤ R.locals) (hdg : decode cc pc = .ok (.invokestatic index, 3))
    (kk : ∀ (H1 : Heap) (L1 : List Loc), H1[a]? = some (arrV c1 n1 (fun j => .int (va_cpy f g sp.toNatClampNeg dp.toNatClampNeg n.toNatClampNeg j))) → H1.size = H.size → (∀ q : Nat, q ≠ a → H1[q]? = H[q]?) → (∀ q ∈ L1, q.base = a) → W p l e R s m args below meth c H1 (locs ++ L1) cells slots Q (F0 m (pc + 3) ls rest)) : W p l e R s m args below meth c H locs cells slots Q (F0 m pc ls (.int n :: .int dp :: .ref a :: .int sp :: .ref a0 :: rest)) := by
  have nn : ∀ z : Int32, ¬ z < 0 → z.toInt = (z.toNatClampNeg : Int) := by
    intro z hz
    have hz0 : (0 : Int) ≤ z.toInt := by
      have := Int32.not_lt.mp hz
      simpa using Int32.le_iff_toInt_le.mp this
    show z.toInt = ((z.toInt.toNat : Nat) : Int)
    omega
  intro T hT S
  obtain ⟨-, k0, hk0, cm0, hkk0⟩ := ht0 n0 (fun j => .int (f j))
  obtain ⟨-, k1, hk1, cm1, hkk1⟩ := ht1 n1 (fun j => .int (g j))
  obtain ⟨vm', X', step⟩ := S.arraycopy hexec hown hlink hnat hstat hini (src := a0) (dst := a) (cs := arrV c0 n0 (fun j => .int (f j))) (cd := arrV c1 n1 (fun j => .int (g j))) (srcPos := sp) (destPos := dp) (n := n) (by rw [hT]; exact hc0) (by rw [hT]; exact hc1)
    (fun _ h => by cases h) (fun _ h => by cases h) (fun h => by cases h) (fun h => by cases h) hk0 hk1 hkk0 hkk1 (by simp [hprim]) h1 h2 h3
    (by rw [nn sp h1, nn n h3, arrV_size]; omega)
    (by rw [nn dp h2, nn n h3, arrV_size]; omega)
    (fun vm₁ _ i hi => by
      have e : (arrV c0 n0 (fun j => .int (f j))).slots.getD (sp.toNatClampNeg + i) .null = .int (f (sp.toNatClampNeg + i)) := by
        rw [Array.getD_eq_getD_getElem?, arrV_read _ _ (by omega)]
        rfl
      refine ⟨?_, ?_⟩
      · rw [e]
        exact hfit i hi
      · rw [e]
        exact trivial)
    (g := F0 m pc ls (.int n :: .int dp :: .ref a :: .int sp :: .ref a0 :: rest)) rfl (by rw [hml]) (rest := rest) rfl (by rw [hb]; exact hdg) hframes (by show 2 * 0 + _ + _ ≤ _; omega)
  have e1 : copied (arrV c0 n0 (fun j => .int (f j))) (arrV c1 n1 (fun j => .int (g j))) sp dp n = arrV c1 n1 (fun j => .int (va_cpy f g sp.toNatClampNeg dp.toNatClampNeg n.toNatClampNeg j)) := va_copied (fun z => .int z) c0 c1 f g h4
  rw [e1] at X' step
  have hl : a < H.size := (Array.getElem?_eq_some_iff.mp hc1).1
  have hheap : ((T.setVm vm').setCell a (arrV c1 n1 (fun j => .int (va_cpy f g sp.toNatClampNeg dp.toNatClampNeg n.toNatClampNeg j)))).heap = H.setIfInBounds a (arrV c1 n1 (fun j => .int (va_cpy f g sp.toNatClampNeg dp.toNatClampNeg n.toNatClampNeg j))) := by rw [← hT]; rfl
  obtain ⟨t, a1, b1⟩ := kk _ _ (show (H.setIfInBounds a _)[a]? = some _ by simp [Array.getElem?_setIfInBounds, hl]) (by simp) (fun q hq => by simp [Array.getElem?_setIfInBounds, Ne.symm hq]) (fun q hq => by
      obtain ⟨z, -, hz⟩ := List.mem_map.mp hq
      rw [← hz]) _ hheap X'
  exact ⟨t, step t a1, b1⟩
theorem W_copyl {p : Program} {l : Launch} {e : Env} {R : Room} {s : State} {m : MethodId} {args : Array Value} {below : List Frame} {meth : Method} {c : Code} {H : Heap} {locs : List Loc} {cells slots : Nat} {Q : State → Prop} {ls : Array Slot} {rest : List Value} (hexec : p.tables.exec = Jvm.exec) (hb : c.code = cc) (hml : c.maxLocals = ls.size) {index : Nat} (hown : s.vm.findClass own = some m.cls) (hlink : (Cond.methodLink own index arraycopyName).before args s = true) (hnat : (Cond.native arraycopyName).before args s = true) (hstat : (Cond.static arraycopyName).before args s = true) (hini : (Cond.initialized "java/lang/System").before args s = true)
    {a0 a : Nat} {c0 c1 : ClassId} {n0 n1 : Nat} {f g : Nat → Int64} {ty : FieldType} (hc0 : H[a0]? = some (arrV c0 n0 (fun j => .long (f j)))) (hc1 : H[a]? = some (arrV c1 n1 (fun j => .long (g j)))) (ht0 : ArrOfT s c0 ty) (ht1 : ArrOfT s c1 ty) (hprim : refKind ty = false)
    {sp dp n : Int32} (h1 : ¬ sp < 0) (h2 : ¬ dp < 0) (h3 : ¬ n < 0) (h4 : sp.toNatClampNeg + n.toNatClampNeg ≤ n0) (h5 : dp.toNatClampNeg + n.toNatClampNeg ≤ n1) (hfit : ∀ i, i < n.toNatClampNeg → fits ty (.long (f (sp.toNatClampNeg + i))) = true)
    (hframes : 1 ≤ R.frames) (hlocals : (rest.map fun v => v.category).sum + (nativeFrameWords "java/lang/System" "arraycopy" 5 + 11) ≤ R.locals) (hdg : decode cc pc = .ok (.invokestatic index, 3))
    (kk : ∀ (H1 : Heap) (L1 : List Loc), H1[a]? = some (arrV c1 n1 (fun j => .long (va_cpy f g sp.toNatClampNeg dp.toNatClampNeg n.toNatClampNeg j))) → H1.size = H.size → (∀ q : Nat, q ≠ a → H1[q]? = H[q]?) → (∀ q ∈ L1, q.base = a) → W p l e R s m args below meth c H1 (locs ++ L1) cells slots Q (F0 m (pc + 3) ls rest)) : W p l e R s m args below meth c H locs cells slots Q (F0 m pc ls (.int n :: .int dp :: .ref a :: .int sp :: .ref a0 :: rest)) := by
  have nn : ∀ z : Int32, ¬ z < 0 → z.toInt = (z.toNatClampNeg : Int) := by
    intro z hz
    have hz0 : (0 : Int) ≤ z.toInt := by
      have := Int32.not_lt.mp hz
      simpa using Int32.le_iff_toInt_le.mp this
    show z.toInt = ((z.toInt.toNat : Nat) : Int)
    omega
  intro T hT S
  obtain ⟨-, k0, hk0, cm0, hkk0⟩ := ht0 n0 (fun j => .long (f j))
  obtain ⟨-, k1, hk1, cm1, hkk1⟩ := ht1 n1 (fun j => .long (g j))
  obtain ⟨vm', X', step⟩ := S.arraycopy hexec hown hlink hnat hstat hini (src := a0) (dst := a) (cs := arrV c0 n0 (fun j => .long (f j))) (cd := arrV c1 n1 (fun j => .long (g j))) (srcPos := sp) (destPos := dp) (n := n) (by rw [hT]; exact hc0) (by rw [hT]; exact hc1)
    (fun _ h => by cases h) (fun _ h => by cases h) (fun h => by cases h) (fun h => by cases h) hk0 hk1 hkk0 hkk1 (by simp [hprim]) h1 h2 h3
    (by rw [nn sp h1, nn n h3, arrV_size]; omega)
    (by rw [nn dp h2, nn n h3, arrV_size]; omega)
    (fun vm₁ _ i hi => by
      have e : (arrV c0 n0 (fun j => .long (f j))).slots.getD (sp.toNatClampNeg + i) .null = .long (f (sp.toNatClampNeg + i)) := by
        rw [Array.getD_eq_getD_getElem?, arrV_read _ _ (by omega)]
        rfl
      refine ⟨?_, ?_⟩
      · rw [e]
        exact hfit i hi
      · rw [e]
        exact trivial)
    (g := F0 m pc ls (.int n :: .int dp :: .ref a :: .int sp :: .ref a0 :: rest)) rfl (by rw [hml]) (rest := rest) rfl (by rw [hb]; exact hdg) hframes (by show 2 * 0 + _ + _ ≤ _; omega)
  have e1 : copied (arrV c0 n0 (fun j => .long (f j))) (arrV c1 n1 (fun j => .long (g j))) sp dp n = arrV c1 n1 (fun j => .long (va_cpy f g sp.toNatClampNeg dp.toNatClampNeg n.toNatClampNeg j)) := va_copied (fun z => .long z) c0 c1 f g h4
  rw [e1] at X' step
  have hl : a < H.size := (Array.getElem?_eq_some_iff.mp hc1).1
  have hheap : ((T.setVm vm').setCell a (arrV c1 n1 (fun j => .long (va_cpy f g sp.toNatClampNeg dp.toNatClampNeg n.toNatClampNeg j)))).heap = H.setIfInBounds a (arrV c1 n1 (fun j => .long (va_cpy f g sp.toNatClampNeg dp.toNatClampNeg n.toNatClampNeg j))) := by rw [← hT]; rfl
  obtain ⟨t, a1, b1⟩ := kk _ _ (show (H.setIfInBounds a _)[a]? = some _ by simp [Array.getElem?_setIfInBounds, hl]) (by simp) (fun q hq => by simp [Array.getElem?_setIfInBounds, Ne.symm hq]) (fun q hq => by
      obtain ⟨z, -, hz⟩ := List.mem_map.mp hq
      rw [← hz]) _ hheap X'
  exact ⟨t, step t a1, b1⟩
end JN
section JQ
variable {X : jx_T} {D : jd_T} {cc : ByteArray} {own : String} {ret : Option FieldType} {cs sl : Nat} {L : List sg_A} {lv : List (Nat × Value)} {pc : Nat} {st : List Value} {RM : Room}
/-- a new array of references -/
theorem jr_newq {t index : Nat} {n : Int} {C : String} (ok : jx_ok X D cc own ret) (hR : jx_R X = RM) (ht : (jk_tys D.2)[t]? = some (D.2 t, .object C)) (hw : Cond.classLink own index C ∈ jw_all) (hao : va_AO C (jx_s X)) (h0 : 0 ≤ n) (hn : n ≤ 1000000) (hcells : cs + 1 ≤ RM.cells) (hslots : sl + n.toNat ≤ RM.slots) (d : decode cc pc = .ok (.anewarray index, 3))
    (kk : ∀ q : Nat, jw X (cs + 1) (sl + n.toNat) (L ++ [aq D t q n (fun _ => .null)]) lv (pc + 3) (.ref q :: st)) : jw X cs sl L lv pc (.int (ii n) :: st) := by
  intro h H locs ls h1 h2 h3 h4 h5
  subst hR
  have hiR : iR n := ⟨by omega, by omega⟩
  refine W.anew ok.1 ok.2.1 ok.2.2.2.1 (ok.2.2.2.2.1 _ hw) (va_AO.use hao) rfl d rfl (ii_nneg hiR h0) (by rw [ii_clamp hiR]; omega) hcells (by rw [ii_clamp hiR]; exact hslots) fun cA kA comp f1 f2 f3 f4 => ?_
  rw [ii_clamp hiR]
  have hra := (ok.2.2.2.2.2.2.2.1.1.2 t _ ht).2
  have hcA : D.2 t = cA := jr_arrcls hra f1
  subst hcA
  generalize hH1 : H.push ({ cls := D.2 t, slots := Array.replicate n.toNat .null, vm := .none } : Cell) = H1
  have z1 : H1.size = H.size + 1 := by rw [← hH1, Array.size_push]
  have e1 : H1[H.size]? = some (arrV (D.2 t) n.toNat (fun _ => .null)) := by rw [← hH1, Array.getElem?_push_size, ← arrV_new]
  have o1 : ∀ q : Nat, q < H.size → H1[q]? = H[q]? := fun q hq => by rw [← hH1, Array.getElem?_push, if_neg (Nat.ne_of_lt hq)]
  refine kk H.size _ H1 locs ls (sg_push L _ h (sg_1 H.size _) h1 ⟨h0, by omega, rfl⟩ (sg_dj_new h2 _)) (sg_in_new h2 e1 o1) (fun q c hq => ?_) ⟨Nat.le_trans h4.1 (by omega), fun x g1 g2 => (o1 x (Nat.lt_of_lt_of_le g1 h4.1)).trans (h4.2.1 x g1 g2), h4.2.2⟩ h5
  rcases sg_un_some hq with z | z
  · exact h3 q c z
  · rw [(sg_1_some z).1]; exact ok.2.2.2.2.2.2.2.2 _ h4.1
/-- a reference into an array of references -/
theorem jr_aast {t a v ci : Nat} {n i : Int} {f : Int → Value} {fs : List Value} {C : String} {T : u_T} {N : Nat} (L' : List sg_A) (ok : jx_ok X D cc own ret) (q0 qv : Nat) (hq : L[q0]? = some (aq D t a n f)) (hv : L[qv]? = some (ob D v ci fs)) (hcl : vwCl[ci]? = some (C, T, N)) (ht : (jk_tys D.2)[t]? = some (D.2 t, .object C)) (hi0 : 0 ≤ i) (hi1 : i < n) (hL : L.set q0 (aq D t a n (fun j => if j = i then .ref v else f j)) = L') (d : decode cc pc = .ok (.aastore, 1))
    (kk : jw X cs sl L' lv (pc + 1) st) : jw X cs sl L lv pc (.ref v :: .int (ii i) :: .ref a :: st) := by
  intro h H locs ls h1 h2 h3 h4 h5
  have hn : n ≤ 2147483647 := by
    obtain ⟨f, g, dj, he, hp, mk⟩ := sg_pull L q0 _ h hq h1
    exact hp.2.1
  have hcell := jr_cell hq (fun f hp => hp.2.2) h1 h2
  have hiR : iR i := ⟨by omega, by omega⟩
  obtain ⟨f0, g0, d0, e0, ⟨cv, r, hf0, hcr, q2, q3, q4⟩, -⟩ := sg_pull L qv _ h hv h1
  have hcv : H[v]? = some cv := h2 v cv (by rw [e0, hf0]; exact sg_un_l (sg_1_at v cv))
  obtain ⟨kA, comp, r1, r2, r3, r4⟩ := (ok.2.2.2.2.2.2.2.1.1.2 t _ ht).2
  obtain ⟨-, hfc, kC, hkC, hkind⟩ := ok.2.2.2.2.2.2.2.1.1.1 ci _ hcl
  have hcomp : comp = D.1.1 ci := Option.some.inj (r3.symm.trans hfc)
  refine W.aast ok.1 ok.2.1 hcell (fun q z => by cases z) (fun z => by cases z) r1 r2 rfl (by rw [hcomp]; exact hkC) ⟨ii_nneg hiR hi0, by rw [ii_clamp hiR, arrV_size]; omega⟩ hcv (fun q z => by rw [q3] at z; cases z) (by rw [q2]; exact hkC) (by rw [q2, hcomp]; exact va_asg _ _) rfl rfl d fun H' e1 e2 e3 => ?_
  rw [arrV_store] at e1
  obtain ⟨h', a1, a2, a3, a4⟩ := jr_cellset (X := X) (P' := aq D t a n (fun j => if j = i then .ref v else f j)) hq (fun f hp => hp.2.2) ⟨by omega, hn, rfl⟩ hL h1 h2 h3 h4 (by
    rw [e1]
    congr 2
    funext j
    rw [ii_clamp hiR]
    simp only [updV]
    by_cases hj : j = i.toNat
    · rw [if_pos hj, if_pos (by omega)]
    · rw [if_neg hj, if_neg (by omega)]) e2 e3
  exact kk h' H' _ ls a1 a2 a3 a4 h5
end JQ
