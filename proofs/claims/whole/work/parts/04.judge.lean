/-! ===== the judgement: a method's walk, its heap as a separating list ===== -/
/-- class numbers and slots; array classes -/
abbrev jd_T : Type := va_G × (Nat → ClassId)
def jk_K (D : jd_T) (U : State) : Prop := va_K D.1 vwCl (jk_tys D.2) U ∧ va_AO "WindowTables$Series" U ∧ va_AO "WindowTables$Grid" U
theorem jk_K.moved {D : jd_T} {u U : State} (hvm : u.vm.Alike U.vm) (h : jk_K D u) : jk_K D U := ⟨va_K.moved hvm h.1, h.2.1.moved hvm, h.2.2.moved hvm⟩
/-- an object: its address, its class's number in vwCl, its fields -/
def ob (D : jd_T) (a ci : Nat) (fs : List Value) : sg_A := fun h => ∃ (c : Cell) (r : vw_C), h = sg_1 a c ∧ vwCl[ci]? = some r ∧ c.cls = D.1.1 ci ∧ c.vm = .none ∧ ∀ k, k < r.2.2 → c.slots[D.1.2 ci k]? = some (vp_V fs k)
/-- arrays: address, length, contents; t: the place of its class in jk_tys -/
def ai (D : jd_T) (t a : Nat) (n : Int) (f : Int → Int) : sg_A := fun h => 0 ≤ n ∧ n ≤ 2147483647 ∧ h = sg_1 a (arrV (D.2 t) n.toNat (fun j => .int (ii (f (j : Int)))))
def al (D : jd_T) (t a : Nat) (n : Int) (f : Int → Int64) : sg_A := fun h => 0 ≤ n ∧ n ≤ 2147483647 ∧ h = sg_1 a (arrV (D.2 t) n.toNat (fun j => .long (f (j : Int))))
def aq (D : jd_T) (t a : Nat) (n : Int) (f : Int → Value) : sg_A := fun h => 0 ≤ n ∧ n ≤ 2147483647 ∧ h = sg_1 a (arrV (D.2 t) n.toNat (fun j => f (j : Int)))
abbrev jx_T : Type := Program × Launch × Env × Room × State × MethodId × Array Value × List Frame × Method × Code × (Nat → Prop) × (State → Prop) × Nat
abbrev jx_p (X : jx_T) : Program := X.1
abbrev jx_l (X : jx_T) : Launch := X.2.1
abbrev jx_e (X : jx_T) : Env := X.2.2.1
abbrev jx_R (X : jx_T) : Room := X.2.2.2.1
abbrev jx_s (X : jx_T) : State := X.2.2.2.2.1
abbrev jx_m (X : jx_T) : MethodId := X.2.2.2.2.2.1
abbrev jx_a (X : jx_T) : Array Value := X.2.2.2.2.2.2.1
abbrev jx_b (X : jx_T) : List Frame := X.2.2.2.2.2.2.2.1
abbrev jx_t (X : jx_T) : Method := X.2.2.2.2.2.2.2.2.1
abbrev jx_c (X : jx_T) : Code := X.2.2.2.2.2.2.2.2.2.1
abbrev jx_A (X : jx_T) : Nat → Prop := X.2.2.2.2.2.2.2.2.2.2.1
abbrev jx_Q (X : jx_T) : State → Prop := X.2.2.2.2.2.2.2.2.2.2.2.1
abbrev jx_n (X : jx_T) : Nat := X.2.2.2.2.2.2.2.2.2.2.2.2
abbrev jx_W (X : jx_T) (H : Heap) (locs : List Loc) (cs sl : Nat) (g : JFrame) : Prop := W (jx_p X) (jx_l X) (jx_e X) (jx_R X) (jx_s X) (jx_m X) (jx_a X) (jx_b X) (jx_t X) (jx_c X) H locs cs sl (jx_Q X) g
/-- THE JUDGEMENT: from every heap that holds L, with these locals, at pc with this stack, the walk comes to its end -/
def jw (X : jx_T) (cs sl : Nat) (L : List sg_A) (lv : List (Nat × Value)) (pc : Nat) (st : List Value) : Prop :=
  ∀ (h : sg_F) (H : Heap) (locs : List Loc) (ls : Array Slot), sg_l L h → sg_in h H → (∀ (q : Nat) (c : Cell), h q = some c → jx_A X q) → va_S (jx_A X) (jx_s X).heap H locs → lv_has ls (jx_n X) lv → jx_W X H locs cs sl (F0 (jx_m X) pc ls st)
def jx_ok (X : jx_T) (D : jd_T) (cc : ByteArray) (own : String) (ret : Option FieldType) : Prop :=
  (jx_p X).tables.exec = Jvm.exec ∧ (jx_c X).code = cc ∧ (jx_c X).maxLocals = jx_n X ∧ (jx_s X).vm.findClass own = some (jx_m X).cls ∧ (∀ w ∈ jw_all, w.before (jx_a X) (jx_s X) = true) ∧ (jx_t X).sig.returnType = ret ∧ (jx_t X).locks = false ∧ jk_K D (jx_s X) ∧ (∀ q : Nat, (jx_s X).heap.size ≤ q → jx_A X q)
/-- what an end is -/
abbrev je_T (α : Type) : Type := α → Outcome × Prop × List sg_A
def jc_A (h0 : sg_F) (sz : Nat) : Nat → Prop := fun q => h0 q ≠ none ∨ sz ≤ q
def jc_End {α : Type} (E : je_T α) (h0 : sg_F) (sz : Nat) (s : State) (o : Outcome) (t : State) : Prop :=
  ∃ (u : α) (h : sg_F), o = (E u).1 ∧ (E u).2.1 ∧ sg_l (E u).2.2 h ∧ sg_in h t.heap ∧ (∀ (q : Nat) (c : Cell), h q = some c → jc_A h0 sz q) ∧ va_F (jc_A h0 sz) s t
def jc_Fr (s t : State) (A : Nat → Prop) (mc ms : Nat) : Prop := ∃ L : List Loc, s.WarmedH t.vm ∧ s.sameButNew ({ t with vm := s.vm } : State) L mc ms ∧ ∀ q ∈ L, A q.base
def jc_P (D : jd_T) (av : List Value) (h0 : sg_F) (sz : Nat) : Array Value → State → Prop := fun a U => a = av.toArray ∧ U.heap.size = sz ∧ sg_in h0 U.heap ∧ jk_K D U
def jc_ws (y : MethodName) (cc : ByteArray) (nL : Nat) (ret : Option FieldType) : List Cond := .code y cc nL ret :: jw_all
/-- A CONTRACT: from every state that holds L, with these arguments: it ends as E says; at most the cells and slots of its room are new -/
def jc_C (l : Launch) (D : jd_T) (y : MethodName) (cc : ByteArray) (nL : Nat) (ret : Option FieldType) (rm : Room) (av : List Value) (L : List sg_A) {α : Type} (E : je_T α) : Prop :=
  ∀ (h0 : sg_F) (sz : Nat), sg_l L h0 → MetFree l y (headSpec (jc_ws y cc nL ret) rm) (jc_P D av h0 sz) (fun _ _ _ _ _ => True) (fun _ st o t => jc_End E h0 sz st o t ∧ jc_Fr st t (jc_A h0 sz) rm.cells rm.slots)
/-- the walk's end, as the contract wants it -/
def jx_fin (X : jx_T) (mc ms : Nat) {α : Type} (E : je_T α) : Prop := ∀ (u : α) (h : sg_F) (o : Outcome) (t : State), o = (E u).1 → (E u).2.1 → sg_l (E u).2.2 h → sg_in h t.heap → (∀ (q : Nat) (c : Cell), h q = some c → jx_A X q) → va_F (jx_A X) (jx_s X) t → t.status = .running → Ended t (jx_b X) o → jc_Fr (jx_s X) t (jx_A X) mc ms → jx_Q X t
theorem jc_Pblind {D : jd_T} {av : List Value} {h0 : sg_F} {sz : Nat} : FrameBlind (jc_P D av h0 sz) := by
  intro a U g mk q
  obtain ⟨q0, q1, q2, q3⟩ := q
  exact ⟨q0, q1, q2, jk_K.moved (u := U) (U := U.calling g mk a) (Vm.Alike.refl U.vm) q3⟩
theorem jc_of {l : Launch} {D : jd_T} {y : MethodName} {cc : ByteArray} {nL : Nat} {ret : Option FieldType} {rm : Room} {av : List Value} {L : List sg_A} {α : Type} {E : je_T α} (hy : plainName y.cls = true) (hn : (lg_sl av).length ≤ nL)
    (body : ∀ X : jx_T, jx_l X = l → jx_R X = rm → jx_n X = nL → jx_ok X D cc y.cls ret → ((jx_t X).name = y.name) → jx_fin X rm.cells rm.slots E → jw X 0 0 L (lv_args 0 av) 0 []) : jc_C l D y cc nL ret rm av L E := by
  intro h0 sz hL
  refine MetFree.of_bodyS (code := cc) (maxLocals := nL) (ret := ret) hy ?_ ?_
  · intro args s m h hnm
    obtain ⟨meth, c, h1, h2, h3, h4, h5, h6, -, -⟩ := Cond.code_spec hnm (atoms_spec (ws := jc_ws y cc nL ret) h _ List.mem_cons_self)
    exact ⟨meth, c, h1, h2, h3, h4, h5, h6⟩
  · intro p e s m args below meth c s₁ B hml hP _
    obtain ⟨ha, hsz, hin, hK⟩ := hP
    subst ha
    subst hsz
    have hh0 : s₁.heap = s.heap := by rw [B.state]; rfl
    have hts := atoms_spec (ws := jc_ws y cc nL ret) B.pre
    have key := body (p, l, e, rm, s, m, av.toArray, below, meth, c, jc_A h0 s.heap.size, (fun t => ∃ o, t.status = .running ∧ Ended t below o ∧ jc_End E h0 s.heap.size s o t ∧ jc_Fr s t (jc_A h0 s.heap.size) rm.cells rm.slots), nL) rfl rfl rfl
      ⟨B.exec, B.bytes, hml, findClass_of_methodNamed B.named, fun w hw => hts w (List.mem_cons_of_mem _ hw), B.returns, B.notSynchronized, hK, fun q hq => Or.inr hq⟩ (name_of_methodNamed B.named B.method).1
      (fun u h o t h1 h2 h3 h4 h5 h6 h7 h8 h9 => ⟨o, h7, h8, ⟨u, h, h1, h2, h3, h4, h5, h6⟩, h9⟩)
      h0 s.heap [] ((lg_sl av ++ List.replicate (nL - (lg_sl av).length) Slot.unset).toArray) hL hin (fun q c hq => Or.inl (by rw [hq]; exact fun z => by cases z)) va_S.rf (lv_entry av hn)
    have key2 : W p l e rm s m av.toArray below meth c s.heap [] 0 0 (fun t => ∃ o, t.status = .running ∧ Ended t below o ∧ jc_End E h0 s.heap.size s o t ∧ jc_Fr s t (jc_A h0 s.heap.size) rm.cells rm.slots) (entryFrame m av.toArray nL) := by
      rw [lg_entry_eq]
      exact key
    obtain ⟨t, a1, o, b1, b2, b3⟩ := key2 s₁ hh0 (Stand.of_body B)
    exact ⟨t, o, a1, b1, b2, b3⟩
/-- a contract that returns, as the kit has it -/
theorem jc_met {l : Launch} {D : jd_T} {y : MethodName} {cc : ByteArray} {nL : Nat} {ret : Option FieldType} {rm : Room} {av : List Value} {L : List sg_A} {α : Type} {E : je_T α} (hM : jc_C l D y cc nL ret rm av L E) (hE : ∀ u : α, ∃ v, (E u).1 = .returned v) (h0 : sg_F) (sz : Nat) (hL : sg_l L h0) :
    Met l y (jc_ws y cc nL ret) rm (jc_P D av h0 sz) (fun _ st o t => jc_End E h0 sz st o t) rm.cells rm.slots (jc_A h0 sz) := by
  intro p e h1 h2 h3 s m args below h4 h5 h6 h7
  obtain ⟨n, o, a1, a2, a3, ⟨u, h, b1, b2⟩, Lx, c1, c2, c3⟩ := hM h0 sz hL p e h1 h2 h3 s m args below h4 h5 h6 h7
  obtain ⟨v, hv⟩ := hE u
  exact ⟨n, o, a1, a2, a3, ⟨u, h, b1, b2⟩, Lx, ⟨⟨v, b1.trans hv⟩, c1, c2⟩, c3⟩
section JR
variable {X : jx_T} {D : jd_T} {cc : ByteArray} {own : String} {ret : Option FieldType} {cs sl : Nat} {L : List sg_A} {lv : List (Nat × Value)} {pc : Nat} {st : List Value}
theorem jr_ent {L' : List sg_A} (he : ∀ h, sg_l L h → sg_l L' h) (k : jw X cs sl L' lv pc st) : jw X cs sl L lv pc st := fun h H locs ls h1 => k h H locs ls (he h h1)
theorem jr_pick {L' : List sg_A} (ks : List Nat) (hp : ks.Perm (List.range L.length)) (he : sg_sel L ks = L') (k : jw X cs sl L' lv pc st) : jw X cs sl L lv pc st := jr_ent (sg_pick ks hp he) k
theorem jr_lv {lv' : List (Nat × Value)} (ks : List Nat) (hl : lv_pick lv ks = lv') (k : jw X cs sl L lv' pc st) : jw X cs sl L lv pc st := fun h H locs ls h1 h2 h3 h4 h5 => k h H locs ls h1 h2 h3 h4 (lv_sub h5 ks hl)
theorem jr_widen {cs' sl' : Nat} (h1 : cs ≤ cs') (h2 : sl ≤ sl') (k : jw X cs' sl' L lv pc st) : jw X cs sl L lv pc st := fun h H locs ls a1 a2 a3 a4 a5 => W.widen h1 h2 (k h H locs ls a1 a2 a3 a4 a5)
theorem jr_x {α : Type} {P : α → sg_A} (k : ∀ x, jw X cs sl (P x :: L) lv pc st) : jw X cs sl (sg_x P :: L) lv pc st := fun h H locs ls h1 => by
  obtain ⟨x, hx⟩ := sg_x_elim h1
  exact k x h H locs ls hx
theorem jr_p {φ : Prop} (k : φ → jw X cs sl L lv pc st) : jw X cs sl (sg_p φ :: L) lv pc st := fun h H locs ls h1 => by
  obtain ⟨x, hx⟩ := sg_p_elim h1
  exact k x h H locs ls hx
theorem jr_open {A : List sg_A} (k : jw X cs sl (A ++ L) lv pc st) : jw X cs sl (sg_l A :: L) lv pc st := jr_ent (fun _ => sg_open) k
/-- what the list says of its cells -/
theorem jr_fact {φ : Prop} (hf : ∀ h, sg_l L h → φ) (k : φ → jw X cs sl L lv pc st) : jw X cs sl L lv pc st := fun h H locs ls h1 => k (hf h h1) h H locs ls h1
theorem jr_iconst {n : Int} (ok : jx_ok X D cc own ret) (d : decode cc pc = .ok (.iconst n, 1))
    (k : jw X cs sl L lv (pc + 1) (.int (ii n) :: st)) : jw X cs sl L lv pc st := by
  intro h H locs ls h1 h2 h3 h4 h5
  refine lv_iconst (v := ii n) ok.1 ok.2.1 d rfl ?_
  exact k h H locs ls h1 h2 h3 h4 h5
theorem jr_bipush {n : Int} (ok : jx_ok X D cc own ret) (d : decode cc pc = .ok (.bipush n, 2)) (hv : (Int8.ofInt n).toInt32 = ii n)
    (k : jw X cs sl L lv (pc + 2) (.int (ii n) :: st)) : jw X cs sl L lv pc st := by
  intro h H locs ls h1 h2 h3 h4 h5
  exact lv_bipush ok.1 ok.2.1 d hv (k h H locs ls h1 h2 h3 h4 h5)
theorem jr_sipush {n : Int} (ok : jx_ok X D cc own ret) (d : decode cc pc = .ok (.sipush n, 3)) (hv : (Int16.ofInt n).toInt32 = ii n)
    (k : jw X cs sl L lv (pc + 3) (.int (ii n) :: st)) : jw X cs sl L lv pc st := by
  intro h H locs ls h1 h2 h3 h4 h5
  exact lv_sipush ok.1 ok.2.1 d hv (k h H locs ls h1 h2 h3 h4 h5)
theorem jr_lconst {n : Fin 2} {z : Int} (ok : jx_ok X D cc own ret) (d : decode cc pc = .ok (.lconst n, 1)) (hv : Int64.ofNat (n : Nat) = ll z)
    (k : jw X cs sl L lv (pc + 1) (.long (ll z) :: st)) : jw X cs sl L lv pc st := by
  intro h H locs ls h1 h2 h3 h4 h5
  exact lv_lconst ok.1 ok.2.1 d hv (k h H locs ls h1 h2 h3 h4 h5)
theorem jr_ldc {index : Nat} {v : Int32} {z : Int} (ok : jx_ok X D cc own ret) (hw : Jvm.Cond.constant own index v ∈ jw_all) (hv : v = ii z) (d : decode cc pc = .ok (.ldc index, 2))
    (k : jw X cs sl L lv (pc + 2) (.int (ii z) :: st)) : jw X cs sl L lv pc st := by
  intro h H locs ls h1 h2 h3 h4 h5
  refine lv_ldc ok.1 ok.2.1 ok.2.2.2.1 (ok.2.2.2.2.1 _ hw) d ?_
  rw [hv]
  exact k h H locs ls h1 h2 h3 h4 h5
theorem jr_ldc2 {index : Nat} {v : Int64} {z : Int} (ok : jx_ok X D cc own ret) (hw : Jvm.Cond.constantLong own index v ∈ jw_all) (hv : v = ll z) (d : decode cc pc = .ok (.ldc2_w index, 3))
    (k : jw X cs sl L lv (pc + 3) (.long (ll z) :: st)) : jw X cs sl L lv pc st := by
  intro h H locs ls h1 h2 h3 h4 h5
  refine lv_ldc2 ok.1 ok.2.1 ok.2.2.2.1 (ok.2.2.2.2.1 _ hw) d ?_
  rw [hv]
  exact k h H locs ls h1 h2 h3 h4 h5
theorem jr_null (ok : jx_ok X D cc own ret) (d : decode cc pc = .ok (.aconst_null, 1))
    (k : jw X cs sl L lv (pc + 1) (.null :: st)) : jw X cs sl L lv pc st := by
  intro h H locs ls h1 h2 h3 h4 h5
  refine lv_null ok.1 ok.2.1 d ?_
  exact k h H locs ls h1 h2 h3 h4 h5
theorem jr_iload_n {k9 : Fin 4} {i : Nat} {x : Int32} (ok : jx_ok X D cc own ret) (j : Nat) (d : decode cc pc = .ok (.iload_n k9, 1)) (hi : (k9 : Nat) = i) (hj : lv[j]? = some (i, .int x))
    (k : jw X cs sl L lv (pc + 1) (.int x :: st)) : jw X cs sl L lv pc st := by
  intro h H locs ls h1 h2 h3 h4 h5
  exact lv_iload_n ok.1 ok.2.1 d hi (lv_at h5 j hj) (k h H locs ls h1 h2 h3 h4 h5)
theorem jr_iload {i : Nat} {x : Int32} (ok : jx_ok X D cc own ret) (j : Nat) (d : decode cc pc = .ok (.iload i, 2)) (hj : lv[j]? = some (i, .int x))
    (k : jw X cs sl L lv (pc + 2) (.int x :: st)) : jw X cs sl L lv pc st := by
  intro h H locs ls h1 h2 h3 h4 h5
  exact lv_iload ok.1 ok.2.1 d (lv_at h5 j hj) (k h H locs ls h1 h2 h3 h4 h5)
theorem jr_istore_n {k9 : Fin 4} {i : Nat} {x : Int32} (lv' : List (Nat × Value)) (ok : jx_ok X D cc own ret) (d : decode cc pc = .ok (.istore_n k9, 1)) (hi : (k9 : Nat) = i) (hn : i < jx_n X) (hl : (i, Value.int x) :: lv.filter (fun q => !(q.1 == i) && !(q.1 + 1 == i && q.2.category == 2)) = lv')
    (k : jw X cs sl L lv' (pc + 1) st) : jw X cs sl L lv pc (.int x :: st) := by
  intro h H locs ls h1 h2 h3 h4 h5
  exact lv_istore_n ok.1 ok.2.1 d hi h5 hn hl (fun ls' h6 => k h H locs ls' h1 h2 h3 h4 h6)
theorem jr_istore {i : Nat} {x : Int32} (lv' : List (Nat × Value)) (ok : jx_ok X D cc own ret) (d : decode cc pc = .ok (.istore i, 2)) (hn : i < jx_n X) (hl : (i, Value.int x) :: lv.filter (fun q => !(q.1 == i) && !(q.1 + 1 == i && q.2.category == 2)) = lv')
    (k : jw X cs sl L lv' (pc + 2) st) : jw X cs sl L lv pc (.int x :: st) := by
  intro h H locs ls h1 h2 h3 h4 h5
  exact lv_istore ok.1 ok.2.1 d h5 hn hl (fun ls' h6 => k h H locs ls' h1 h2 h3 h4 h6)
theorem jr_lload_n {k9 : Fin 4} {i : Nat} {x : Int64} (ok : jx_ok X D cc own ret) (j : Nat) (d : decode cc pc = .ok (.lload_n k9, 1)) (hi : (k9 : Nat) = i) (hj : lv[j]? = some (i, .long x))
    (k : jw X cs sl L lv (pc + 1) (.long x :: st)) : jw X cs sl L lv pc st := by
  intro h H locs ls h1 h2 h3 h4 h5
  exact lv_lload_n ok.1 ok.2.1 d hi (lv_at h5 j hj) (k h H locs ls h1 h2 h3 h4 h5)
theorem jr_lload {i : Nat} {x : Int64} (ok : jx_ok X D cc own ret) (j : Nat) (d : decode cc pc = .ok (.lload i, 2)) (hj : lv[j]? = some (i, .long x))
    (k : jw X cs sl L lv (pc + 2) (.long x :: st)) : jw X cs sl L lv pc st := by
  intro h H locs ls h1 h2 h3 h4 h5
  exact lv_lload ok.1 ok.2.1 d (lv_at h5 j hj) (k h H locs ls h1 h2 h3 h4 h5)
theorem jr_lstore_n {k9 : Fin 4} {i : Nat} {x : Int64} (lv' : List (Nat × Value)) (ok : jx_ok X D cc own ret) (d : decode cc pc = .ok (.lstore_n k9, 1)) (hi : (k9 : Nat) = i) (hn : i + 1 < jx_n X) (hl : (i, Value.long x) :: lv.filter (fun q => !(q.1 == i) && (!(q.1 == i + 1) && !(q.1 + 1 == i && q.2.category == 2))) = lv')
    (k : jw X cs sl L lv' (pc + 1) st) : jw X cs sl L lv pc (.long x :: st) := by
  intro h H locs ls h1 h2 h3 h4 h5
  exact lv_lstore_n ok.1 ok.2.1 d hi h5 hn hl (fun ls' h6 => k h H locs ls' h1 h2 h3 h4 h6)
theorem jr_lstore {i : Nat} {x : Int64} (lv' : List (Nat × Value)) (ok : jx_ok X D cc own ret) (d : decode cc pc = .ok (.lstore i, 2)) (hn : i + 1 < jx_n X) (hl : (i, Value.long x) :: lv.filter (fun q => !(q.1 == i) && (!(q.1 == i + 1) && !(q.1 + 1 == i && q.2.category == 2))) = lv')
    (k : jw X cs sl L lv' (pc + 2) st) : jw X cs sl L lv pc (.long x :: st) := by
  intro h H locs ls h1 h2 h3 h4 h5
  exact lv_lstore ok.1 ok.2.1 d h5 hn hl (fun ls' h6 => k h H locs ls' h1 h2 h3 h4 h6)
theorem jr_aload_n {k9 : Fin 4} {i : Nat} {x : Nat} (ok : jx_ok X D cc own ret) (j : Nat) (d : decode cc pc = .ok (.aload_n k9, 1)) (hi : (k9 : Nat) = i) (hj : lv[j]? = some (i, .ref x))
    (k : jw X cs sl L lv (pc + 1) (.ref x :: st)) : jw X cs sl L lv pc st := by
  intro h H locs ls h1 h2 h3 h4 h5
  exact lv_aload_n ok.1 ok.2.1 d hi (lv_at h5 j hj) (k h H locs ls h1 h2 h3 h4 h5)
theorem jr_aload {i : Nat} {x : Nat} (ok : jx_ok X D cc own ret) (j : Nat) (d : decode cc pc = .ok (.aload i, 2)) (hj : lv[j]? = some (i, .ref x))
    (k : jw X cs sl L lv (pc + 2) (.ref x :: st)) : jw X cs sl L lv pc st := by
  intro h H locs ls h1 h2 h3 h4 h5
  exact lv_aload ok.1 ok.2.1 d (lv_at h5 j hj) (k h H locs ls h1 h2 h3 h4 h5)
theorem jr_astore_n {k9 : Fin 4} {i : Nat} {x : Nat} (lv' : List (Nat × Value)) (ok : jx_ok X D cc own ret) (d : decode cc pc = .ok (.astore_n k9, 1)) (hi : (k9 : Nat) = i) (hn : i < jx_n X) (hl : (i, Value.ref x) :: lv.filter (fun q => !(q.1 == i) && !(q.1 + 1 == i && q.2.category == 2)) = lv')
    (k : jw X cs sl L lv' (pc + 1) st) : jw X cs sl L lv pc (.ref x :: st) := by
  intro h H locs ls h1 h2 h3 h4 h5
  exact lv_astore_n ok.1 ok.2.1 d hi h5 hn hl (fun ls' h6 => k h H locs ls' h1 h2 h3 h4 h6)
theorem jr_astore {i : Nat} {x : Nat} (lv' : List (Nat × Value)) (ok : jx_ok X D cc own ret) (d : decode cc pc = .ok (.astore i, 2)) (hn : i < jx_n X) (hl : (i, Value.ref x) :: lv.filter (fun q => !(q.1 == i) && !(q.1 + 1 == i && q.2.category == 2)) = lv')
    (k : jw X cs sl L lv' (pc + 2) st) : jw X cs sl L lv pc (.ref x :: st) := by
  intro h H locs ls h1 h2 h3 h4 h5
  exact lv_astore ok.1 ok.2.1 d h5 hn hl (fun ls' h6 => k h H locs ls' h1 h2 h3 h4 h6)
theorem jr_iinc {i : Nat} {n a : Int} (lv' : List (Nat × Value)) (j : Nat) (ok : jx_ok X D cc own ret) (d : decode cc pc = .ok (.iinc i n, 3)) (hj : lv[j]? = some (i, .int (ii a))) (hn : i < jx_n X) (hl : (i, Value.int (ii (a + n))) :: lv.filter (fun q => !(q.1 == i) && !(q.1 + 1 == i && q.2.category == 2)) = lv')
    (k : jw X cs sl L lv' (pc + 3) st) : jw X cs sl L lv pc st := by
  intro h H locs ls h1 h2 h3 h4 h5
  exact lv_iinc ok.1 ok.2.1 d h5 hj (ii_add a n) hn hl (fun ls' h6 => k h H locs ls' h1 h2 h3 h4 h6)
theorem jr_iadd {a b : Int} (ok : jx_ok X D cc own ret) (d : decode cc pc = .ok (.iadd, 1))
    (k : jw X cs sl L lv (pc + 1) (.int (ii (a + b)) :: st)) : jw X cs sl L lv pc (.int (ii b) :: .int (ii a) :: st) := by
  intro h H locs ls h1 h2 h3 h4 h5
  refine lv_iadd ok.1 ok.2.1 d ?_
  rw [ii_add]
  exact k h H locs ls h1 h2 h3 h4 h5
theorem jr_ladd {a b : Int} (ok : jx_ok X D cc own ret) (d : decode cc pc = .ok (.ladd, 1))
    (k : jw X cs sl L lv (pc + 1) (.long (ll (a + b)) :: st)) : jw X cs sl L lv pc (.long (ll b) :: .long (ll a) :: st) := by
  intro h H locs ls h1 h2 h3 h4 h5
  refine lv_ladd ok.1 ok.2.1 d ?_
  rw [ll_add]
  exact k h H locs ls h1 h2 h3 h4 h5
theorem jr_laddx {x y : Int64} (ok : jx_ok X D cc own ret) (d : decode cc pc = .ok (.ladd, 1))
    (k : jw X cs sl L lv (pc + 1) (.long (x + y) :: st)) : jw X cs sl L lv pc (.long y :: .long x :: st) := by
  intro h H locs ls h1 h2 h3 h4 h5
  refine lv_ladd ok.1 ok.2.1 d ?_
  exact k h H locs ls h1 h2 h3 h4 h5
theorem jr_isub {a b : Int} (ok : jx_ok X D cc own ret) (d : decode cc pc = .ok (.isub, 1))
    (k : jw X cs sl L lv (pc + 1) (.int (ii (a - b)) :: st)) : jw X cs sl L lv pc (.int (ii b) :: .int (ii a) :: st) := by
  intro h H locs ls h1 h2 h3 h4 h5
  refine lv_isub ok.1 ok.2.1 d ?_
  rw [ii_sub]
  exact k h H locs ls h1 h2 h3 h4 h5
theorem jr_lsub {a b : Int} (ok : jx_ok X D cc own ret) (d : decode cc pc = .ok (.lsub, 1))
    (k : jw X cs sl L lv (pc + 1) (.long (ll (a - b)) :: st)) : jw X cs sl L lv pc (.long (ll b) :: .long (ll a) :: st) := by
  intro h H locs ls h1 h2 h3 h4 h5
  refine lv_lsub ok.1 ok.2.1 d ?_
  rw [ll_sub]
  exact k h H locs ls h1 h2 h3 h4 h5
theorem jr_lsubx {x y : Int64} (ok : jx_ok X D cc own ret) (d : decode cc pc = .ok (.lsub, 1))
    (k : jw X cs sl L lv (pc + 1) (.long (x - y) :: st)) : jw X cs sl L lv pc (.long y :: .long x :: st) := by
  intro h H locs ls h1 h2 h3 h4 h5
  refine lv_lsub ok.1 ok.2.1 d ?_
  exact k h H locs ls h1 h2 h3 h4 h5
theorem jr_imul {a b : Int} (ok : jx_ok X D cc own ret) (d : decode cc pc = .ok (.imul, 1))
    (k : jw X cs sl L lv (pc + 1) (.int (ii (a * b)) :: st)) : jw X cs sl L lv pc (.int (ii b) :: .int (ii a) :: st) := by
  intro h H locs ls h1 h2 h3 h4 h5
  refine lv_imul ok.1 ok.2.1 d ?_
  rw [ii_mul]
  exact k h H locs ls h1 h2 h3 h4 h5
theorem jr_lmul {a b : Int} (ok : jx_ok X D cc own ret) (d : decode cc pc = .ok (.lmul, 1))
    (k : jw X cs sl L lv (pc + 1) (.long (ll (a * b)) :: st)) : jw X cs sl L lv pc (.long (ll b) :: .long (ll a) :: st) := by
  intro h H locs ls h1 h2 h3 h4 h5
  refine lv_lmul ok.1 ok.2.1 d ?_
  rw [ll_mul]
  exact k h H locs ls h1 h2 h3 h4 h5
theorem jr_lmulx {x y : Int64} (ok : jx_ok X D cc own ret) (d : decode cc pc = .ok (.lmul, 1))
    (k : jw X cs sl L lv (pc + 1) (.long (x * y) :: st)) : jw X cs sl L lv pc (.long y :: .long x :: st) := by
  intro h H locs ls h1 h2 h3 h4 h5
  refine lv_lmul ok.1 ok.2.1 d ?_
  exact k h H locs ls h1 h2 h3 h4 h5
theorem jr_ineg {a : Int} (ok : jx_ok X D cc own ret) (d : decode cc pc = .ok (.ineg, 1))
    (k : jw X cs sl L lv (pc + 1) (.int (ii (-a)) :: st)) : jw X cs sl L lv pc (.int (ii a) :: st) := by
  intro h H locs ls h1 h2 h3 h4 h5
  refine lv_ineg ok.1 ok.2.1 d ?_
  rw [ii_neg]
  exact k h H locs ls h1 h2 h3 h4 h5
theorem jr_lneg {a : Int} (ok : jx_ok X D cc own ret) (d : decode cc pc = .ok (.lneg, 1))
    (k : jw X cs sl L lv (pc + 1) (.long (ll (-a)) :: st)) : jw X cs sl L lv pc (.long (ll a) :: st) := by
  intro h H locs ls h1 h2 h3 h4 h5
  refine lv_lneg ok.1 ok.2.1 d ?_
  rw [ll_neg]
  exact k h H locs ls h1 h2 h3 h4 h5
theorem jr_lnegx {x : Int64} (ok : jx_ok X D cc own ret) (d : decode cc pc = .ok (.lneg, 1))
    (k : jw X cs sl L lv (pc + 1) (.long (-x) :: st)) : jw X cs sl L lv pc (.long x :: st) := by
  intro h H locs ls h1 h2 h3 h4 h5
  refine lv_lneg ok.1 ok.2.1 d ?_
  exact k h H locs ls h1 h2 h3 h4 h5
theorem jr_iand {x y : Int32} {z : Int} (ok : jx_ok X D cc own ret) (d : decode cc pc = .ok (.iand, 1)) (hz : x &&& y = ii z)
    (k : jw X cs sl L lv (pc + 1) (.int (ii z) :: st)) : jw X cs sl L lv pc (.int y :: .int x :: st) := by
  intro h H locs ls h1 h2 h3 h4 h5
  refine lv_iand ok.1 ok.2.1 d ?_
  rw [hz]
  exact k h H locs ls h1 h2 h3 h4 h5
theorem jr_land {x y : Int64} {z : Int} (ok : jx_ok X D cc own ret) (d : decode cc pc = .ok (.land, 1)) (hz : x &&& y = ll z)
    (k : jw X cs sl L lv (pc + 1) (.long (ll z) :: st)) : jw X cs sl L lv pc (.long y :: .long x :: st) := by
  intro h H locs ls h1 h2 h3 h4 h5
  refine lv_land ok.1 ok.2.1 d ?_
  rw [hz]
  exact k h H locs ls h1 h2 h3 h4 h5
theorem jr_ior {x y : Int32} {z : Int} (ok : jx_ok X D cc own ret) (d : decode cc pc = .ok (.ior, 1)) (hz : x ||| y = ii z)
    (k : jw X cs sl L lv (pc + 1) (.int (ii z) :: st)) : jw X cs sl L lv pc (.int y :: .int x :: st) := by
  intro h H locs ls h1 h2 h3 h4 h5
  refine lv_ior ok.1 ok.2.1 d ?_
  rw [hz]
  exact k h H locs ls h1 h2 h3 h4 h5
theorem jr_lor {x y : Int64} {z : Int} (ok : jx_ok X D cc own ret) (d : decode cc pc = .ok (.lor, 1)) (hz : x ||| y = ll z)
    (k : jw X cs sl L lv (pc + 1) (.long (ll z) :: st)) : jw X cs sl L lv pc (.long y :: .long x :: st) := by
  intro h H locs ls h1 h2 h3 h4 h5
  refine lv_lor ok.1 ok.2.1 d ?_
  rw [hz]
  exact k h H locs ls h1 h2 h3 h4 h5
theorem jr_ixor {x y : Int32} {z : Int} (ok : jx_ok X D cc own ret) (d : decode cc pc = .ok (.ixor, 1)) (hz : x ^^^ y = ii z)
    (k : jw X cs sl L lv (pc + 1) (.int (ii z) :: st)) : jw X cs sl L lv pc (.int y :: .int x :: st) := by
  intro h H locs ls h1 h2 h3 h4 h5
  refine lv_ixor ok.1 ok.2.1 d ?_
  rw [hz]
  exact k h H locs ls h1 h2 h3 h4 h5
theorem jr_lxor {x y : Int64} {z : Int} (ok : jx_ok X D cc own ret) (d : decode cc pc = .ok (.lxor, 1)) (hz : x ^^^ y = ll z)
    (k : jw X cs sl L lv (pc + 1) (.long (ll z) :: st)) : jw X cs sl L lv pc (.long y :: .long x :: st) := by
  intro h H locs ls h1 h2 h3 h4 h5
  refine lv_lxor ok.1 ok.2.1 d ?_
  rw [hz]
  exact k h H locs ls h1 h2 h3 h4 h5
theorem jr_idiv {x y : Int32} {z : Int} (ok : jx_ok X D cc own ret) (d : decode cc pc = .ok (.idiv, 1)) (hne : ¬ y = 0) (hz : x / y = ii z)
    (k : jw X cs sl L lv (pc + 1) (.int (ii z) :: st)) : jw X cs sl L lv pc (.int y :: .int x :: st) := by
  intro h H locs ls h1 h2 h3 h4 h5
  refine lv_idiv ok.1 ok.2.1 d hne ?_
  rw [hz]
  exact k h H locs ls h1 h2 h3 h4 h5
theorem jr_irem {x y : Int32} {z : Int} (ok : jx_ok X D cc own ret) (d : decode cc pc = .ok (.irem, 1)) (hne : ¬ y = 0) (hz : x - x / y * y = ii z)
    (k : jw X cs sl L lv (pc + 1) (.int (ii z) :: st)) : jw X cs sl L lv pc (.int y :: .int x :: st) := by
  intro h H locs ls h1 h2 h3 h4 h5
  refine lv_irem ok.1 ok.2.1 d hne ?_
  rw [hz]
  exact k h H locs ls h1 h2 h3 h4 h5
theorem jr_ldivx {x y : Int64} (ok : jx_ok X D cc own ret) (d : decode cc pc = .ok (.ldiv, 1)) (hne : ¬ y = 0)
    (k : jw X cs sl L lv (pc + 1) (.long (x / y) :: st)) : jw X cs sl L lv pc (.long y :: .long x :: st) := by
  intro h H locs ls h1 h2 h3 h4 h5
  exact lv_ldiv ok.1 ok.2.1 d hne (k h H locs ls h1 h2 h3 h4 h5)
theorem jr_lremx {x y : Int64} (ok : jx_ok X D cc own ret) (d : decode cc pc = .ok (.lrem, 1)) (hne : ¬ y = 0)
    (k : jw X cs sl L lv (pc + 1) (.long (x - x / y * y) :: st)) : jw X cs sl L lv pc (.long y :: .long x :: st) := by
  intro h H locs ls h1 h2 h3 h4 h5
  exact lv_lrem ok.1 ok.2.1 d hne (k h H locs ls h1 h2 h3 h4 h5)
theorem jr_ishl {x y : Int32} {z : Int} (ok : jx_ok X D cc own ret) (d : decode cc pc = .ok (.ishl, 1)) (hz : x <<< (y &&& 31) = ii z)
    (k : jw X cs sl L lv (pc + 1) (.int (ii z) :: st)) : jw X cs sl L lv pc (.int y :: .int x :: st) := by
  intro h H locs ls h1 h2 h3 h4 h5
  refine lv_ishl ok.1 ok.2.1 d ?_
  rw [hz]
  exact k h H locs ls h1 h2 h3 h4 h5
theorem jr_ishr {x y : Int32} {z : Int} (ok : jx_ok X D cc own ret) (d : decode cc pc = .ok (.ishr, 1)) (hz : x >>> (y &&& 31) = ii z)
    (k : jw X cs sl L lv (pc + 1) (.int (ii z) :: st)) : jw X cs sl L lv pc (.int y :: .int x :: st) := by
  intro h H locs ls h1 h2 h3 h4 h5
  refine lv_ishr ok.1 ok.2.1 d ?_
  rw [hz]
  exact k h H locs ls h1 h2 h3 h4 h5
theorem jr_lshl {x : Int64} {y : Int32} {z : Int} (ok : jx_ok X D cc own ret) (d : decode cc pc = .ok (.lshl, 1)) (hz : x <<< (y.toInt64 &&& 63) = ll z)
    (k : jw X cs sl L lv (pc + 1) (.long (ll z) :: st)) : jw X cs sl L lv pc (.int y :: .long x :: st) := by
  intro h H locs ls h1 h2 h3 h4 h5
  exact lv_lshl ok.1 ok.2.1 d hz (k h H locs ls h1 h2 h3 h4 h5)
theorem jr_lshr {x : Int64} {y : Int32} {z : Int} (ok : jx_ok X D cc own ret) (d : decode cc pc = .ok (.lshr, 1)) (hz : x >>> (y.toInt64 &&& 63) = ll z)
    (k : jw X cs sl L lv (pc + 1) (.long (ll z) :: st)) : jw X cs sl L lv pc (.int y :: .long x :: st) := by
  intro h H locs ls h1 h2 h3 h4 h5
  exact lv_lshr ok.1 ok.2.1 d hz (k h H locs ls h1 h2 h3 h4 h5)
theorem jr_i2l {a : Int} (ok : jx_ok X D cc own ret) (ha : iR a) (d : decode cc pc = .ok (.i2l, 1))
    (k : jw X cs sl L lv (pc + 1) (.long (ll a) :: st)) : jw X cs sl L lv pc (.int (ii a) :: st) := by
  intro h H locs ls h1 h2 h3 h4 h5
  exact lv_i2l ok.1 ok.2.1 d (ii_l ha) (k h H locs ls h1 h2 h3 h4 h5)
theorem jr_l2i {a : Int} (ok : jx_ok X D cc own ret) (d : decode cc pc = .ok (.l2i, 1))
    (k : jw X cs sl L lv (pc + 1) (.int (ii a) :: st)) : jw X cs sl L lv pc (.long (ll a) :: st) := by
  intro h H locs ls h1 h2 h3 h4 h5
  exact lv_l2i ok.1 ok.2.1 d (ll_i a) (k h H locs ls h1 h2 h3 h4 h5)
theorem jr_i2b {x : Int32} {z : Int} (ok : jx_ok X D cc own ret) (d : decode cc pc = .ok (.i2b, 1)) (hz : x.toInt8.toInt32 = ii z)
    (k : jw X cs sl L lv (pc + 1) (.int (ii z) :: st)) : jw X cs sl L lv pc (.int x :: st) := by
  intro h H locs ls h1 h2 h3 h4 h5
  exact lv_i2b ok.1 ok.2.1 d hz (k h H locs ls h1 h2 h3 h4 h5)
theorem jr_lcmp {a b : Int} (ok : jx_ok X D cc own ret) (ha : lR a) (hb : lR b) (d : decode cc pc = .ok (.lcmp, 1))
    (k : jw X cs sl L lv (pc + 1) (.int (ii (if b < a then 1 else if a = b then 0 else -1)) :: st)) : jw X cs sl L lv pc (.long (ll b) :: .long (ll a) :: st) := by
  intro h H locs ls h1 h2 h3 h4 h5
  refine W.lcmp ok.1 ok.2.1 d ?_
  rw [ll_cmp ha hb]
  exact k h H locs ls h1 h2 h3 h4 h5
theorem jr_dup {v : Value} (hv : v.category = 1) (ok : jx_ok X D cc own ret) (d : decode cc pc = .ok (.dup, 1))
    (k : jw X cs sl L lv (pc + 1) (v :: v :: st)) : jw X cs sl L lv pc (v :: st) := by
  intro h H locs ls h1 h2 h3 h4 h5
  refine lv_dup ok.1 ok.2.1 d hv ?_
  exact k h H locs ls h1 h2 h3 h4 h5
theorem jr_pop {v : Value} (hv : v.category = 1) (ok : jx_ok X D cc own ret) (d : decode cc pc = .ok (.pop, 1))
    (k : jw X cs sl L lv (pc + 1) st) : jw X cs sl L lv pc (v :: st) := by
  intro h H locs ls h1 h2 h3 h4 h5
  refine lv_pop ok.1 ok.2.1 d hv ?_
  exact k h H locs ls h1 h2 h3 h4 h5
theorem jr_pop2 {v : Value} (hv : v.category = 2) (ok : jx_ok X D cc own ret) (d : decode cc pc = .ok (.pop2, 1))
    (k : jw X cs sl L lv (pc + 1) st) : jw X cs sl L lv pc (v :: st) := by
  intro h H locs ls h1 h2 h3 h4 h5
  refine lv_pop2_2 ok.1 ok.2.1 d hv ?_
  exact k h H locs ls h1 h2 h3 h4 h5
theorem jr_dup_x1 {v w : Value} (hv : v.category = 1) (hw : w.category = 1) (ok : jx_ok X D cc own ret) (d : decode cc pc = .ok (.dup_x1, 1))
    (k : jw X cs sl L lv (pc + 1) (v :: w :: v :: st)) : jw X cs sl L lv pc (v :: w :: st) := by
  intro h H locs ls h1 h2 h3 h4 h5
  refine lv_dup_x1 ok.1 ok.2.1 d hv hw ?_
  exact k h H locs ls h1 h2 h3 h4 h5
theorem jr_dup2 {v w : Value} (hv : v.category = 1) (hw : w.category = 1) (ok : jx_ok X D cc own ret) (d : decode cc pc = .ok (.dup2, 1))
    (k : jw X cs sl L lv (pc + 1) (v :: w :: v :: w :: st)) : jw X cs sl L lv pc (v :: w :: st) := by
  intro h H locs ls h1 h2 h3 h4 h5
  refine lv_dup2_11 ok.1 ok.2.1 d hv hw ?_
  exact k h H locs ls h1 h2 h3 h4 h5
theorem jr_dup2L {v : Value} (hv : v.category = 2) (ok : jx_ok X D cc own ret) (d : decode cc pc = .ok (.dup2, 1))
    (k : jw X cs sl L lv (pc + 1) (v :: v :: st)) : jw X cs sl L lv pc (v :: st) := by
  intro h H locs ls h1 h2 h3 h4 h5
  refine lv_dup2_2 ok.1 ok.2.1 d hv ?_
  exact k h H locs ls h1 h2 h3 h4 h5
theorem jr_if_eq {a : Int} {off : Int} (tgt : Nat) (ok : jx_ok X D cc own ret) (ha : iR a) (d : decode cc pc = .ok (.ifCond .eq off, 3)) (ht : (pc : Int) + off = (tgt : Int))
    (kt : a = 0 → jw X cs sl L lv tgt st) (kf : ¬ a = 0 → jw X cs sl L lv (pc + 3) st) : jw X cs sl L lv pc (.int (ii a) :: st) := by
  intro h H locs ls h1 h2 h3 h4 h5
  have h0 : iR 0 := ⟨by decide, by decide⟩
  have key := ii_eq ha h0
  rw [ii_0] at key
  exact lv_if_eq ok.1 ok.2.1 d ht (fun c => kt (key.mp c) h H locs ls h1 h2 h3 h4 h5) (fun c => kf (fun z => c (key.mpr z)) h H locs ls h1 h2 h3 h4 h5)
theorem jr_icmp_eq {a b : Int} {off : Int} (tgt : Nat) (ok : jx_ok X D cc own ret) (ha : iR a) (hb : iR b) (d : decode cc pc = .ok (.if_icmp .eq off, 3)) (ht : (pc : Int) + off = (tgt : Int))
    (kt : a = b → jw X cs sl L lv tgt st) (kf : ¬ a = b → jw X cs sl L lv (pc + 3) st) : jw X cs sl L lv pc (.int (ii b) :: .int (ii a) :: st) := by
  intro h H locs ls h1 h2 h3 h4 h5
  have key := ii_eq ha hb
  exact lv_icmp_eq ok.1 ok.2.1 d ht (fun c => kt (key.mp c) h H locs ls h1 h2 h3 h4 h5) (fun c => kf (fun z => c (key.mpr z)) h H locs ls h1 h2 h3 h4 h5)
theorem jr_if_ne {a : Int} {off : Int} (tgt : Nat) (ok : jx_ok X D cc own ret) (ha : iR a) (d : decode cc pc = .ok (.ifCond .ne off, 3)) (ht : (pc : Int) + off = (tgt : Int))
    (kt : ¬ a = 0 → jw X cs sl L lv tgt st) (kf : a = 0 → jw X cs sl L lv (pc + 3) st) : jw X cs sl L lv pc (.int (ii a) :: st) := by
  intro h H locs ls h1 h2 h3 h4 h5
  have h0 : iR 0 := ⟨by decide, by decide⟩
  have key := ii_eq ha h0
  rw [ii_0] at key
  exact lv_if_ne ok.1 ok.2.1 d ht (fun c => kt (fun z => c (key.mpr z)) h H locs ls h1 h2 h3 h4 h5) (fun c => kf (key.mp c) h H locs ls h1 h2 h3 h4 h5)
theorem jr_icmp_ne {a b : Int} {off : Int} (tgt : Nat) (ok : jx_ok X D cc own ret) (ha : iR a) (hb : iR b) (d : decode cc pc = .ok (.if_icmp .ne off, 3)) (ht : (pc : Int) + off = (tgt : Int))
    (kt : ¬ a = b → jw X cs sl L lv tgt st) (kf : a = b → jw X cs sl L lv (pc + 3) st) : jw X cs sl L lv pc (.int (ii b) :: .int (ii a) :: st) := by
  intro h H locs ls h1 h2 h3 h4 h5
  have key := ii_eq ha hb
  exact lv_icmp_ne ok.1 ok.2.1 d ht (fun c => kt (fun z => c (key.mpr z)) h H locs ls h1 h2 h3 h4 h5) (fun c => kf (key.mp c) h H locs ls h1 h2 h3 h4 h5)
theorem jr_if_lt {a : Int} {off : Int} (tgt : Nat) (ok : jx_ok X D cc own ret) (ha : iR a) (d : decode cc pc = .ok (.ifCond .lt off, 3)) (ht : (pc : Int) + off = (tgt : Int))
    (kt : a < 0 → jw X cs sl L lv tgt st) (kf : ¬ a < 0 → jw X cs sl L lv (pc + 3) st) : jw X cs sl L lv pc (.int (ii a) :: st) := by
  intro h H locs ls h1 h2 h3 h4 h5
  have h0 : iR 0 := ⟨by decide, by decide⟩
  have key := ii_lt ha h0
  rw [ii_0] at key
  exact lv_if_lt ok.1 ok.2.1 d ht (fun c => kt (key.mp c) h H locs ls h1 h2 h3 h4 h5) (fun c => kf (fun z => c (key.mpr z)) h H locs ls h1 h2 h3 h4 h5)
theorem jr_icmp_lt {a b : Int} {off : Int} (tgt : Nat) (ok : jx_ok X D cc own ret) (ha : iR a) (hb : iR b) (d : decode cc pc = .ok (.if_icmp .lt off, 3)) (ht : (pc : Int) + off = (tgt : Int))
    (kt : a < b → jw X cs sl L lv tgt st) (kf : ¬ a < b → jw X cs sl L lv (pc + 3) st) : jw X cs sl L lv pc (.int (ii b) :: .int (ii a) :: st) := by
  intro h H locs ls h1 h2 h3 h4 h5
  have key := ii_lt ha hb
  exact lv_icmp_lt ok.1 ok.2.1 d ht (fun c => kt (key.mp c) h H locs ls h1 h2 h3 h4 h5) (fun c => kf (fun z => c (key.mpr z)) h H locs ls h1 h2 h3 h4 h5)
theorem jr_if_ge {a : Int} {off : Int} (tgt : Nat) (ok : jx_ok X D cc own ret) (ha : iR a) (d : decode cc pc = .ok (.ifCond .ge off, 3)) (ht : (pc : Int) + off = (tgt : Int))
    (kt : 0 ≤ a → jw X cs sl L lv tgt st) (kf : ¬ 0 ≤ a → jw X cs sl L lv (pc + 3) st) : jw X cs sl L lv pc (.int (ii a) :: st) := by
  intro h H locs ls h1 h2 h3 h4 h5
  have h0 : iR 0 := ⟨by decide, by decide⟩
  have key := ii_le h0 ha
  rw [ii_0] at key
  exact lv_if_ge ok.1 ok.2.1 d ht (fun c => kt (key.mp c) h H locs ls h1 h2 h3 h4 h5) (fun c => kf (fun z => c (key.mpr z)) h H locs ls h1 h2 h3 h4 h5)
theorem jr_icmp_ge {a b : Int} {off : Int} (tgt : Nat) (ok : jx_ok X D cc own ret) (ha : iR a) (hb : iR b) (d : decode cc pc = .ok (.if_icmp .ge off, 3)) (ht : (pc : Int) + off = (tgt : Int))
    (kt : b ≤ a → jw X cs sl L lv tgt st) (kf : ¬ b ≤ a → jw X cs sl L lv (pc + 3) st) : jw X cs sl L lv pc (.int (ii b) :: .int (ii a) :: st) := by
  intro h H locs ls h1 h2 h3 h4 h5
  have key := ii_le hb ha
  exact lv_icmp_ge ok.1 ok.2.1 d ht (fun c => kt (key.mp c) h H locs ls h1 h2 h3 h4 h5) (fun c => kf (fun z => c (key.mpr z)) h H locs ls h1 h2 h3 h4 h5)
theorem jr_if_gt {a : Int} {off : Int} (tgt : Nat) (ok : jx_ok X D cc own ret) (ha : iR a) (d : decode cc pc = .ok (.ifCond .gt off, 3)) (ht : (pc : Int) + off = (tgt : Int))
    (kt : 0 < a → jw X cs sl L lv tgt st) (kf : ¬ 0 < a → jw X cs sl L lv (pc + 3) st) : jw X cs sl L lv pc (.int (ii a) :: st) := by
  intro h H locs ls h1 h2 h3 h4 h5
  have h0 : iR 0 := ⟨by decide, by decide⟩
  have key := ii_lt h0 ha
  rw [ii_0] at key
  exact lv_if_gt ok.1 ok.2.1 d ht (fun c => kt (key.mp c) h H locs ls h1 h2 h3 h4 h5) (fun c => kf (fun z => c (key.mpr z)) h H locs ls h1 h2 h3 h4 h5)
theorem jr_icmp_gt {a b : Int} {off : Int} (tgt : Nat) (ok : jx_ok X D cc own ret) (ha : iR a) (hb : iR b) (d : decode cc pc = .ok (.if_icmp .gt off, 3)) (ht : (pc : Int) + off = (tgt : Int))
    (kt : b < a → jw X cs sl L lv tgt st) (kf : ¬ b < a → jw X cs sl L lv (pc + 3) st) : jw X cs sl L lv pc (.int (ii b) :: .int (ii a) :: st) := by
  intro h H locs ls h1 h2 h3 h4 h5
  have key := ii_lt hb ha
  exact lv_icmp_gt ok.1 ok.2.1 d ht (fun c => kt (key.mp c) h H locs ls h1 h2 h3 h4 h5) (fun c => kf (fun z => c (key.mpr z)) h H locs ls h1 h2 h3 h4 h5)
theorem jr_if_le {a : Int} {off : Int} (tgt : Nat) (ok : jx_ok X D cc own ret) (ha : iR a) (d : decode cc pc = .ok (.ifCond .le off, 3)) (ht : (pc : Int) + off = (tgt : Int))
    (kt : a ≤ 0 → jw X cs sl L lv tgt st) (kf : ¬ a ≤ 0 → jw X cs sl L lv (pc + 3) st) : jw X cs sl L lv pc (.int (ii a) :: st) := by
  intro h H locs ls h1 h2 h3 h4 h5
  have h0 : iR 0 := ⟨by decide, by decide⟩
  have key := ii_le ha h0
  rw [ii_0] at key
  exact lv_if_le ok.1 ok.2.1 d ht (fun c => kt (key.mp c) h H locs ls h1 h2 h3 h4 h5) (fun c => kf (fun z => c (key.mpr z)) h H locs ls h1 h2 h3 h4 h5)
theorem jr_icmp_le {a b : Int} {off : Int} (tgt : Nat) (ok : jx_ok X D cc own ret) (ha : iR a) (hb : iR b) (d : decode cc pc = .ok (.if_icmp .le off, 3)) (ht : (pc : Int) + off = (tgt : Int))
    (kt : a ≤ b → jw X cs sl L lv tgt st) (kf : ¬ a ≤ b → jw X cs sl L lv (pc + 3) st) : jw X cs sl L lv pc (.int (ii b) :: .int (ii a) :: st) := by
  intro h H locs ls h1 h2 h3 h4 h5
  have key := ii_le ha hb
  exact lv_icmp_le ok.1 ok.2.1 d ht (fun c => kt (key.mp c) h H locs ls h1 h2 h3 h4 h5) (fun c => kf (fun z => c (key.mpr z)) h H locs ls h1 h2 h3 h4 h5)
theorem jr_goto {off : Int} (tgt : Nat) (ok : jx_ok X D cc own ret) (d : decode cc pc = .ok (.goto off, 3)) (ht : (pc : Int) + off = (tgt : Int)) (k : jw X cs sl L lv tgt st) : jw X cs sl L lv pc st := by
  intro h H locs ls h1 h2 h3 h4 h5
  exact lv_goto ok.1 ok.2.1 d ht (k h H locs ls h1 h2 h3 h4 h5)
theorem jr_ifnull_r {off : Int} {x : Nat} (ok : jx_ok X D cc own ret) (d : decode cc pc = .ok (.ifnull off, 3)) (k : jw X cs sl L lv (pc + 3) st) : jw X cs sl L lv pc (.ref x :: st) := by
  intro h H locs ls h1 h2 h3 h4 h5
  exact lv_ifnull ok.1 ok.2.1 d (k h H locs ls h1 h2 h3 h4 h5)
theorem jr_ifnull_n {off : Int} (tgt : Nat) (ok : jx_ok X D cc own ret) (d : decode cc pc = .ok (.ifnull off, 3)) (ht : (pc : Int) + off = (tgt : Int)) (k : jw X cs sl L lv tgt st) : jw X cs sl L lv pc (.null :: st) := by
  intro h H locs ls h1 h2 h3 h4 h5
  exact lv_ifnullN ok.1 ok.2.1 d ht (k h H locs ls h1 h2 h3 h4 h5)
theorem jr_ifnonnull_r {off : Int} {x : Nat} (tgt : Nat) (ok : jx_ok X D cc own ret) (d : decode cc pc = .ok (.ifnonnull off, 3)) (ht : (pc : Int) + off = (tgt : Int)) (k : jw X cs sl L lv tgt st) : jw X cs sl L lv pc (.ref x :: st) := by
  intro h H locs ls h1 h2 h3 h4 h5
  exact lv_ifnonnull ok.1 ok.2.1 d ht (k h H locs ls h1 h2 h3 h4 h5)
theorem jr_ifnonnull_n {off : Int} (ok : jx_ok X D cc own ret) (d : decode cc pc = .ok (.ifnonnull off, 3)) (k : jw X cs sl L lv (pc + 3) st) : jw X cs sl L lv pc (.null :: st) := by
  intro h H locs ls h1 h2 h3 h4 h5
  exact lv_ifnonnullN ok.1 ok.2.1 d (k h H locs ls h1 h2 h3 h4 h5)
theorem jr_aload_nN {k9 : Fin 4} {i : Nat} (ok : jx_ok X D cc own ret) (j : Nat) (d : decode cc pc = .ok (.aload_n k9, 1)) (hi : (k9 : Nat) = i) (hj : lv[j]? = some (i, .null))
    (k : jw X cs sl L lv (pc + 1) (.null :: st)) : jw X cs sl L lv pc st := by
  intro h H locs ls h1 h2 h3 h4 h5
  exact lv_aload_nN ok.1 ok.2.1 d hi (lv_at h5 j hj) (k h H locs ls h1 h2 h3 h4 h5)
theorem jr_aloadN {i : Nat} (ok : jx_ok X D cc own ret) (j : Nat) (d : decode cc pc = .ok (.aload i, 2)) (hj : lv[j]? = some (i, .null))
    (k : jw X cs sl L lv (pc + 2) (.null :: st)) : jw X cs sl L lv pc st := by
  intro h H locs ls h1 h2 h3 h4 h5
  exact lv_aloadN ok.1 ok.2.1 d (lv_at h5 j hj) (k h H locs ls h1 h2 h3 h4 h5)
theorem jr_lookup {dflt : Int} {ps : Array (Int × Int)} {len : Nat} {a off : Int} (tgt : Nat) (ok : jx_ok X D cc own ret) (ha : iR a) (d : decode cc pc = .ok (.lookupswitch dflt ps, len)) (hp : (ps.toList.zip (ps.toList.drop 1)).all (fun (a, next) => a.1 < next.1) = true) (ho : Op.lookupswitch.offset ps.toList dflt a = off) (ht : (pc : Int) + off = (tgt : Int))
    (k : jw X cs sl L lv tgt st) : jw X cs sl L lv pc (.int (ii a) :: st) := by
  intro h H locs ls h1 h2 h3 h4 h5
  exact lv_lookup ok.1 ok.2.1 d hp (by rw [ii_toInt ha]; exact ho) ht (k h H locs ls h1 h2 h3 h4 h5)
theorem jr_tableOut {dflt lo hi : Int} {offs : Array Int} {len : Nat} {a : Int} (tgt : Nat) (ok : jx_ok X D cc own ret) (ha : iR a) (d : decode cc pc = .ok (.tableswitch dflt lo hi offs, len)) (hx : a < lo ∨ hi < a) (ht : (pc : Int) + dflt = (tgt : Int))
    (k : jw X cs sl L lv tgt st) : jw X cs sl L lv pc (.int (ii a) :: st) := by
  intro h H locs ls h1 h2 h3 h4 h5
  exact lv_tableOut ok.1 ok.2.1 d (by rw [ii_toInt ha]; exact hx) ht (k h H locs ls h1 h2 h3 h4 h5)
theorem jr_tableIn {dflt lo hi : Int} {offs : Array Int} {len : Nat} {a off : Int} (tgt : Nat) (ok : jx_ok X D cc own ret) (ha : iR a) (d : decode cc pc = .ok (.tableswitch dflt lo hi offs, len)) (hx1 : ¬ a < lo) (hx2 : ¬ hi < a) (ho : offs[(a - lo).toNat]? = some off) (ht : (pc : Int) + off = (tgt : Int))
    (k : jw X cs sl L lv tgt st) : jw X cs sl L lv pc (.int (ii a) :: st) := by
  intro h H locs ls h1 h2 h3 h4 h5
  exact lv_tableIn ok.1 ok.2.1 d (by rw [ii_toInt ha]; exact hx1) (by rw [ii_toInt ha]; exact hx2) (by rw [ii_toInt ha]; exact ho) ht (k h H locs ls h1 h2 h3 h4 h5)
end JR
