/-! ===== what never changes: the statics of Throwable and String, the words of the questions ===== -/
def jS_tx : List String := ["sum", "count", "least", "most", "first", "latest", "growth", "by"]
def jS_ix : List Nat := [137, 143, 145, 147, 149, 151, 153, 158]
def jS_len : List Nat := [3, 5, 5, 4, 5, 6, 6, 2]
def jS_byt : List (List Int32) := [[115, 117, 109], [99, 111, 117, 110, 116], [108, 101, 97, 115, 116], [109, 111, 115, 116], [102, 105, 114, 115, 116], [108, 97, 116, 101, 115, 116], [103, 114, 111, 119, 116, 104], [98, 121]]
/-- the addresses of the strings, and of their bytes, stand in D -/
def jI (D : jd_T) (A : Nat → Prop) (U : State) (H : Heap) : Prop :=
  va_Zq "java/lang/Throwable" "UNASSIGNED_STACK" "[Ljava/lang/StackTraceElement;" A U H ∧ va_Zq "java/lang/Throwable" "SUPPRESSED_SENTINEL" "Ljava/util/List;" A U H ∧ va_Z "java/lang/String" "COMPACT_STRINGS" "Z" (.int 1) A U H ∧ vk_S 8 jS_len jS_byt (D.1.2 100) (D.1.2 101) A U H ∧ (∀ i : Nat, i < 8 → vk_R "WindowTables$QuestionReader" (jS_ix.getD i 0) (jS_tx.getD i "") (D.1.2 100 i) U) ∧ va_Zq "jdk/internal/util/Preconditions" "SIOOBE_FORMATTER" "Ljava/util/function/BiFunction;" A U H
theorem jI.go {D : jd_T} {A B : Nat → Prop} {s U : State} {H H' : Heap} (h : jI D A s H) (hW : s.WarmedH U.vm) (hq : ∀ a : Nat, a < H.size → ¬ A a → H'[a]? = H[a]?) (hAB : ∀ q, B q → A q) : jI D B U H' :=
  ⟨((va_Zq.moved hW.alike h.1).kept hq).narrow hAB, ((va_Zq.moved hW.alike h.2.1).kept hq).narrow hAB, ((va_Z.moved hW.alike h.2.2.1).kept hq).narrow hAB, ((vk_S.moved hW.alike h.2.2.2.1).kept hq).narrow hAB, fun i hi => (h.2.2.2.2.1 i hi).warm hW, ((va_Zq.moved hW.alike h.2.2.2.2.2).kept hq).narrow hAB⟩
theorem jI.same {D : jd_T} {A : Nat → Prop} {s U : State} {H : Heap} (hv : U.vm = s.vm) (h : jI D A s H) : jI D A U H := by
  have ha : s.vm.Alike U.vm := hv ▸ Vm.Alike.refl s.vm
  exact ⟨va_Zq.moved ha h.1, va_Zq.moved ha h.2.1, va_Z.moved ha h.2.2.1, vk_S.moved ha h.2.2.2.1, fun i hi => (h.2.2.2.2.1 i hi).same hv, va_Zq.moved ha h.2.2.2.2.2⟩
def jgI_P (D : jd_T) (av : List Value) (h0 : sg_F) (sz : Nat) : Array Value → State → Prop := fun a U => jc_P D av h0 sz a U ∧ jI D (jc_A h0 sz) U U.heap
theorem jgI_Pblind {D : jd_T} {av : List Value} {h0 : sg_F} {sz : Nat} : FrameBlind (jgI_P D av h0 sz) := by
  intro a U g mk q
  exact ⟨jc_Pblind a U g mk q.1, jI.same (s := U) (U := U.calling g mk a) rfl q.2⟩
/-- a contract that may use what never changes; what is made is the end's -/
def jgI_C (l : Launch) (D : jd_T) (y : MethodName) (cc : ByteArray) (nL : Nat) (ret : Option FieldType) (rm : Room) (av : List Value) (L : List sg_A) {α : Type} (E : jg_T α) : Prop :=
  ∀ (h0 : sg_F) (sz : Nat), sg_l L h0 → MetFree l y (headSpec (jc_ws y cc nL ret) rm) (jgI_P D av h0 sz) (fun _ _ _ _ _ => True) (fun _ st o t => ∃ mc ms, jg_End E h0 sz st o t mc ms ∧ jc_Fr st t (jc_A h0 sz) mc ms)
theorem jgI_of {l : Launch} {D : jd_T} {y : MethodName} {cc : ByteArray} {nL : Nat} {ret : Option FieldType} {rm : Room} {av : List Value} {L : List sg_A} {α : Type} {E : jg_T α} (hy : plainName y.cls = true) (hn : (lg_sl av).length ≤ nL)
    (body : ∀ X : jx_T, jx_l X = l → jx_R X = rm → jx_n X = nL → jx_ok X D cc y.cls ret → jI D (jx_A X) (jx_s X) (jx_s X).heap → ((jx_t X).name = y.name) → jg_fin X E → jw X 0 0 L (lv_args 0 av) 0 []) : jgI_C l D y cc nL ret rm av L E := by
  intro h0 sz hL
  refine MetFree.of_bodyS (code := cc) (maxLocals := nL) (ret := ret) hy ?_ ?_
  · intro args s m h hnm
    obtain ⟨meth, c, h1, h2, h3, h4, h5, h6, -, -⟩ := Cond.code_spec hnm (atoms_spec (ws := jc_ws y cc nL ret) h _ List.mem_cons_self)
    exact ⟨meth, c, h1, h2, h3, h4, h5, h6⟩
  · intro p e s m args below meth c s₁ B hml hP _
    obtain ⟨⟨ha, hsz, hin, hK⟩, hI⟩ := hP
    subst ha
    subst hsz
    have hh0 : s₁.heap = s.heap := by rw [B.state]; rfl
    have hts := atoms_spec (ws := jc_ws y cc nL ret) B.pre
    have key := body (p, l, e, rm, s, m, av.toArray, below, meth, c, jc_A h0 s.heap.size, (fun t => ∃ o, t.status = .running ∧ Ended t below o ∧ ∃ mc ms, jg_End E h0 s.heap.size s o t mc ms ∧ jc_Fr s t (jc_A h0 s.heap.size) mc ms), nL) rfl rfl rfl
      ⟨B.exec, B.bytes, hml, findClass_of_methodNamed B.named, fun w hw => hts w (List.mem_cons_of_mem _ hw), B.returns, B.notSynchronized, hK, fun q hq => Or.inr hq⟩ hI (name_of_methodNamed B.named B.method).1
      (fun u h o t h1 h2 h3 h4 h5 h6 h7 h8 h9 => ⟨o, h7, h8, _, _, ⟨u, h, h1, h2, h3, h4, h5, h6, rfl, rfl⟩, h9⟩)
      h0 s.heap [] ((lg_sl av ++ List.replicate (nL - (lg_sl av).length) Slot.unset).toArray) hL hin (fun q c hq => Or.inl (by rw [hq]; exact fun z => by cases z)) va_S.rf (lv_entry av hn)
    have key2 : W p l e rm s m av.toArray below meth c s.heap [] 0 0 (fun t => ∃ o, t.status = .running ∧ Ended t below o ∧ ∃ mc ms, jg_End E h0 s.heap.size s o t mc ms ∧ jc_Fr s t (jc_A h0 s.heap.size) mc ms) (entryFrame m av.toArray nL) := by
      rw [lg_entry_eq]
      exact key
    obtain ⟨t, a1, o, b1, b2, b3⟩ := key2 s₁ hh0 (Stand.of_body B)
    exact ⟨t, o, a1, b1, b2, b3⟩
theorem jgI_ofG {l : Launch} {D : jd_T} {y : MethodName} {cc : ByteArray} {nL : Nat} {ret : Option FieldType} {rm : Room} {av : List Value} {L : List sg_A} {α : Type} {E : jg_T α} (hM : jg_C l D y cc nL ret rm av L E) : jgI_C l D y cc nL ret rm av L E := by
  intro h0 sz hL p e h1 h2 h3 s m args below h4 h5 h6 h7
  exact hM h0 sz hL p e h1 h2 h3 s m args below h4 h5 h6.1 h7
theorem jgI_back {l : Launch} {R : Room} {p : Program} {e : Env} {below : List Frame} {s : State} {sargs : Array Value} {D : jd_T} {y : MethodName} {cc : ByteArray} {nL : Nat} {ret : Option FieldType} {rm : Room} {av : List Value} {L : List sg_A} {α : Type} {E : jg_T α} (hM : jgI_C l D y cc nL ret rm av L E) (hE : ∀ u : α, ∃ v, (E u).1 = .returned v) (f : sg_F) (sz : Nat) (hL : sg_l L f)
    (hframes : rm.frames + 1 ≤ R.frames) (hlocals : 8 + (nL + 11) + rm.locals ≤ R.locals) (hws : ∀ w ∈ jc_ws y cc nL ret, ∀ (a' : Array Value) (U : State), s.WarmedH U.vm → w.before a' U = true) (hinit : ∀ (a' : Array Value) (U : State), s.WarmedH U.vm → (Cond.initialized y.cls).before a' U = true) :
    Back l R p e below s sargs y 3 8 (fun A a => A.cells + rm.cells ≤ R.cells ∧ A.slots + rm.slots ≤ R.slots ∧ jgI_P D av f sz a A.U) (jg_Post E f sz) := by
  refine Back.of_free (S := headSpec (jc_ws y cc nL ret) rm) (P := jgI_P D av f sz) (K := fun _ _ _ _ _ => True) (Q := fun a st o t => ∃ mc ms, jg_End E f sz st o t mc ms ∧ jc_Fr st t (jc_A f sz) mc ms) (bytes := cc) (maxL := nL) (ret := ret)
    (E := fun a st o t Lx k n => (∀ q ∈ Lx, jc_A f sz q.base) ∧ jg_End E f sz st o t k n) (hM f sz hL) hframes hlocals ?_ ?_ (fun _ _ _ _ _ _ _ _ _ => trivial) ?_ ?_
  · intro m meth c A a S hp
    exact ⟨atoms_intro fun w hw => hws w hw _ _ S.warmed, hws _ List.mem_cons_self _ _ S.warmed, hinit _ _ S.warmed, hp.1, hp.2.1⟩
  · intro m meth c A a g mk S hp
    exact jgI_Pblind _ _ _ _ hp.2.2
  · intro a st o t ⟨mc, ms, hq, Lx, h1, h2, h3⟩
    obtain ⟨u, h, b1, b2⟩ := hq
    obtain ⟨v, hv⟩ := hE u
    exact ⟨Lx, mc, ms, ⟨⟨v, b1.trans hv⟩, h1, h2⟩, h3, u, h, b1, b2⟩
  · intro m meth c A a g mk v t Lx k n S hp hq hF ⟨hLx, u, h, b1, b2, b3, b4, b5, b6, b7, b8⟩
    exact ⟨g, mk, t, Lx, u, h, rfl, rfl, b1, b2, b3, b4, b5, b6, rfl, hLx, by rw [b7], by rw [b8]⟩
section JGI
variable {X : jx_T} {D : jd_T} {cc : ByteArray} {own : String} {ret : Option FieldType} {cs sl : Nat} {L : List sg_A} {lv : List (Nat × Value)} {pc : Nat} {st : List Value} {α : Type} {E : jg_T α} {RM : Room} {Rl : sg_A → List sg_A → Prop}
/-- a call with the whole list -/
theorem jgI_callV {ci b index n : Nat} {C : String} {y : MethodName} {bytes : ByteArray} {maxL : Nat} {rt : Option FieldType} {rm : Room} {T : u_T} {N : Nat} {fs As rest : List Value} {v : α → Option Value} (ok : jx_ok X D cc own ret) (hI : jI D (jx_A X) (jx_s X) (jx_s X).heap) (hg : jm_V own index C y bytes maxL rt n) (hM : jgI_C (jx_l X) D y bytes maxL rt rm (.ref b :: As) L E)
    (hq : sg_at L (ob D b ci fs) Rl) (hcl : vwCl[ci]? = some (C, T, N)) (hst : st = As.reverse ++ .ref b :: rest) (hn : As.length = n) (hw : (rest.map fun v => v.category).sum ≤ 8) (hR : rm.frames + 1 ≤ (jx_R X).frames ∧ 8 + (maxL + 11) + rm.locals ≤ (jx_R X).locals) (hf : cs + rm.cells ≤ (jx_R X).cells ∧ sl + rm.slots ≤ (jx_R X).slots) (hE : ∀ u, (E u).1 = .returned (v u)) (d : decode cc pc = .ok (.invokevirtual index, 3))
    (kk : ∀ u, (E u).2.1 → jw X (cs + (E u).2.2.2.1) (sl + (E u).2.2.2.2) (E u).2.2.1 lv (pc + 3) ((v u).toList ++ rest)) : jw X cs sl L lv pc st := by
  intro h H locs ls h1 h2 h3 h4 h5
  obtain ⟨f0, g0, d0, e0, ⟨cell, r, hf0, hcr, q2, q3, q4⟩, -⟩ := hq h h1
  have hcell : H[b]? = some cell := h2 b cell (by rw [e0, hf0]; exact sg_un_l (sg_1_at b cell))
  subst hst
  have cw := cwV (R := jx_R X) (rm := rm) (mc := rm.cells) (ms := rm.slots) n ok.2.2.2.2.1 hg.1 rfl rfl rfl hg.2 hR
  obtain ⟨⟨-, -, c3, c4, c5, c6, c7, c8, c9, c10, c11⟩, c12, c13⟩ := cw
  have hB := jgI_back (R := jx_R X) (p := jx_p X) (e := jx_e X) (below := jx_b X) (s := jx_s X) (sargs := jx_a X) hM (fun u => ⟨v u, hE u⟩) h H.size h1 c3 c4 c5 (fun a' U hW => word_at hW (Or.inl (by first | rfl | simp [Cond.onTables, Cond.keeps, Cond.steady])) c8)
  have hfA : ∀ q, jc_A h H.size q → jx_A X q := fun q hq => by
    rcases hq with z | z
    · cases hfq : h q with
      | none => exact absurd hfq z
      | some c => exact h3 q c hfq
    · exact ok.2.2.2.2.2.2.2.2 q (Nat.le_trans h4.1 z)
  refine jg_run (a := (Value.ref b :: As).toArray) (f := h) (g := sg_0) (Lr := []) ok.2.2.2.2.2.2.2.2 hE (fun T hT S => ?_) (sg_dj_0 h) rfl (by rw [sg_un_0]; exact h2) (by rw [sg_un_0]; exact h3) h4 h5 (fun u hu => by rw [List.append_nil]; exact kk u hu)
  obtain ⟨w, vm₁, B, hW₁, X', hpost, stp⟩ := callV S ok.1 (C := C) (bytes := bytes) (maxL := maxL) (ret := rt) ok.2.2.2.1 c11 c12 c13 c7 c9 hB (by rw [hT]; exact hcell) (by rw [q3]; rfl) (by rw [q2]; exact (ok.2.2.2.2.2.2.2.1.1.1 ci _ hcl).2.1) (g := F0 (jx_m X) pc ls (As.reverse ++ .ref b :: rest)) rfl (h5.1.trans ok.2.2.1.symm) (argsL := As) (rest := rest) (fun sig hh => hn.trans (c10 sig hh)) rfl (lv_room hw) (by rw [ok.2.1]; exact d)
    (fun vm₁ hW₁ => ⟨hf.1, hf.2, ⟨rfl, by show T.heap.size = _; rw [hT], by show sg_in h T.heap; rw [hT]; exact h2, jk_K.moved (U := T.setVm vm₁) hW₁.alike ok.2.2.2.2.2.2.2.1⟩, jI.go (U := T.setVm vm₁) (H' := (T.setVm vm₁).heap) hI hW₁ (fun a x y => by show T.heap[a]? = _; rw [hT]; exact h4.2.1 a x y) hfA⟩)
  exact ⟨w, vm₁, B, X', hpost, stp⟩
/-- calls of plain contracts with the whole list -/
theorem jq_callV {ci b index n fr lo : Nat} {C : String} {y : MethodName} {bytes : ByteArray} {maxL : Nat} {rt : Option FieldType} {T : u_T} {N : Nat} {fs As rest : List Value} {v : Option Value} {L' : List sg_A} (ok : jx_ok X D cc own ret) (hRM : jx_R X = RM) (hg : jm_V own index C y bytes maxL rt n) (hM : jc_C (jx_l X) D y bytes maxL rt { frames := fr, cells := 0, slots := 0, locals := lo } (.ref b :: As) L (fun _ : Unit => (.returned v, True, L')))
    (hq : sg_at L (ob D b ci fs) Rl) (hcl : vwCl[ci]? = some (C, T, N)) (hst : st = As.reverse ++ .ref b :: rest) (hn : As.length = n) (hw : (rest.map fun v => v.category).sum ≤ 8) (hF : fr + 1 ≤ RM.frames ∧ 8 + (maxL + 11) + lo ≤ RM.locals) (hf : cs ≤ RM.cells ∧ sl ≤ RM.slots) (d : decode cc pc = .ok (.invokevirtual index, 3))
    (kk : jw X cs sl L' lv (pc + 3) (v.toList ++ rest)) : jw X cs sl L lv pc st := by
  subst hRM
  intro h H locs ls h1 h2 h3 h4 h5
  obtain ⟨f0, g0, d0, e0, ⟨cell, r, hf0, hcr, q2, q3, q4⟩, -⟩ := hq h h1
  have hcell : H[b]? = some cell := h2 b cell (by rw [e0, hf0]; exact sg_un_l (sg_1_at b cell))
  have hMet := jc_met hM (fun u => ⟨v, rfl⟩) h H.size h1
  subst hst
  refine jr_run (f := h) (g := sg_0) (Lr := []) (v := fun _ => v) ok.2.2.2.2.2.2.2.2 (fun _ => rfl) (va_runV (As := As) (rest := rest) ⟨ok.1, ok.2.1, ok.2.2.1, ok.2.2.2.1, ok.2.2.2.2.1⟩ hMet (cwV n ok.2.2.2.2.1 hg.1 rfl rfl rfl hg.2 hF) ⟨jc_Pblind, ⟨cell, hcell, by rw [q3]; rfl, by rw [q2]; exact (ok.2.2.2.2.2.2.2.1.1.1 ci _ hcl).2.1⟩, fun U hU hW => ⟨rfl, by rw [hU], by rw [hU]; exact h2, jk_K.moved hW.alike ok.2.2.2.2.2.2.2.1⟩⟩ rfl hn h5.1 rfl (lv_room hw) d hf) (sg_dj_0 h) rfl (by rw [sg_un_0]; exact h2) (by rw [sg_un_0]; exact h3) h4 h5 (fun _ _ => by rw [List.append_nil]; exact kk)
/-- a string constant -/
theorem jrI_ldc {i index : Nat} (ok : jx_ok X D cc "WindowTables$QuestionReader" ret) (hI : jI D (jx_A X) (jx_s X) (jx_s X).heap) (hi : i < 8) (hx : jS_ix.getD i 0 = index) (d : decode cc pc = .ok (.ldc index, 2))
    (k : jw X cs sl L lv (pc + 2) (.ref (D.1.2 100 i) :: st)) : jw X cs sl L lv pc st := by
  intro h H locs ls h1 h2 h3 h4 h5
  subst hx
  exact va_ldcS ok.1 ok.2.1 ok.2.2.2.1 (hI.2.2.2.2.1 i hi) d (k h H locs ls h1 h2 h3 h4 h5)
end JGI
