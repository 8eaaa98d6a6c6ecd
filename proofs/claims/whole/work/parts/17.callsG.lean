/-! ===== contracts whose new cells depend on the end: what a call has made is counted as it was ===== -/
abbrev jg_T (α : Type) : Type := α → Outcome × Prop × List sg_A × Nat × Nat
def jg_E {α : Type} (E : jg_T α) : je_T α := fun u => ((E u).1, (E u).2.1, (E u).2.2.1)
def jg_End {α : Type} (E : jg_T α) (h0 : sg_F) (sz : Nat) (s : State) (o : Outcome) (t : State) (mc ms : Nat) : Prop :=
  ∃ (u : α) (h : sg_F), o = (E u).1 ∧ (E u).2.1 ∧ sg_l (E u).2.2.1 h ∧ sg_in h t.heap ∧ (∀ (q : Nat) (c : Cell), h q = some c → jc_A h0 sz q) ∧ va_F (jc_A h0 sz) s t ∧ mc = (E u).2.2.2.1 ∧ ms = (E u).2.2.2.2
/-- the room that must be there is rm's; what was made is the end's -/
def jg_C (l : Launch) (D : jd_T) (y : MethodName) (cc : ByteArray) (nL : Nat) (ret : Option FieldType) (rm : Room) (av : List Value) (L : List sg_A) {α : Type} (E : jg_T α) : Prop :=
  ∀ (h0 : sg_F) (sz : Nat), sg_l L h0 → MetFree l y (headSpec (jc_ws y cc nL ret) rm) (jc_P D av h0 sz) (fun _ _ _ _ _ => True) (fun _ st o t => ∃ mc ms, jg_End E h0 sz st o t mc ms ∧ jc_Fr st t (jc_A h0 sz) mc ms)
def jg_fin (X : jx_T) {α : Type} (E : jg_T α) : Prop := ∀ (u : α) (h : sg_F) (o : Outcome) (t : State), o = (E u).1 → (E u).2.1 → sg_l (E u).2.2.1 h → sg_in h t.heap → (∀ (q : Nat) (c : Cell), h q = some c → jx_A X q) → va_F (jx_A X) (jx_s X) t → t.status = .running → Ended t (jx_b X) o → jc_Fr (jx_s X) t (jx_A X) (E u).2.2.2.1 (E u).2.2.2.2 → jx_Q X t
theorem jg_of {l : Launch} {D : jd_T} {y : MethodName} {cc : ByteArray} {nL : Nat} {ret : Option FieldType} {rm : Room} {av : List Value} {L : List sg_A} {α : Type} {E : jg_T α} (hy : plainName y.cls = true) (hn : (lg_sl av).length ≤ nL)
    (body : ∀ X : jx_T, jx_l X = l → jx_R X = rm → jx_n X = nL → jx_ok X D cc y.cls ret → ((jx_t X).name = y.name) → jg_fin X E → jw X 0 0 L (lv_args 0 av) 0 []) : jg_C l D y cc nL ret rm av L E := by
  intro h0 sz hL
  refine MetFree.of_bodyS (code := cc) (maxLocals := nL) (ret := ret) hy ?_ ?_
  · intro args s m h hnm
    obtain ⟨meth, c, h1, h2, h3, h4, h5, h6, -, -⟩ := Cond.code_spec hnm (atoms_spec (ws := jc_ws y cc nL ret) h _ List.mem_cons_self)
    exact ⟨meth, c, h1, h2, h3, h4, h5, h6⟩
  · intro p e s m args below meth c s₁ B hml hP _
    obtain ⟨ha, hsz, hin, hK⟩ := hP
    subst ha
    subst hsz
    have hh0 : s₁.heap = s.heap := by rw [B.state]; rfl
    have hts := atoms_spec (ws := jc_ws y cc nL ret) B.pre
    have key := body (p, l, e, rm, s, m, av.toArray, below, meth, c, jc_A h0 s.heap.size, (fun t => ∃ o, t.status = .running ∧ Ended t below o ∧ ∃ mc ms, jg_End E h0 s.heap.size s o t mc ms ∧ jc_Fr s t (jc_A h0 s.heap.size) mc ms), nL) rfl rfl rfl
      ⟨B.exec, B.bytes, hml, findClass_of_methodNamed B.named, fun w hw => hts w (List.mem_cons_of_mem _ hw), B.returns, B.notSynchronized, hK, fun q hq => Or.inr hq⟩ (name_of_methodNamed B.named B.method).1
      (fun u h o t h1 h2 h3 h4 h5 h6 h7 h8 h9 => ⟨o, h7, h8, _, _, ⟨u, h, h1, h2, h3, h4, h5, h6, rfl, rfl⟩, h9⟩)
      h0 s.heap [] ((lg_sl av ++ List.replicate (nL - (lg_sl av).length) Slot.unset).toArray) hL hin (fun q c hq => Or.inl (by rw [hq]; exact fun z => by cases z)) va_S.rf (lv_entry av hn)
    have key2 : W p l e rm s m av.toArray below meth c s.heap [] 0 0 (fun t => ∃ o, t.status = .running ∧ Ended t below o ∧ ∃ mc ms, jg_End E h0 s.heap.size s o t mc ms ∧ jc_Fr s t (jc_A h0 s.heap.size) mc ms) (entryFrame m av.toArray nL) := by
      rw [lg_entry_eq]
      exact key
    obtain ⟨t, a1, o, b1, b2, b3⟩ := key2 s₁ hh0 (Stand.of_body B)
    exact ⟨t, o, a1, b1, b2, b3⟩
/-- a plain contract is one of these -/
theorem jg_ofC {l : Launch} {D : jd_T} {y : MethodName} {cc : ByteArray} {nL : Nat} {ret : Option FieldType} {rm : Room} {av : List Value} {L : List sg_A} {α : Type} {E : je_T α} (hM : jc_C l D y cc nL ret rm av L E) : jg_C l D y cc nL ret rm av L (fun u => ((E u).1, (E u).2.1, (E u).2.2, rm.cells, rm.slots)) := by
  intro h0 sz hL p e h1 h2 h3 s m args below h4 h5 h6 h7
  obtain ⟨n, o, a1, a2, a3, ⟨u, h, b1, b2, b3, b4, b5, b6⟩, hF⟩ := hM h0 sz hL p e h1 h2 h3 s m args below h4 h5 h6 h7
  exact ⟨n, o, a1, a2, a3, _, _, ⟨u, h, b1, b2, b3, b4, b5, b6, rfl, rfl⟩, hF⟩
def jg_Post {α : Type} (E : jg_T α) (f : sg_F) (sz : Nat) : Pt → Array Value → Option Value → Pt → Prop := fun A a w B =>
  ∃ (g : JFrame) (mk : MethodId) (t : State) (Lx : List Loc) (u : α) (h : sg_F), B.U.heap = t.heap ∧ B.U.vm = t.vm ∧ .returned w = (E u).1 ∧ (E u).2.1 ∧ sg_l (E u).2.2.1 h ∧ sg_in h t.heap ∧ (∀ (q : Nat) (c : Cell), h q = some c → jc_A f sz q) ∧ va_F (jc_A f sz) (A.U.calling g mk a) t ∧ B.locs = A.locs ++ Lx ∧ (∀ q ∈ Lx, jc_A f sz q.base) ∧ B.cells = A.cells + (E u).2.2.2.1 ∧ B.slots = A.slots + (E u).2.2.2.2
theorem jg_back {l : Launch} {R : Room} {p : Program} {e : Env} {below : List Frame} {s : State} {sargs : Array Value} {D : jd_T} {y : MethodName} {cc : ByteArray} {nL : Nat} {ret : Option FieldType} {rm : Room} {av : List Value} {L : List sg_A} {α : Type} {E : jg_T α} (hM : jg_C l D y cc nL ret rm av L E) (hE : ∀ u : α, ∃ v, (E u).1 = .returned v) (f : sg_F) (sz : Nat) (hL : sg_l L f)
    (hframes : rm.frames + 1 ≤ R.frames) (hlocals : 8 + (nL + 11) + rm.locals ≤ R.locals) (hws : ∀ w ∈ jc_ws y cc nL ret, ∀ (a' : Array Value) (U : State), s.WarmedH U.vm → w.before a' U = true) (hinit : ∀ (a' : Array Value) (U : State), s.WarmedH U.vm → (Cond.initialized y.cls).before a' U = true) :
    Back l R p e below s sargs y 3 8 (fun A a => A.cells + rm.cells ≤ R.cells ∧ A.slots + rm.slots ≤ R.slots ∧ jc_P D av f sz a A.U) (jg_Post E f sz) := by
  refine Back.of_free (S := headSpec (jc_ws y cc nL ret) rm) (P := jc_P D av f sz) (K := fun _ _ _ _ _ => True) (Q := fun a st o t => ∃ mc ms, jg_End E f sz st o t mc ms ∧ jc_Fr st t (jc_A f sz) mc ms) (bytes := cc) (maxL := nL) (ret := ret)
    (E := fun a st o t Lx k n => (∀ q ∈ Lx, jc_A f sz q.base) ∧ jg_End E f sz st o t k n) (hM f sz hL) hframes hlocals ?_ ?_ (fun _ _ _ _ _ _ _ _ _ => trivial) ?_ ?_
  · intro m meth c A a S hp
    exact ⟨atoms_intro fun w hw => hws w hw _ _ S.warmed, hws _ List.mem_cons_self _ _ S.warmed, hinit _ _ S.warmed, hp.1, hp.2.1⟩
  · intro m meth c A a g mk S hp
    exact jc_Pblind _ _ _ _ hp.2.2
  · intro a st o t ⟨mc, ms, hq, Lx, h1, h2, h3⟩
    obtain ⟨u, h, b1, b2⟩ := hq
    obtain ⟨v, hv⟩ := hE u
    exact ⟨Lx, mc, ms, ⟨⟨v, b1.trans hv⟩, h1, h2⟩, h3, u, h, b1, b2⟩
  · intro m meth c A a g mk v t Lx k n S hp hq hF ⟨hLx, u, h, b1, b2, b3, b4, b5, b6, b7, b8⟩
    exact ⟨g, mk, t, Lx, u, h, rfl, rfl, b1, b2, b3, b4, b5, b6, rfl, hLx, by rw [b7], by rw [b8]⟩
section JG
variable {X : jx_T} {D : jd_T} {cc : ByteArray} {own : String} {ret : Option FieldType} {cs sl : Nat} {L : List sg_A} {lv : List (Nat × Value)} {pc : Nat} {st : List Value} {α : Type} {E : jg_T α}
theorem jg_run {H : Heap} {locs : List Loc} {ls : Array Slot} {f g : sg_F} {Lr : List sg_A} {rest : List Value} {v : α → Option Value} {a : Array Value} (hA0 : ∀ q : Nat, (jx_s X).heap.size ≤ q → jx_A X q) (hE : ∀ u, (E u).1 = .returned (v u))
    (hr : ∀ T : State, T.heap = H → Stand (jx_p X) (jx_l X) (jx_e X) (jx_R X) (jx_s X) (jx_m X) (jx_a X) (jx_b X) (jx_t X) (jx_c X) T locs cs sl → ∃ (w : Option Value) (vm₁ : Vm) (B : Pt), Stand (jx_p X) (jx_l X) (jx_e X) (jx_R X) (jx_s X) (jx_m X) (jx_a X) (jx_b X) (jx_t X) (jx_c X) B.U B.locs B.cells B.slots ∧ jg_Post E f H.size ⟨T.setVm vm₁, locs, cs, sl⟩ a w B ∧ ∀ target, Steps (jx_p X).tables (jx_e X) (jx_b X) (B.U.setTop { F0 (jx_m X) pc ls st with pc := pc + 3, stack := w.toList ++ rest }) target → Steps (jx_p X).tables (jx_e X) (jx_b X) (T.setTop (F0 (jx_m X) pc ls st)) target)
    (dj : sg_dj f g) (hg : sg_l Lr g) (h2 : sg_in (sg_un f g) H) (h3 : ∀ (q : Nat) (c : Cell), sg_un f g q = some c → jx_A X q) (h4 : va_S (jx_A X) (jx_s X).heap H locs) (h5 : lv_has ls (jx_n X) lv)
    (kk : ∀ u, (E u).2.1 → jw X (cs + (E u).2.2.2.1) (sl + (E u).2.2.2.2) ((E u).2.2.1 ++ Lr) lv (pc + 3) ((v u).toList ++ rest)) : jx_W X H locs cs sl (F0 (jx_m X) pc ls st) := by
  intro T hT S
  obtain ⟨w, vm₁, ⟨U', L2, c2, s2⟩, X', ⟨g', mk, t, Lx, u, h', e1, e2, ho, hφ, hl', hin', hdom', hF, e3, hLx, e4, e5⟩, stp⟩ := hr T hT S
  dsimp only [Pt.U, Pt.locs, Pt.cells, Pt.slots] at X' e1 e2 e3 e4 e5 stp
  subst e3; subst e4; subst e5
  rw [hE u] at ho
  have hw : w = v u := Outcome.returned.inj ho
  subst hw
  have h0 : ((T.setVm vm₁).calling g' mk a).heap = H := hT
  have hin2 := (sg_in_un dj).mp h2
  have hfA : ∀ q, jc_A f H.size q → jx_A X q := fun q hq => by
    rcases hq with z | z
    · cases hfq : f q with
      | none => exact absurd hfq z
      | some c => exact h3 q c (sg_un_l hfq)
    · exact hA0 q (Nat.le_trans h4.1 z)
  have hgN : ∀ (q : Nat) (c : Cell), g q = some c → q < H.size ∧ ¬ jc_A f H.size q := fun q c hq => by
    have hlt := sg_in_lt hin2.2 hq
    refine ⟨hlt, fun z => ?_⟩
    rcases z with z | z
    · rcases dj q with w | w
      · exact z w
      · rw [hq] at w; cases w
    · omega
  have hF1 : H.size ≤ t.heap.size := by have := hF.1; rw [h0] at this; exact this
  have hF2 : ∀ q : Nat, q < H.size → ¬ jc_A f H.size q → t.heap[q]? = H[q]? := fun q a b => by
    have := hF.2 q (by rw [h0]; exact a) b
    rw [h0] at this; exact this
  have dj' : sg_dj h' g := fun q => by
    cases hq : g q with
    | none => exact Or.inr rfl
    | some c =>
      left
      cases hq' : h' q with
      | none => rfl
      | some c' => exact absurd (hdom' q c' hq') (hgN q c hq).2
  have hing : sg_in g t.heap := fun q c hq => by
    obtain ⟨a, b⟩ := hgN q c hq
    rw [hF2 q a b]
    exact hin2.2 q c hq
  have hl2 : sg_l ((E u).2.2.1 ++ Lr) (sg_un h' g) := (sg_l_app _ _ _).mpr ⟨h', g, dj', rfl, hl', hg⟩
  have hS2 : va_S (jx_A X) (jx_s X).heap t.heap (locs ++ Lx) := ⟨Nat.le_trans h4.1 hF1, fun q a b => by rw [hF2 q (Nat.lt_of_lt_of_le a h4.1) (fun z => b (hfA q z))]; exact h4.2.1 q a b, fun q hq => by
    rcases List.mem_append.mp hq with z | z
    · exact h4.2.2 q z
    · exact hfA _ (hLx q z)⟩
  have hk := kk u hφ (sg_un h' g) t.heap (locs ++ Lx) ls hl2 ((sg_in_un dj').mpr ⟨hin', hing⟩) (fun q c hq => by
    rcases sg_un_some hq with z | z
    · exact hfA q (hdom' q c z)
    · exact h3 q c (by rw [sg_un_comm dj]; exact sg_un_l z)) hS2 h5
  obtain ⟨t2, a1, b1⟩ := hk U' e1 X'
  exact ⟨t2, stp t2 a1, b1⟩
theorem jg_callV {ci b index n : Nat} {C : String} {y : MethodName} {bytes : ByteArray} {maxL : Nat} {rt : Option FieldType} {rm : Room} {T : u_T} {N : Nat} {fs As rest : List Value} {v : α → Option Value} (ks rs : List Nat) (Lc Lr : List sg_A) (ok : jx_ok X D cc own ret) (hg : jm_V own index C y bytes maxL rt n) (hM : jg_C (jx_l X) D y bytes maxL rt rm (.ref b :: As) Lc E)
    (hp : (ks ++ rs).Perm (List.range L.length)) (hc : sg_sel L ks = Lc) (hr : sg_sel L rs = Lr) (q0 : Nat) (hq : L[q0]? = some (ob D b ci fs)) (hcl : vwCl[ci]? = some (C, T, N)) (hst : st = As.reverse ++ .ref b :: rest) (hn : As.length = n) (hw : (rest.map fun v => v.category).sum ≤ 8) (hR : rm.frames + 1 ≤ (jx_R X).frames ∧ 8 + (maxL + 11) + rm.locals ≤ (jx_R X).locals) (hf : cs + rm.cells ≤ (jx_R X).cells ∧ sl + rm.slots ≤ (jx_R X).slots) (hE : ∀ u, (E u).1 = .returned (v u)) (d : decode cc pc = .ok (.invokevirtual index, 3))
    (kk : ∀ u, (E u).2.1 → jw X (cs + (E u).2.2.2.1) (sl + (E u).2.2.2.2) ((E u).2.2.1 ++ Lr) lv (pc + 3) ((v u).toList ++ rest)) : jw X cs sl L lv pc st := by
  intro h H locs ls h1 h2 h3 h4 h5
  obtain ⟨f0, g0, d0, e0, ⟨cell, r, hf0, hcr, q2, q3, q4⟩, -⟩ := sg_pull L q0 _ h hq h1
  have hcell : H[b]? = some cell := h2 b cell (by rw [e0, hf0]; exact sg_un_l (sg_1_at b cell))
  obtain ⟨f, g, dj, rfl, hfl, hgl⟩ := jr_split hp hc hr h1
  have hin2 := (sg_in_un dj).mp h2
  subst hst
  have cw := cwV (R := jx_R X) (rm := rm) (mc := rm.cells) (ms := rm.slots) n ok.2.2.2.2.1 hg.1 rfl rfl rfl hg.2 hR
  obtain ⟨⟨-, -, c3, c4, c5, c6, c7, c8, c9, c10, c11⟩, c12, c13⟩ := cw
  have hB := jg_back (R := jx_R X) (p := jx_p X) (e := jx_e X) (below := jx_b X) (s := jx_s X) (sargs := jx_a X) hM (fun u => ⟨v u, hE u⟩) f H.size hfl c3 c4 c5 (fun a' U hW => word_at hW (Or.inl (by first | rfl | simp [Cond.onTables, Cond.keeps, Cond.steady])) c8)
  refine jg_run (a := (Value.ref b :: As).toArray) ok.2.2.2.2.2.2.2.2 hE (fun T hT S => ?_) dj hgl h2 h3 h4 h5 kk
  obtain ⟨w, vm₁, B, hW₁, X', hpost, stp⟩ := callV S ok.1 (C := C) (bytes := bytes) (maxL := maxL) (ret := rt) ok.2.2.2.1 c11 c12 c13 c7 c9 hB (by rw [hT]; exact hcell) (by rw [q3]; rfl) (by rw [q2]; exact (ok.2.2.2.2.2.2.2.1.1.1 ci _ hcl).2.1) (g := F0 (jx_m X) pc ls (As.reverse ++ .ref b :: rest)) rfl (h5.1.trans ok.2.2.1.symm) (argsL := As) (rest := rest) (fun sig hh => hn.trans (c10 sig hh)) rfl (lv_room hw) (by rw [ok.2.1]; exact d)
    (fun vm₁ hW₁ => ⟨hf.1, hf.2, rfl, by show T.heap.size = _; rw [hT], by show sg_in f T.heap; rw [hT]; exact hin2.1, jk_K.moved (U := T.setVm vm₁) hW₁.alike ok.2.2.2.2.2.2.2.1⟩)
  exact ⟨w, vm₁, B, X', hpost, stp⟩
end JG
