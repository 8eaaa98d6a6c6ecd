/-! ===== frames of contracts; catching; methods with handlers ===== -/
theorem fr_end {f g h' : sg_F} {sz : Nat} {s t : State} {L9 Lr : List sg_A} (dj : sg_dj f g) (a3 : sg_in (sg_un f g) s.heap) (a2 : s.heap.size = sz) (hg : sg_l Lr g) (b3 : sg_l L9 h') (b4 : sg_in h' t.heap) (b5 : ∀ (q : Nat) (c : Cell), h' q = some c → jc_A f sz q) (b6 : va_F (jc_A f sz) s t) : sg_l (L9 ++ Lr) (sg_un h' g) ∧ sg_in (sg_un h' g) t.heap ∧ (∀ (q : Nat) (c : Cell), sg_un h' g q = some c → jc_A (sg_un f g) sz q) ∧ va_F (jc_A (sg_un f g) sz) s t := by
  have hin2 := (sg_in_un dj).mp a3
  have hfA : ∀ q, jc_A f sz q → jc_A (sg_un f g) sz q := fun q hq => by
    rcases hq with z | z
    · exact Or.inl (fun w => z (sg_un_none.mp w).1)
    · exact Or.inr z
  have hgN : ∀ (q : Nat) (c : Cell), g q = some c → q < sz ∧ ¬ jc_A f sz q := fun q c hq => by
    have hlt := sg_in_lt hin2.2 hq
    rw [a2] at hlt
    refine ⟨hlt, fun z => ?_⟩
    rcases z with z | z
    · rcases dj q with w | w
      · exact z w
      · rw [hq] at w; cases w
    · omega
  have dj' : sg_dj h' g := fun q => by
    cases hq : g q with
    | none => exact Or.inr rfl
    | some c =>
      left
      cases hq' : h' q with
      | none => rfl
      | some c' => exact absurd (b5 q c' hq') (hgN q c hq).2
  have hing : sg_in g t.heap := fun q c hq => by
    obtain ⟨a, b⟩ := hgN q c hq
    rw [b6.2 q (by rw [a2]; exact a) b]
    exact hin2.2 q c hq
  refine ⟨(sg_l_app _ _ _).mpr ⟨h', g, dj', rfl, b3, hg⟩, (sg_in_un dj').mpr ⟨b4, hing⟩, fun q c hq => ?_, b6.1, fun q x z => b6.2 q x (fun w => z (hfA q w))⟩
  rcases sg_un_some hq with z | z
  · exact hfA q (b5 q c z)
  · exact Or.inl (by rw [sg_un_comm dj, sg_un_l z]; intro w; cases w)
theorem fr_A {f g : sg_F} {sz : Nat} : ∀ q, jc_A f sz q → jc_A (sg_un f g) sz q := fun q hq => by
  rcases hq with z | z
  · exact Or.inl (fun w => z (sg_un_none.mp w).1)
  · exact Or.inr z
theorem jc_frame {l : Launch} {D : jd_T} {y : MethodName} {cc : ByteArray} {nL : Nat} {ret : Option FieldType} {rm : Room} {av : List Value} {L : List sg_A} {α : Type} {E : je_T α} (hM : jc_C l D y cc nL ret rm av L E) (Lr : List sg_A) : jc_C l D y cc nL ret rm av (L ++ Lr) (fun u => ((E u).1, (E u).2.1, (E u).2.2 ++ Lr)) := by
  intro h0 sz hL p e h1 h2 h3 s m args below h4 h5 h6 h7
  obtain ⟨f, g, dj, rfl, hf, hg⟩ := (sg_l_app L Lr h0).mp hL
  obtain ⟨a1, a2, a3, a4⟩ := h6
  have hin2 := (sg_in_un dj).mp a3
  obtain ⟨t, o, k1, k2, k3, ⟨u, h', b1, b2, b3, b4, b5, b6⟩, Lx, w1, w2, w3⟩ := hM f sz hf p e h1 h2 h3 s m args below h4 h5 ⟨a1, a2, hin2.1, a4⟩ h7
  obtain ⟨r1, r2, r3, r4⟩ := fr_end dj a3 a2 hg b3 b4 b5 b6
  exact ⟨t, o, k1, k2, k3, ⟨u, sg_un h' g, b1, b2, r1, r2, r3, r4⟩, Lx, w1, w2, fun q hq => fr_A _ (w3 q hq)⟩
theorem jgT_frame {l : Launch} {D : jd_T} {y : MethodName} {cc : ByteArray} {nL : Nat} {ret : Option FieldType} {rm : Room} {av : List Value} {L : List sg_A} {α : Type} {E : jg_T α} (hM : jgT_C l D y cc nL ret rm av L E) (Lr : List sg_A) : jgT_C l D y cc nL ret rm av (L ++ Lr) (fun u => ((E u).1, (E u).2.1, (E u).2.2.1 ++ Lr, (E u).2.2.2)) := by
  intro h0 sz hL p e h1 h2 h3 s m args below h4 h5 h6 h7
  obtain ⟨f, g, dj, rfl, hf, hg⟩ := (sg_l_app L Lr h0).mp hL
  obtain ⟨⟨⟨a1, a2, a3, a4⟩, hI⟩, hT⟩ := h6
  have hin2 := (sg_in_un dj).mp a3
  obtain ⟨t, o, k1, k2, k3, mc, ms, ⟨u, h', b1, b2, b3, b4, b5, b6, b7, b8⟩, Lx, w1, w2, w3⟩ := hM f sz hf p e h1 h2 h3 s m args below h4 h5 ⟨⟨⟨a1, a2, hin2.1, a4⟩, jI.go hI (State.WarmedH.refl s) (fun _ _ _ => rfl) fr_A⟩, jT.go hT (State.WarmedH.refl s) (fun _ _ _ => rfl) fr_A⟩ h7
  obtain ⟨r1, r2, r3, r4⟩ := fr_end dj a3 a2 hg b3 b4 b5 b6
  exact ⟨t, o, k1, k2, k3, mc, ms, ⟨u, sg_un h' g, b1, b2, r1, r2, r3, r4, b7, b8⟩, Lx, w1, w2, fun q hq => fr_A _ (w3 q hq)⟩
/-- which exceptions a catch takes -/
def jN (D : jd_T) (U : State) : Prop := ∀ i j : Nat, i < 3 → j < 3 → U.vm.assignable (D.1.1 (200 + i)) (D.1.1 (200 + j)) = decide (i = j)
theorem jN.go {D : jd_T} {s U : State} (h : jN D s) (hW : s.WarmedH U.vm) : jN D U := fun i j hi hj => by rw [hW.alike.assignable]; exact h i j hi hj
def jgH_P (D : jd_T) (av : List Value) (h0 : sg_F) (sz : Nat) : Array Value → State → Prop := fun a U => jgT_P D av h0 sz a U ∧ jN D U
theorem jgH_Pblind {D : jd_T} {av : List Value} {h0 : sg_F} {sz : Nat} : FrameBlind (jgH_P D av h0 sz) := by
  intro a U g mk q
  exact ⟨jgT_Pblind a U g mk q.1, jN.go (s := U) (U := U.calling g mk a) q.2 (State.WarmedH.refl U)⟩
def jgH_ws (y : MethodName) (cc : ByteArray) (nL : Nat) (ret : Option FieldType) (hs : List (Nat × Nat × Nat × Nat)) : List Cond := .codeWith y cc nL ret hs :: jw_all
def jgH_C (l : Launch) (D : jd_T) (y : MethodName) (cc : ByteArray) (nL : Nat) (ret : Option FieldType) (hs : List (Nat × Nat × Nat × Nat)) (rm : Room) (av : List Value) (L : List sg_A) {α : Type} (E : jg_T α) : Prop :=
  ∀ (h0 : sg_F) (sz : Nat), sg_l L h0 → MetFree l y (headSpec (jgH_ws y cc nL ret hs) rm) (jgH_P D av h0 sz) (fun _ _ _ _ _ => True) (fun _ st o t => ∃ mc ms, jg_End E h0 sz st o t mc ms ∧ jc_Fr st t (jc_A h0 sz) mc ms)
def jx_hs (X : jx_T) (hs : List (Nat × Nat × Nat × Nat)) : Prop := (jx_c X).exceptionTable.toList = tableOf hs
theorem jgH_of {l : Launch} {D : jd_T} {y : MethodName} {cc : ByteArray} {nL : Nat} {ret : Option FieldType} {hs : List (Nat × Nat × Nat × Nat)} {rm : Room} {av : List Value} {L : List sg_A} {α : Type} {E : jg_T α} (hy : plainName y.cls = true) (hn : (lg_sl av).length ≤ nL)
    (body : ∀ X : jx_T, jx_l X = l → jx_R X = rm → jx_n X = nL → jx_ok X D cc y.cls ret → jI D (jx_A X) (jx_s X) (jx_s X).heap → jT D (jx_A X) (jx_s X) (jx_s X).heap → jN D (jx_s X) → jx_hs X hs → jg_fin X E → jw X 0 0 L (lv_args 0 av) 0 []) : jgH_C l D y cc nL ret hs rm av L E := by
  intro h0 sz hL
  refine MetFree.of_bodyS (code := cc) (maxLocals := nL) (ret := ret) hy ?_ ?_
  · intro args s m h hnm
    obtain ⟨m', meth, c, h0, h1, h2, h3, h4, -, h5, h6, -⟩ := Cond.codeWith_spec (atoms_spec (ws := jgH_ws y cc nL ret hs) h _ List.mem_cons_self)
    cases hnm.symm.trans h0
    exact ⟨meth, c, h1, h2, h3, h4, h5, h6⟩
  · intro p e s m args below meth c s₁ B hml hP _
    obtain ⟨⟨⟨⟨ha, hsz, hin, hK⟩, hI⟩, hT⟩, hNN⟩ := hP
    subst ha
    subst hsz
    have hh0 : s₁.heap = s.heap := by rw [B.state]; rfl
    have hts := atoms_spec (ws := jgH_ws y cc nL ret hs) B.pre
    have hex : c.exceptionTable.toList = tableOf hs := by
      obtain ⟨m', meth', c', k0, k1, k2, -, -, k7, -, -, -⟩ := Cond.codeWith_spec (hts _ List.mem_cons_self)
      have S0 := Stand.of_body B
      cases B.named.symm.trans k0
      have e1 : meth' = meth := Option.some.inj (k1.symm.trans S0.method)
      subst e1
      have e2 : c' = c := Option.some.inj (k2.symm.trans S0.code)
      subst e2
      rw [← k7, table_eq]
    have key := body (p, l, e, rm, s, m, av.toArray, below, meth, c, jc_A h0 s.heap.size, (fun t => ∃ o, t.status = .running ∧ Ended t below o ∧ ∃ mc ms, jg_End E h0 s.heap.size s o t mc ms ∧ jc_Fr s t (jc_A h0 s.heap.size) mc ms), nL) rfl rfl rfl
      ⟨B.exec, B.bytes, hml, findClass_of_methodNamed B.named, fun w hw => hts w (List.mem_cons_of_mem _ hw), B.returns, B.notSynchronized, hK, fun q hq => Or.inr hq⟩ hI hT hNN hex
      (fun u h o t h1 h2 h3 h4 h5 h6 h7 h8 h9 => ⟨o, h7, h8, _, _, ⟨u, h, h1, h2, h3, h4, h5, h6, rfl, rfl⟩, h9⟩)
      h0 s.heap [] ((lg_sl av ++ List.replicate (nL - (lg_sl av).length) Slot.unset).toArray) hL hin (fun q c hq => Or.inl (by rw [hq]; exact fun z => by cases z)) va_S.rf (lv_entry av hn)
    have key2 : W p l e rm s m av.toArray below meth c s.heap [] 0 0 (fun t => ∃ o, t.status = .running ∧ Ended t below o ∧ ∃ mc ms, jg_End E h0 s.heap.size s o t mc ms ∧ jc_Fr s t (jc_A h0 s.heap.size) mc ms) (entryFrame m av.toArray nL) := by
      rw [lg_entry_eq]
      exact key
    obtain ⟨t, a1, o, b1, b2, b3⟩ := key2 s₁ hh0 (Stand.of_body B)
    exact ⟨t, o, a1, b1, b2, b3⟩
section JCT
variable {X : jx_T} {D : jd_T} {cc : ByteArray} {own : String} {ret : Option FieldType} {cs sl : Nat} {L : List sg_A} {lv : List (Nat × Value)} {pc : Nat} {st : List Value}
/-- what is no longer wanted is forgotten -/
theorem jr_dropR (Lx : List sg_A) (k : jw X cs sl L lv pc st) : jw X cs sl (L ++ Lx) lv pc st := by
  intro h H locs ls h1 h2 h3 h4 h5
  obtain ⟨f, g, dj, rfl, hf, hg⟩ := (sg_l_app L Lx h).mp h1
  exact k f H locs ls hf ((sg_in_un dj).mp h2).1 (fun q c z => h3 q c (sg_un_l z)) h4 h5
theorem jr_swapL {A B : List sg_A} (k : jw X cs sl (B ++ A) lv pc st) : jw X cs sl (A ++ B) lv pc st :=
  jr_ent (fun h hh => (sg_l_app B A h).mpr (sg_s_comm ((sg_l_app A B h).mp hh))) k
/-- an exception of kind kx flies out of this place into the handler -/
theorem jwT_caught {a kx hp : Nat} (pre : List (Nat × Nat × Nat × Nat)) (x : Nat × Nat × Nat × Nat) (rest hs : List (Nat × Nat × Nat × Nat)) (kf : Nat → Nat) (ok : jx_ok X D cc own ret) (hT : jT D (jx_A X) (jx_s X) (jx_s X).heap) (hN : jN D (jx_s X)) (hh : jx_hs X hs) (hsp : hs = pre ++ x :: rest) (hk : kx < 3) (hkx : kf x.2.2.2 = kx) (hpre : ∀ y ∈ pre, kf y.2.2.2 < 3 ∧ kf y.2.2.2 ≠ kx ∧ y.2.2.2 ≠ 0 ∧ Cond.classLink own y.2.2.2 (jEx.getD (kf y.2.2.2) "") ∈ jw_all) (hx : covers ⟨x.1, x.2.1, x.2.2.1, x.2.2.2⟩ pc = true) (hx0 : x.2.2.2 ≠ 0) (hxl : Cond.classLink own x.2.2.2 (jEx.getD kx "") ∈ jw_all) (hhp : x.2.2.1 = hp)
    (kk : jw X cs sl (L ++ [xc D a kx]) lv hp [.ref a]) : jwT X cs sl (L ++ [xc D a kx]) lv pc st a := by
  intro h H locs ls h1 h2 h3 h4 h5 T hT0 S
  obtain ⟨f, g, dj, e1, hf, g1, g2, dj2, e2, ⟨cell, e3, hcl, hvm⟩, hg2⟩ := (sg_l_app L [xc D a kx] h).mp h1
  have hcell : H[a]? = some cell := h2 a cell (by
    rw [e1, sg_un_comm dj]; refine sg_un_l ?_
    rw [e2]; refine sg_un_l ?_
    rw [e3]; exact sg_1_at a cell)
  have hfc := hT.2.2.2.2
  obtain ⟨hend, hk0⟩ := S.catches_of_link (name := jEx.getD kx "") (x := ⟨x.1, x.2.1, x.2.2.1, x.2.2.2⟩) (thrown := cell.cls) ok.2.2.2.1 hx0 (ok.2.2.2.2.1 _ hxl) (hfc kx hk) (by rw [hcl, hN kx kx hk hk]; exact decide_eq_true rfl)
  have hpl : (jx_e X).platform.magicAccessors = ({} : Platform).magicAccessors := by rw [S.admits.platform]
  obtain ⟨vm', S', stp⟩ := S.caughtThrough a (g := F0 (jx_m X) pc ls st) rfl (cell := cell) (by rw [hT0]; exact hcell) (by rw [hvm]; rfl) hk0 (tableOf pre) ⟨x.1, x.2.1, x.2.2.1, x.2.2.2⟩ (tableOf rest) (by rw [hh, hsp]; exact List.map_append) (fun y hy => by
    obtain ⟨q, hq, rfl⟩ := List.mem_map.mp hy
    obtain ⟨k1, k2, k3, k4⟩ := hpre q hq
    obtain ⟨c', hc', hcl'⟩ := Cond.classLink_spec ok.2.2.2.1 (ok.2.2.2.2.1 _ k4) (jx_e X).platform hpl
    have hc2 := hfc _ k1
    cases hc2.symm.trans hc'
    exact Or.inr ⟨k3, _, hcl', by rw [hcl, hN kx _ hk k1]; exact decide_eq_false (fun z => k2 z.symm)⟩) hx hend
  subst hhp
  obtain ⟨tt, s1, s2⟩ := kk h H locs ls h1 h2 h3 h4 h5 (T.setVm vm') hT0 S'
  refine ⟨tt, ?_, s2⟩
  rw [S.pushThrowing_eq]
  exact stp tt s1
end JCT

theorem st_callS {p : Program} {l : Launch} {e : Env} {R : Room} {s : State} {m : MethodId} {args : Array Value} {below : List Frame} {meth : Method} {c : Code} {T : State} {locs : List Loc} {cells slots : Nat} (X : Stand p l e R s m args below meth c T locs cells slots) (hexec : p.tables.exec = Jvm.exec) {own : String} {index : Nat} {y : MethodName} {bytes : ByteArray} {maxL : Nat} {ret : Option FieldType} {hs : List (Nat × Nat × Nat × Nat)}
    (hown : s.vm.findClass own = some m.cls) (hlink : (Cond.methodLink own index y).before args s = true) (hstat : (Cond.static y).before args s = true) (hinit : (Cond.initialized y.cls).before args s = true)
    (hcode : (Cond.codeWith y bytes maxL ret hs).before args s = true) (hy : y.cls ≠ "java/lang/invoke/MethodHandle" ∧ y.cls ≠ "java/lang/invoke/VarHandle")
    {S : Spec} {P : Array Value → State → Prop} {Q : Array Value → State → Outcome → State → Prop} (hM : MetFree l y S P (fun _ _ _ _ _ => True) Q) (hfr : S.room.frames + 1 ≤ R.frames) (hlo : 8 + (maxL + 11) + S.room.locals ≤ R.locals) (hce : cells + S.room.cells ≤ R.cells) (hsl : slots + S.room.slots ≤ R.slots)
    (hpre : ∀ (a' : Array Value) (U : State), s.WarmedH U.vm → S.pre.before a' U = true) (hcd : ∀ (a' : Array Value) (U : State), s.WarmedH U.vm → (Cond.codeWith y bytes maxL ret hs).before a' U = true) (hin : ∀ (a' : Array Value) (U : State), s.WarmedH U.vm → (Cond.initialized y.cls).before a' U = true)
    {g : JFrame} (hg : g.method = m) (hsize : g.locals.size = c.maxLocals) {argsL rest : List Value} (hlen : ∀ sig, parseMethodDescriptor y.desc = some sig → argsL.length = sig.parameters.length)
    (hstack : g.stack = argsL.reverse ++ rest) (hW : 2 * g.monitorRoom + (rest.map fun v => v.category).sum ≤ 8) (hdg : decode c.code g.pc = .ok (.invokestatic index, 3))
    (hP : ∀ (vm₁ : Vm) (g' : JFrame) (mk : MethodId), s.WarmedH vm₁ → P argsL.toArray ((T.setVm vm₁).calling g' mk argsL.toArray)) :
    ∃ (vm₁ : Vm) (mk : MethodId) (o : Outcome) (t : State), Stand p l e R s m args below meth c (T.setVm vm₁) locs cells slots ∧ t.status = .running ∧ Ended t (.java { g with stack := rest } :: below) o ∧ Q argsL.toArray ((T.setVm vm₁).calling { g with stack := rest } mk argsL.toArray) o t ∧
      ∀ target, Steps p.tables e below t target → Steps p.tables e below (T.setTop g) target := by
  obtain ⟨mk, methM, cM, hnamed, hmethM, -, -, -, -, -, -, hsigM⟩ := Cond.codeWith_spec hcode
  have hstatic : methM.isStatic = true := Cond.static_spec hnamed hmethM hstat
  obtain ⟨kP, hkP, -⟩ := className_of_methodNamed hnamed
  have hinitP : kP.init = .initialized := Cond.initialized_spec (findClass_of_methodNamed hnamed) hkP hinit
  obtain ⟨vm₁, X₁, hstep₁⟩ := X.invokestatic hexec hown hlink hnamed hmethM hstatic hkP hinitP hy (g := g) hg (argsL := argsL) (rest := rest) (hlen _ hsigM) hstack hdg
  have hn := X₁.named hnamed
  obtain ⟨mY', methY, cY, hnY', hmY, hcY, -, hlY, -, -, -, -⟩ := Cond.codeWith_spec (hcd #[] (T.setVm vm₁) X₁.warmed)
  cases hn.symm.trans hnY'
  obtain ⟨kY, hkY, -⟩ := className_of_methodNamed hn
  have hinitY : kY.init = .initialized := Cond.initialized_spec (findClass_of_methodNamed hn) hkY (hin #[] (T.setVm vm₁) X₁.warmed)
  have h : At (T.setVm vm₁) ({ g with stack := rest } : JFrame).method c below := by rw [show ({ g with stack := rest } : JFrame).method = m from hg]; exact X₁.here
  have happ : S.appliesLoose y e.platform ((T.setVm vm₁).calling { g with stack := rest } mk argsL.toArray) = true :=
    Spec.appliesLoose_calling (g := { g with stack := rest }) h hdg hn hkY hinitY
      (X₁.room_calling (g := { g with stack := rest }) (R' := S.room) hsize hmY hcY hfr (by
        show 2 * g.monitorRoom + (rest.map fun v => v.category).sum + (cY.maxLocals + 11) + S.room.locals ≤ R.locals
        rw [hlY]; omega) hce hsl) (hpre _ _ X₁.warmed)
  obtain ⟨mid, hmid⟩ := h.above
  have hfr2 : ((T.setVm vm₁).setTop { g with stack := rest }).frames = (.java { g with stack := rest } :: mid) ++ below := by rw [State.frames_setTop' _ h.top, hmid]; rfl
  obtain ⟨o, s₂, hsteps, hrun, hend, hq⟩ := Steps.callFree hM p X.admits X.cas X.clock (acts := []) hfr2 happ (hP vm₁ _ mk X₁.warmed) trivial
  rw [State.frames_setTop' _ h.top, X₁.tail] at hend
  exact ⟨vm₁, mk, o, s₂, X₁, hrun, hend, hq, fun target ht => hstep₁ _ fun acts => by rw [doInvoke_state]; exact hsteps.trans ht⟩
def jm_SH (own : String) (index : Nat) (y : MethodName) (bytes : ByteArray) (maxL : Nat) (rt : Option FieldType) (hs : List (Nat × Nat × Nat × Nat)) (n : Nat) : Prop :=
  Cond.methodLink own index y ∈ jw_all ∧ Cond.static y ∈ jw_all ∧ Cond.initialized y.cls ∈ jw_all ∧ Cond.codeWith y bytes maxL rt hs ∈ jw_all ∧ (y.cls ≠ "java/lang/invoke/MethodHandle" ∧ y.cls ≠ "java/lang/invoke/VarHandle" ∧ (parseMethodDescriptor y.desc).map (fun d => d.parameters.length) = some n)
section JLS
variable {X : jx_T} {D : jd_T} {cc : ByteArray} {own : String} {ret : Option FieldType} {cs sl : Nat} {L : List sg_A} {lv : List (Nat × Value)} {pc : Nat} {st : List Value} {α : Type} {E : jg_T α}
/-- a call of a static method with handlers; it does not throw -/
theorem jh_callS {index n : Nat} {y : MethodName} {bytes : ByteArray} {maxL : Nat} {rt : Option FieldType} {hs : List (Nat × Nat × Nat × Nat)} {rm : Room} {As rest : List Value} {v : α → Option Value} (ok : jx_ok X D cc own ret) (hI : jI D (jx_A X) (jx_s X) (jx_s X).heap) (hTT : jT D (jx_A X) (jx_s X) (jx_s X).heap) (hN : jN D (jx_s X)) (hg : jm_SH own index y bytes maxL rt hs n) (hM : jgH_C (jx_l X) D y bytes maxL rt hs rm As L E) (hE : ∀ u, (E u).1 = .returned (v u))
    (hst : st = As.reverse ++ rest) (hn : As.length = n) (hw : (rest.map fun v => v.category).sum ≤ 8) (hR : rm.frames + 1 ≤ (jx_R X).frames ∧ 8 + (maxL + 11) + rm.locals ≤ (jx_R X).locals) (hf : cs + rm.cells ≤ (jx_R X).cells ∧ sl + rm.slots ≤ (jx_R X).slots) (d : decode cc pc = .ok (.invokestatic index, 3))
    (kr : ∀ u, (E u).2.1 → jw X (cs + (E u).2.2.2.1) (sl + (E u).2.2.2.2) (E u).2.2.1 lv (pc + 3) ((v u).toList ++ rest)) : jw X cs sl L lv pc st := by
  intro h H locs ls h1 h2 h3 h4 h5 T0 hT0 S0
  subst hst
  obtain ⟨g1, g2, g3, g4, g5, g6, g7⟩ := hg
  have hwd : ∀ w ∈ jw_all, ∀ (a' : Array Value) (U : State), (jx_s X).WarmedH U.vm → w.before a' U = true := fun w hw a' U hW => word_at hW (good_of_word (List.mem_filter.mp hw).2) (ok.2.2.2.2.1 w hw)
  have hfA := jI_A ok h3 h4
  obtain ⟨vm₁, mk, o, t, X₁, hrun, hend, ⟨mc, ms, ⟨u, h', b1, b2, b3, b4, b5, b6, b7, b8⟩, Lx, w1, w2, w3⟩, hst⟩ := st_callS S0 ok.1 (bytes := bytes) (maxL := maxL) (ret := rt) (hs := hs) ok.2.2.2.1 (ok.2.2.2.2.1 _ g1) (ok.2.2.2.2.1 _ g2) (ok.2.2.2.2.1 _ g3) (ok.2.2.2.2.1 _ g4) ⟨g5, g6⟩ (hM h H.size h1) hR.1 hR.2 hf.1 hf.2
    (fun a' U hW => atoms_intro fun w hw => by
      rcases List.mem_cons.mp hw with z | z
      · subst z; exact hwd _ g4 a' U hW
      · exact hwd _ z a' U hW) (fun a' U hW => hwd _ g4 a' U hW) (fun a' U hW => hwd _ g3 a' U hW)
    (g := F0 (jx_m X) pc ls (As.reverse ++ rest)) rfl (h5.1.trans ok.2.2.1.symm) (argsL := As) (rest := rest) (fun sig hh => by rw [hh] at g7; exact hn.trans (Option.some.inj g7).symm) rfl (lv_room hw) (by rw [ok.2.1]; exact d)
    (fun vm₁ g' mk hW₁ => jgH_Pblind _ (T0.setVm vm₁) _ _ ⟨⟨⟨⟨rfl, by show T0.heap.size = _; rw [hT0], by show sg_in h T0.heap; rw [hT0]; exact h2, jk_K.moved (U := T0.setVm vm₁) hW₁.alike ok.2.2.2.2.2.2.2.1⟩, jI.go (U := T0.setVm vm₁) (H' := (T0.setVm vm₁).heap) hI hW₁ (fun a x y => by show T0.heap[a]? = _; rw [hT0]; exact h4.2.1 a x y) hfA⟩, jT.go (U := T0.setVm vm₁) (H' := (T0.setVm vm₁).heap) hTT hW₁ (fun a x y => by show T0.heap[a]? = _; rw [hT0]; exact h4.2.1 a x y) hfA⟩, jN.go (U := T0.setVm vm₁) hN hW₁⟩)
  subst b7
  subst b8
  have hF2 : va_F (jc_A h H.size) (T0.setVm vm₁) t := b6
  have hS2 : va_S (jx_A X) (jx_s X).heap t.heap (locs ++ Lx) := by
    refine ⟨Nat.le_trans h4.1 (by have := hF2.1; rw [show (T0.setVm vm₁).heap = H from hT0] at this; exact this), fun q z1 z2 => ?_, fun x hx => ?_⟩
    · have z3 : q < H.size := Nat.lt_of_lt_of_le z1 h4.1
      have := hF2.2 q (by rw [show (T0.setVm vm₁).heap = H from hT0]; exact z3) (fun z => z2 (hfA q z))
      rw [this, show (T0.setVm vm₁).heap = H from hT0]; exact h4.2.1 q z1 z2
    · rcases List.mem_append.mp hx with z | z
      · exact h4.2.2 x z
      · exact hfA _ (w3 x z)
  rw [hE u] at b1
  subst b1
  obtain ⟨T', X', -, -, ht⟩ := X₁.outOf (g := { F0 (jx_m X) pc ls (As.reverse ++ rest) with stack := rest }) rfl (by rw [ok.2.1]; exact d) hend w1 w2
  have hh : T'.heap = t.heap := by rw [ht]; exact (State.heap_setTop _ _).symm
  obtain ⟨tt, s1, s2⟩ := kr u b2 h' t.heap (locs ++ Lx) ls b3 b4 (fun q c hqc => hfA q (b5 q c hqc)) hS2 h5 T' hh X'
  exact ⟨tt, hst tt (by rw [ht]; exact s1), s2⟩
end JLS

theorem jgH_frame {l : Launch} {D : jd_T} {y : MethodName} {cc : ByteArray} {nL : Nat} {ret : Option FieldType} {hs : List (Nat × Nat × Nat × Nat)} {rm : Room} {av : List Value} {L : List sg_A} {α : Type} {E : jg_T α} (hM : jgH_C l D y cc nL ret hs rm av L E) (Lr : List sg_A) : jgH_C l D y cc nL ret hs rm av (L ++ Lr) (fun u => ((E u).1, (E u).2.1, (E u).2.2.1 ++ Lr, (E u).2.2.2)) := by
  intro h0 sz hL p e h1 h2 h3 s m args below h4 h5 h6 h7
  obtain ⟨f, g, dj, rfl, hf, hg⟩ := (sg_l_app L Lr h0).mp hL
  obtain ⟨⟨⟨⟨a1, a2, a3, a4⟩, hI⟩, hT⟩, hN⟩ := h6
  have hin2 := (sg_in_un dj).mp a3
  obtain ⟨t, o, k1, k2, k3, mc, ms, ⟨u, h', b1, b2, b3, b4, b5, b6, b7, b8⟩, Lx, w1, w2, w3⟩ := hM f sz hf p e h1 h2 h3 s m args below h4 h5 ⟨⟨⟨⟨a1, a2, hin2.1, a4⟩, jI.go hI (State.WarmedH.refl s) (fun _ _ _ => rfl) fr_A⟩, jT.go hT (State.WarmedH.refl s) (fun _ _ _ => rfl) fr_A⟩, hN⟩ h7
  obtain ⟨r1, r2, r3, r4⟩ := fr_end dj a3 a2 hg b3 b4 b5 b6
  exact ⟨t, o, k1, k2, k3, mc, ms, ⟨u, sg_un h' g, b1, b2, r1, r2, r3, r4, b7, b8⟩, Lx, w1, w2, fun q hq => fr_A _ (w3 q hq)⟩
theorem sg_swap2 (A B C : List sg_A) : ∀ h, sg_l ((A ++ B) ++ C) h → sg_l ((A ++ C) ++ B) h :=
  sg_l_perm (by rw [List.append_assoc, List.append_assoc]; exact List.Perm.append_left A List.perm_append_comm)
section JLW
variable {X : jx_T} {D : jd_T} {cc : ByteArray} {own : String} {ret : Option FieldType} {cs sl : Nat} {L : List sg_A} {lv : List (Nat × Value)} {pc : Nat} {st : List Value}
theorem jwT_ent {a : Nat} {L' : List sg_A} (he : ∀ h, sg_l L h → sg_l L' h) (k : jwT X cs sl L' lv pc st a) : jwT X cs sl L lv pc st a := fun h H locs ls h1 => k h H locs ls (he h h1)
theorem jr_sld {b n : Nat} {xs : Nat → Int32} {j : Int} (ok : jx_ok X D cc own ret) (hX : va_X b n xs (jx_s X) (jx_s X).heap) (hbl : b < (jx_s X).heap.size) (hbA : ¬ jx_A X b) (hn : n ≤ 2147483647) (h0 : 0 ≤ j) (h1 : j < (n : Int)) (d : decode cc pc = .ok (.iaload, 1))
    (kk : jw X cs sl L lv (pc + 1) (.int (ii (xs j.toNat).toInt) :: st)) : jw X cs sl L lv pc (.int (ii j) :: .ref b :: st) := by
  intro h H locs ls a1 a2 a3 a4 a5
  have hiR : iR j := ⟨by omega, by omega⟩
  refine va_sld ok.1 ok.2.1 hX hbl hbA a4 (i := ii j) ?_ d ?_
  · have := ii_in h0 h1 (by omega)
    rw [Int.toNat_natCast] at this
    exact this
  · rw [ii_clamp hiR]
    have z := kk h H locs ls a1 a2 a3 a4 a5
    rw [ii_of] at z
    exact z
theorem jr_slen {b n : Nat} {xs : Nat → Int32} (ok : jx_ok X D cc own ret) (hX : va_X b n xs (jx_s X) (jx_s X).heap) (hbl : b < (jx_s X).heap.size) (hbA : ¬ jx_A X b) (d : decode cc pc = .ok (.arraylength, 1))
    (kk : jw X cs sl L lv (pc + 1) (.int (ii (n : Int)) :: st)) : jw X cs sl L lv pc (.ref b :: st) := by
  intro h H locs ls a1 a2 a3 a4 a5
  exact va_slen ok.1 ok.2.1 hX hbl hbA a4 d (by
    have z := kk h H locs ls a1 a2 a3 a4 a5
    exact z)
end JLW

theorem w_0 : (Jvm.Cond.initialized "WindowTablesLaw") ∈ jw_all := jw_in1 0 rfl rfl
theorem w_307 : (Jvm.Cond.methodLink "WindowTablesLaw" (79 : Nat) ({ cls := "WindowTablesLaw", name := "feed", desc := "(LWindowTables;IIIII[J)I" } : Jvm.MethodName)) ∈ jw_all := jw_in2 67 rfl rfl
theorem w_308 : (Jvm.Cond.static ({ cls := "WindowTablesLaw", name := "feed", desc := "(LWindowTables;IIIII[J)I" } : Jvm.MethodName)) ∈ jw_all := jw_in2 68 rfl rfl
theorem w_309 : (Jvm.Cond.codeWith ({ cls := "WindowTablesLaw", name := "feed", desc := "(LWindowTables;IIIII[J)I" } : Jvm.MethodName) method_3_code (8 : Nat) (Option.some Jvm.ClassFile.FieldType.int) [((0 : Nat), (16 : Nat), (19 : Nat), (13 : Nat))]) ∈ jw_all := jw_in2 69 rfl rfl
theorem w_310 : (Jvm.Cond.classLink "WindowTablesLaw" (13 : Nat) "java/lang/UnsupportedOperationException") ∈ jw_all := jw_in2 70 rfl rfl
theorem w_407 : (Jvm.Cond.methodLink "WindowTablesLaw" (88 : Nat) ({ cls := "WindowTablesLaw", name := "end", desc := "(LWindowTables;I)I" } : Jvm.MethodName)) ∈ jw_all := jw_in2 167 rfl rfl
theorem w_408 : (Jvm.Cond.static ({ cls := "WindowTablesLaw", name := "end", desc := "(LWindowTables;I)I" } : Jvm.MethodName)) ∈ jw_all := jw_in2 168 rfl rfl
theorem w_409 : (Jvm.Cond.codeWith ({ cls := "WindowTablesLaw", name := "end", desc := "(LWindowTables;I)I" } : Jvm.MethodName) method_4_code (3 : Nat) (Option.some Jvm.ClassFile.FieldType.int) [((0 : Nat), (5 : Nat), (8 : Nat), (19 : Nat))]) ∈ jw_all := jw_in2 169 rfl rfl
theorem w_410 : (Jvm.Cond.classLink "WindowTablesLaw" (19 : Nat) "java/lang/IllegalArgumentException") ∈ jw_all := jw_in2 170 rfl rfl
theorem w_435 : (Jvm.Cond.methodLink "WindowTablesLaw" (92 : Nat) ({ cls := "WindowTablesLaw", name := "series", desc := "(LWindowTables;[J)I" } : Jvm.MethodName)) ∈ jw_all := jw_in2 195 rfl rfl
theorem w_436 : (Jvm.Cond.static ({ cls := "WindowTablesLaw", name := "series", desc := "(LWindowTables;[J)I" } : Jvm.MethodName)) ∈ jw_all := jw_in2 196 rfl rfl
theorem w_437 : (Jvm.Cond.codeWith ({ cls := "WindowTablesLaw", name := "series", desc := "(LWindowTables;[J)I" } : Jvm.MethodName) method_5_code (3 : Nat) (Option.some Jvm.ClassFile.FieldType.int) [((0 : Nat), (8 : Nat), (11 : Nat), (13 : Nat))]) ∈ jw_all := jw_in2 197 rfl rfl
theorem w_577 : (Jvm.Cond.methodLink "WindowTablesLaw" (96 : Nat) ({ cls := "WindowTablesLaw", name := "fault", desc := "(LWindowTables;I[J)I" } : Jvm.MethodName)) ∈ jw_all := jw_in3 97 rfl rfl
theorem w_578 : (Jvm.Cond.static ({ cls := "WindowTablesLaw", name := "fault", desc := "(LWindowTables;I[J)I" } : Jvm.MethodName)) ∈ jw_all := jw_in3 98 rfl rfl
theorem w_579 : (Jvm.Cond.codeWith ({ cls := "WindowTablesLaw", name := "fault", desc := "(LWindowTables;I[J)I" } : Jvm.MethodName) method_6_code (4 : Nat) (Option.some Jvm.ClassFile.FieldType.int) [((0 : Nat), (9 : Nat), (12 : Nat), (29 : Nat))]) ∈ jw_all := jw_in3 99 rfl rfl
theorem w_580 : (Jvm.Cond.classLink "WindowTablesLaw" (29 : Nat) "java/lang/IndexOutOfBoundsException") ∈ jw_all := jw_in3 100 rfl rfl
theorem w_601 : (Jvm.Cond.methodLink "WindowTablesLaw" (100 : Nat) ({ cls := "WindowTablesLaw", name := "letter", desc := "(LWindowTables;II[J)I" } : Jvm.MethodName)) ∈ jw_all := jw_in3 121 rfl rfl
theorem w_602 : (Jvm.Cond.static ({ cls := "WindowTablesLaw", name := "letter", desc := "(LWindowTables;II[J)I" } : Jvm.MethodName)) ∈ jw_all := jw_in3 122 rfl rfl
theorem w_603 : (Jvm.Cond.codeWith ({ cls := "WindowTablesLaw", name := "letter", desc := "(LWindowTables;II[J)I" } : Jvm.MethodName) method_7_code (5 : Nat) (Option.some Jvm.ClassFile.FieldType.int) [((0 : Nat), (10 : Nat), (13 : Nat), (29 : Nat))]) ∈ jw_all := jw_in3 123 rfl rfl
theorem w_618 : (Jvm.Cond.methodLink "WindowTablesLaw" (106 : Nat) ({ cls := "WindowTablesLaw", name := "append", desc := "(LWindowTables;IJJ[J)I" } : Jvm.MethodName)) ∈ jw_all := jw_in3 138 rfl rfl
theorem w_619 : (Jvm.Cond.static ({ cls := "WindowTablesLaw", name := "append", desc := "(LWindowTables;IJJ[J)I" } : Jvm.MethodName)) ∈ jw_all := jw_in3 139 rfl rfl
theorem w_620 : (Jvm.Cond.codeWith ({ cls := "WindowTablesLaw", name := "append", desc := "(LWindowTables;IJJ[J)I" } : Jvm.MethodName) method_8_code (8 : Nat) (Option.some Jvm.ClassFile.FieldType.int) [((0 : Nat), (13 : Nat), (16 : Nat), (29 : Nat)), ((0 : Nat), (13 : Nat), (20 : Nat), (19 : Nat)), ((0 : Nat), (13 : Nat), (24 : Nat), (13 : Nat))]) ∈ jw_all := jw_in3 140 rfl rfl
theorem w_671 : (Jvm.Cond.methodLink "WindowTablesLaw" (110 : Nat) ({ cls := "WindowTablesLaw", name := "bulk", desc := "(LWindowTables;I[J)I" } : Jvm.MethodName)) ∈ jw_all := jw_in3 191 rfl rfl
theorem w_672 : (Jvm.Cond.static ({ cls := "WindowTablesLaw", name := "bulk", desc := "(LWindowTables;I[J)I" } : Jvm.MethodName)) ∈ jw_all := jw_in3 192 rfl rfl
theorem w_673 : (Jvm.Cond.codeWith ({ cls := "WindowTablesLaw", name := "bulk", desc := "(LWindowTables;I[J)I" } : Jvm.MethodName) method_9_code (4 : Nat) (Option.some Jvm.ClassFile.FieldType.int) [((0 : Nat), (9 : Nat), (12 : Nat), (29 : Nat))]) ∈ jw_all := jw_in3 193 rfl rfl
theorem w_682 : (Jvm.Cond.methodLink "WindowTablesLaw" (113 : Nat) ({ cls := "WindowTablesLaw", name := "delete", desc := "(LWindowTables;IJJ[J)I" } : Jvm.MethodName)) ∈ jw_all := jw_in3 202 rfl rfl
theorem w_683 : (Jvm.Cond.static ({ cls := "WindowTablesLaw", name := "delete", desc := "(LWindowTables;IJJ[J)I" } : Jvm.MethodName)) ∈ jw_all := jw_in3 203 rfl rfl
theorem w_684 : (Jvm.Cond.codeWith ({ cls := "WindowTablesLaw", name := "delete", desc := "(LWindowTables;IJJ[J)I" } : Jvm.MethodName) method_10_code (8 : Nat) (Option.some Jvm.ClassFile.FieldType.int) [((0 : Nat), (13 : Nat), (16 : Nat), (29 : Nat)), ((0 : Nat), (13 : Nat), (20 : Nat), (19 : Nat)), ((0 : Nat), (13 : Nat), (24 : Nat), (13 : Nat))]) ∈ jw_all := jw_in3 204 rfl rfl
theorem w_727 : (Jvm.Cond.methodLink "WindowTablesLaw" (116 : Nat) ({ cls := "WindowTablesLaw", name := "retain", desc := "(LWindowTables;J[J)I" } : Jvm.MethodName)) ∈ jw_all := jw_in4 7 rfl rfl
theorem w_728 : (Jvm.Cond.static ({ cls := "WindowTablesLaw", name := "retain", desc := "(LWindowTables;J[J)I" } : Jvm.MethodName)) ∈ jw_all := jw_in4 8 rfl rfl
theorem w_729 : (Jvm.Cond.codeWith ({ cls := "WindowTablesLaw", name := "retain", desc := "(LWindowTables;J[J)I" } : Jvm.MethodName) method_11_code (5 : Nat) (Option.some Jvm.ClassFile.FieldType.int) [((0 : Nat), (9 : Nat), (12 : Nat), (19 : Nat))]) ∈ jw_all := jw_in4 9 rfl rfl
theorem w_747 : (Jvm.Cond.methodLink "WindowTablesLaw" (120 : Nat) ({ cls := "WindowTablesLaw", name := "ask", desc := "(LWindowTables;JJI[J)I" } : Jvm.MethodName)) ∈ jw_all := jw_in4 27 rfl rfl
theorem w_748 : (Jvm.Cond.static ({ cls := "WindowTablesLaw", name := "ask", desc := "(LWindowTables;JJI[J)I" } : Jvm.MethodName)) ∈ jw_all := jw_in4 28 rfl rfl
theorem w_749 : (Jvm.Cond.codeWith ({ cls := "WindowTablesLaw", name := "ask", desc := "(LWindowTables;JJI[J)I" } : Jvm.MethodName) method_12_code (8 : Nat) (Option.some Jvm.ClassFile.FieldType.int) [((0 : Nat), (13 : Nat), (16 : Nat), (19 : Nat))]) ∈ jw_all := jw_in4 29 rfl rfl
theorem w_1257 : (Jvm.Cond.methodLink "WindowTablesLaw" (128 : Nat) ({ cls := "WindowTablesLaw", name := "text", desc := "(LWindowTables;III[J)I" } : Jvm.MethodName)) ∈ jw_all := jw_in6 57 rfl rfl
theorem w_1258 : (Jvm.Cond.static ({ cls := "WindowTablesLaw", name := "text", desc := "(LWindowTables;III[J)I" } : Jvm.MethodName)) ∈ jw_all := jw_in6 58 rfl rfl
theorem w_1259 : (Jvm.Cond.codeWith ({ cls := "WindowTablesLaw", name := "text", desc := "(LWindowTables;III[J)I" } : Jvm.MethodName) method_13_code (6 : Nat) (Option.some Jvm.ClassFile.FieldType.int) [((0 : Nat), (12 : Nat), (15 : Nat), (29 : Nat))]) ∈ jw_all := jw_in6 59 rfl rfl
theorem w_1276 : (Jvm.Cond.methodLink "WindowTablesLaw" (132 : Nat) ({ cls := "WindowTablesLaw", name := "isThere", desc := "(LWindowTables;II[J)I" } : Jvm.MethodName)) ∈ jw_all := jw_in6 76 rfl rfl
theorem w_1277 : (Jvm.Cond.static ({ cls := "WindowTablesLaw", name := "isThere", desc := "(LWindowTables;II[J)I" } : Jvm.MethodName)) ∈ jw_all := jw_in6 77 rfl rfl
theorem w_1278 : (Jvm.Cond.codeWith ({ cls := "WindowTablesLaw", name := "isThere", desc := "(LWindowTables;II[J)I" } : Jvm.MethodName) method_14_code (5 : Nat) (Option.some Jvm.ClassFile.FieldType.int) [((0 : Nat), (17 : Nat), (20 : Nat), (29 : Nat))]) ∈ jw_all := jw_in6 78 rfl rfl
theorem w_1294 : (Jvm.Cond.methodLink "WindowTablesLaw" (135 : Nat) ({ cls := "WindowTablesLaw", name := "cell", desc := "(LWindowTables;II[J)I" } : Jvm.MethodName)) ∈ jw_all := jw_in6 94 rfl rfl
theorem w_1295 : (Jvm.Cond.static ({ cls := "WindowTablesLaw", name := "cell", desc := "(LWindowTables;II[J)I" } : Jvm.MethodName)) ∈ jw_all := jw_in6 95 rfl rfl
theorem w_1296 : (Jvm.Cond.codeWith ({ cls := "WindowTablesLaw", name := "cell", desc := "(LWindowTables;II[J)I" } : Jvm.MethodName) method_15_code (5 : Nat) (Option.some Jvm.ClassFile.FieldType.int) [((0 : Nat), (9 : Nat), (12 : Nat), (29 : Nat))]) ∈ jw_all := jw_in6 96 rfl rfl
theorem w_1302 : (Jvm.Cond.methodLink "WindowTablesLaw" (138 : Nat) ({ cls := "WindowTablesLaw", name := "last", desc := "(LWindowTables;I[J)I" } : Jvm.MethodName)) ∈ jw_all := jw_in6 102 rfl rfl
theorem w_1303 : (Jvm.Cond.static ({ cls := "WindowTablesLaw", name := "last", desc := "(LWindowTables;I[J)I" } : Jvm.MethodName)) ∈ jw_all := jw_in6 103 rfl rfl
theorem w_1304 : (Jvm.Cond.codeWith ({ cls := "WindowTablesLaw", name := "last", desc := "(LWindowTables;I[J)I" } : Jvm.MethodName) method_16_code (4 : Nat) (Option.some Jvm.ClassFile.FieldType.int) [((0 : Nat), (8 : Nat), (11 : Nat), (29 : Nat))]) ∈ jw_all := jw_in6 104 rfl rfl
theorem w_1310 : (Jvm.Cond.methodLink "WindowTablesLaw" (141 : Nat) ({ cls := "WindowTablesLaw", name := "pack", desc := "(LWindowTables;[J)I" } : Jvm.MethodName)) ∈ jw_all := jw_in6 110 rfl rfl
theorem w_1311 : (Jvm.Cond.static ({ cls := "WindowTablesLaw", name := "pack", desc := "(LWindowTables;[J)I" } : Jvm.MethodName)) ∈ jw_all := jw_in6 111 rfl rfl
theorem w_1312 : (Jvm.Cond.codeWith ({ cls := "WindowTablesLaw", name := "pack", desc := "(LWindowTables;[J)I" } : Jvm.MethodName) method_17_code (3 : Nat) (Option.some Jvm.ClassFile.FieldType.int) [((0 : Nat), (8 : Nat), (11 : Nat), (13 : Nat))]) ∈ jw_all := jw_in6 112 rfl rfl
theorem w_1330 : (Jvm.Cond.methodLink "WindowTablesLaw" (144 : Nat) ({ cls := "WindowTablesLaw", name := "count", desc := "(LWindowTables;I[J)I" } : Jvm.MethodName)) ∈ jw_all := jw_in6 130 rfl rfl
theorem w_1331 : (Jvm.Cond.static ({ cls := "WindowTablesLaw", name := "count", desc := "(LWindowTables;I[J)I" } : Jvm.MethodName)) ∈ jw_all := jw_in6 131 rfl rfl
theorem w_1332 : (Jvm.Cond.codeWith ({ cls := "WindowTablesLaw", name := "count", desc := "(LWindowTables;I[J)I" } : Jvm.MethodName) method_18_code (4 : Nat) (Option.some Jvm.ClassFile.FieldType.int) [((0 : Nat), (9 : Nat), (12 : Nat), (19 : Nat))]) ∈ jw_all := jw_in6 132 rfl rfl
theorem m_La_79 : jm_SH "WindowTablesLaw" 79 y_La_feed b_La_feed 8 (some .int) [(0, 16, 19, 13)] 7 := ⟨w_307, w_308, w_0, w_309, by decide +kernel⟩
theorem m_La_88 : jm_SH "WindowTablesLaw" 88 y_La_end b_La_end 3 (some .int) [(0, 5, 8, 19)] 2 := ⟨w_407, w_408, w_0, w_409, by decide +kernel⟩
theorem m_La_92 : jm_SH "WindowTablesLaw" 92 y_La_series b_La_series 3 (some .int) [(0, 8, 11, 13)] 2 := ⟨w_435, w_436, w_0, w_437, by decide +kernel⟩
theorem m_La_96 : jm_SH "WindowTablesLaw" 96 y_La_fault b_La_fault 4 (some .int) [(0, 9, 12, 29)] 3 := ⟨w_577, w_578, w_0, w_579, by decide +kernel⟩
theorem m_La_100 : jm_SH "WindowTablesLaw" 100 y_La_letter b_La_letter 5 (some .int) [(0, 10, 13, 29)] 4 := ⟨w_601, w_602, w_0, w_603, by decide +kernel⟩
theorem m_La_106 : jm_SH "WindowTablesLaw" 106 y_La_append b_La_append 8 (some .int) [(0, 13, 16, 29), (0, 13, 20, 19), (0, 13, 24, 13)] 5 := ⟨w_618, w_619, w_0, w_620, by decide +kernel⟩
theorem m_La_110 : jm_SH "WindowTablesLaw" 110 y_La_bulk b_La_bulk 4 (some .int) [(0, 9, 12, 29)] 3 := ⟨w_671, w_672, w_0, w_673, by decide +kernel⟩
theorem m_La_113 : jm_SH "WindowTablesLaw" 113 y_La_delete b_La_delete 8 (some .int) [(0, 13, 16, 29), (0, 13, 20, 19), (0, 13, 24, 13)] 5 := ⟨w_682, w_683, w_0, w_684, by decide +kernel⟩
theorem m_La_116 : jm_SH "WindowTablesLaw" 116 y_La_retain b_La_retain 5 (some .int) [(0, 9, 12, 19)] 3 := ⟨w_727, w_728, w_0, w_729, by decide +kernel⟩
theorem m_La_120 : jm_SH "WindowTablesLaw" 120 y_La_ask b_La_ask 8 (some .int) [(0, 13, 16, 19)] 5 := ⟨w_747, w_748, w_0, w_749, by decide +kernel⟩
theorem m_La_128 : jm_SH "WindowTablesLaw" 128 y_La_text b_La_text 6 (some .int) [(0, 12, 15, 29)] 5 := ⟨w_1257, w_1258, w_0, w_1259, by decide +kernel⟩
theorem m_La_132 : jm_SH "WindowTablesLaw" 132 y_La_isThere b_La_isThere 5 (some .int) [(0, 17, 20, 29)] 4 := ⟨w_1276, w_1277, w_0, w_1278, by decide +kernel⟩
theorem m_La_135 : jm_SH "WindowTablesLaw" 135 y_La_cell1 b_La_cell1 5 (some .int) [(0, 9, 12, 29)] 4 := ⟨w_1294, w_1295, w_0, w_1296, by decide +kernel⟩
theorem m_La_138 : jm_SH "WindowTablesLaw" 138 y_La_last b_La_last 4 (some .int) [(0, 8, 11, 29)] 3 := ⟨w_1302, w_1303, w_0, w_1304, by decide +kernel⟩
theorem m_La_141 : jm_SH "WindowTablesLaw" 141 y_La_pack b_La_pack 3 (some .int) [(0, 8, 11, 13)] 2 := ⟨w_1310, w_1311, w_0, w_1312, by decide +kernel⟩
theorem m_La_144 : jm_SH "WindowTablesLaw" 144 y_La_count b_La_count 4 (some .int) [(0, 9, 12, 19)] 3 := ⟨w_1330, w_1331, w_0, w_1332, by decide +kernel⟩

set_option maxHeartbeats 4000000 in
set_option maxRecDepth 100000 in
theorem h_La_feed (l : Launch) (hnt : jl_nt l) (D : jd_T) (g : Nat → Nat) (A0 : AW) (C0 : CW) (S : WS) (o : Nat) (fo : Int → Int64) (v1 : Int) (v2 : Int) (v3 : Int) (v4 : Int) (v5 : Int) (t : Int) (r : Int) (c9 : CW) (S9 : WS) (k : Int) (f9 : Int → Int64) (hs : s_WT_feed C0 S v1 v2 v3 v4 v5 = some ((t, r), c9, S9)) (hk : (t = 0 ∧ k = 0 ∧ f9 = (fun j => if j = 0 then ll (w32 r) else fo j)) ∨ (t = 1 ∧ k = 1 ∧ fo = f9)) : jgH_C l D y_La_feed b_La_feed 8 (some .int) [(0, 16, 19, 13)] { frames := 7, cells := C0.bc, slots := C0.bs, locals := 115 } [.ref (g 0), .int (ii v1), .int (ii v2), .int (ii v3), .int (ii v4), .int (ii v5), .ref o] (wtL D g A0 C0 S ++ [al D 2 o 1 fo]) (fun A : AW => (.returned (some (.int (ii k))), c9.bc ≤ C0.bc ∧ c9.bs ≤ C0.bs, wtL D g A c9 S9 ++ [al D 2 o 1 f9], C0.bc - c9.bc, C0.bs - c9.bs)) := by
  refine jgH_of rfl (Nat.le_of_ble_eq_true rfl) ?_
  intro X hl hR hN ok hI hTT hNN hhs fin
  subst hl
  show jw X 0 0 (wtL D g A0 C0 S ++ [al D 2 o 1 fo]) [(0, .ref (g 0)), (1, .int (ii v1)), (2, .int (ii v2)), (3, .int (ii v3)), (4, .int (ii v4)), (5, .int (ii v5)), (6, .ref o)] 0 []
  refine jr_aload ok 6 d_La_feed_0 rfl ?_
  refine jr_iconst ok d_La_feed_2 ?_
  refine jr_aload_n ok 0 d_La_feed_3 rfl rfl ?_
  refine jr_iload_n ok 1 d_La_feed_4 rfl rfl ?_
  refine jr_iload_n ok 2 d_La_feed_5 rfl rfl ?_
  refine jr_iload_n ok 3 d_La_feed_6 rfl rfl ?_
  refine jr_iload ok 4 d_La_feed_7 rfl ?_
  refine jr_iload ok 5 d_La_feed_9 rfl ?_
  rcases hk with ⟨rfl, rfl, rfl⟩ | ⟨rfl, rfl, rfl⟩
  · skip
    refine jh_callT ok hI hTT m_La_7 (jgT_frame (r_WT_feed (jx_l X) hnt D g A0 C0 S v1 v2 v3 v4 v5 0 r c9 S9 hs) [al D 2 o 1 fo]) (sg_atk 0 rfl) rfl rfl rfl (Nat.le_of_ble_eq_true rfl) ⟨by rw [hR]; exact Nat.le_of_ble_eq_true rfl, by rw [hR]; exact Nat.le_of_ble_eq_true rfl⟩ ⟨by rw [hR]; exact Nat.le_of_eq (Nat.zero_add _), by rw [hR]; exact Nat.le_of_eq (Nat.zero_add _)⟩ d_La_feed_11 (fun u v ho hφ => ?_) (fun u a ho _ => by cases (show Outcome.returned _ = Outcome.threw a from ho))
    cases (show Outcome.returned (some (.int (ii r))) = Outcome.returned v from ho)
    show jw X (0 + (C0.bc - c9.bc)) (0 + (C0.bs - c9.bs)) ((wtL D g u.1 c9 S9 ++ []) ++ [al D 2 o 1 fo]) [(0, .ref (g 0)), (1, .int (ii v1)), (2, .int (ii v2)), (3, .int (ii v3)), (4, .int (ii v4)), (5, .int (ii v5)), (6, .ref o)] 14 [.int (ii r), .int (ii 0), .ref o]
    rw [List.append_nil]
    refine jr_wi2l ok rfl d_La_feed_14 ?_
    refine jr_last (wtL D g u.1 c9 S9 ++ [al D 2 o 1 (fun j => if j = 0 then ll (w32 r) else fo j)]) ok 24 rfl rfl (by decide) (by decide) rfl d_La_feed_15 ?_
    refine jr_goto 23 ok d_La_feed_16 (by decide) ?_
    refine jr_iconst ok d_La_feed_23 ?_
    exact jr_iret ok (jg_at fin u.1) (Nat.le_of_eq (Nat.zero_add _)) (Nat.le_of_eq (Nat.zero_add _)) () rfl hφ.1 sg_same d_La_feed_24
  · skip
    refine jh_callT ok hI hTT m_La_7 (jgT_frame (r_WT_feed (jx_l X) hnt D g A0 C0 S v1 v2 v3 v4 v5 1 r c9 S9 hs) [al D 2 o 1 fo]) (sg_atk 0 rfl) rfl rfl rfl (Nat.le_of_ble_eq_true rfl) ⟨by rw [hR]; exact Nat.le_of_ble_eq_true rfl, by rw [hR]; exact Nat.le_of_ble_eq_true rfl⟩ ⟨by rw [hR]; exact Nat.le_of_eq (Nat.zero_add _), by rw [hR]; exact Nat.le_of_eq (Nat.zero_add _)⟩ d_La_feed_11 (fun u v ho _ => by cases (show Outcome.threw _ = Outcome.returned v from ho)) (fun u a ho hφ => ?_)
    cases (show Outcome.threw u.2 = Outcome.threw a from ho)
    show jwT X (0 + (C0.bc - c9.bc)) (0 + (C0.bs - c9.bs)) ((wtL D g u.1 c9 S9 ++ [xc D u.2 0]) ++ [al D 2 o 1 fo]) [(0, .ref (g 0)), (1, .int (ii v1)), (2, .int (ii v2)), (3, .int (ii v3)), (4, .int (ii v4)), (5, .int (ii v5)), (6, .ref o)] 11 [.int (ii 0), .ref o] u.2
    refine jwT_ent (sg_swap2 _ _ _) ?_
    refine jwT_caught [] (0, 16, 19, 13) [] [(0, 16, 19, 13)] (fun i => if i = 13 then 0 else if i = 19 then 1 else 2) ok hTT hNN hhs rfl (by decide) rfl (fun _ h => absurd h List.not_mem_nil) (by decide) (by decide) w_310 rfl ?_
    refine jr_dropR _ ?_
    refine jr_astore [(7, .ref u.2), (0, .ref (g 0)), (1, .int (ii v1)), (2, .int (ii v2)), (3, .int (ii v3)), (4, .int (ii v4)), (5, .int (ii v5)), (6, .ref o)] ok d_La_feed_19 (by rw [hN]; decide) rfl ?_
    refine jr_iconst ok d_La_feed_21 ?_
    exact jr_iret ok (jg_at fin u.1) (Nat.le_of_eq (Nat.zero_add _)) (Nat.le_of_eq (Nat.zero_add _)) () rfl hφ.1 sg_same d_La_feed_22

set_option maxHeartbeats 4000000 in
set_option maxRecDepth 100000 in
theorem h_La_end (l : Launch) (hnt : jl_nt l) (D : jd_T) (g : Nat → Nat) (A0 : AW) (C0 : CW) (S : WS) (o : Nat) (fo : Int → Int64) (v1 : Int) (t : Int) (r : Unit) (c9 : CW) (S9 : WS) (k : Int) (f9 : Int → Int64) (hs : s_WT_end C0 S v1 = some ((t, r), c9, S9)) (hk : (t = 0 ∧ k = 0 ∧ fo = f9) ∨ (t = 2 ∧ k = 1 ∧ fo = f9)) : jgH_C l D y_La_end b_La_end 3 (some .int) [(0, 5, 8, 19)] { frames := 7, cells := C0.bc, slots := C0.bs, locals := 111 } [.ref (g 0), .int (ii v1)] (wtL D g A0 C0 S ++ [al D 2 o 1 fo]) (fun A : AW => (.returned (some (.int (ii k))), c9.bc ≤ C0.bc ∧ c9.bs ≤ C0.bs, wtL D g A c9 S9 ++ [al D 2 o 1 f9], C0.bc - c9.bc, C0.bs - c9.bs)) := by
  refine jgH_of rfl (Nat.le_of_ble_eq_true rfl) ?_
  intro X hl hR hN ok hI hTT hNN hhs fin
  subst hl
  show jw X 0 0 (wtL D g A0 C0 S ++ [al D 2 o 1 fo]) [(0, .ref (g 0)), (1, .int (ii v1))] 0 []
  refine jr_aload_n ok 0 d_La_end_0 rfl rfl ?_
  refine jr_iload_n ok 1 d_La_end_1 rfl rfl ?_
  rcases hk with ⟨rfl, rfl, rfl⟩ | ⟨rfl, rfl, rfl⟩
  · skip
    refine jh_callT ok hI hTT m_La_15 (jgT_frame (r_WT_end (jx_l X) hnt D g A0 C0 S v1 0 r c9 S9 hs) [al D 2 o 1 fo]) (sg_atk 0 rfl) rfl rfl rfl (Nat.le_of_ble_eq_true rfl) ⟨by rw [hR]; exact Nat.le_of_ble_eq_true rfl, by rw [hR]; exact Nat.le_of_ble_eq_true rfl⟩ ⟨by rw [hR]; exact Nat.le_of_eq (Nat.zero_add _), by rw [hR]; exact Nat.le_of_eq (Nat.zero_add _)⟩ d_La_end_2 (fun u v ho hφ => ?_) (fun u a ho _ => by cases (show Outcome.returned _ = Outcome.threw a from ho))
    cases (show Outcome.returned (none) = Outcome.returned v from ho)
    show jw X (0 + (C0.bc - c9.bc)) (0 + (C0.bs - c9.bs)) ((wtL D g u.1 c9 S9 ++ []) ++ [al D 2 o 1 fo]) [(0, .ref (g 0)), (1, .int (ii v1))] 5 []
    rw [List.append_nil]
    refine jr_goto 11 ok d_La_end_5 (by decide) ?_
    refine jr_iconst ok d_La_end_11 ?_
    exact jr_iret ok (jg_at fin u.1) (Nat.le_of_eq (Nat.zero_add _)) (Nat.le_of_eq (Nat.zero_add _)) () rfl hφ.1 sg_same d_La_end_12
  · skip
    refine jh_callT ok hI hTT m_La_15 (jgT_frame (r_WT_end (jx_l X) hnt D g A0 C0 S v1 2 r c9 S9 hs) [al D 2 o 1 fo]) (sg_atk 0 rfl) rfl rfl rfl (Nat.le_of_ble_eq_true rfl) ⟨by rw [hR]; exact Nat.le_of_ble_eq_true rfl, by rw [hR]; exact Nat.le_of_ble_eq_true rfl⟩ ⟨by rw [hR]; exact Nat.le_of_eq (Nat.zero_add _), by rw [hR]; exact Nat.le_of_eq (Nat.zero_add _)⟩ d_La_end_2 (fun u v ho _ => by cases (show Outcome.threw _ = Outcome.returned v from ho)) (fun u a ho hφ => ?_)
    cases (show Outcome.threw u.2 = Outcome.threw a from ho)
    show jwT X (0 + (C0.bc - c9.bc)) (0 + (C0.bs - c9.bs)) ((wtL D g u.1 c9 S9 ++ [xc D u.2 1]) ++ [al D 2 o 1 fo]) [(0, .ref (g 0)), (1, .int (ii v1))] 2 [] u.2
    refine jwT_ent (sg_swap2 _ _ _) ?_
    refine jwT_caught [] (0, 5, 8, 19) [] [(0, 5, 8, 19)] (fun i => if i = 13 then 0 else if i = 19 then 1 else 2) ok hTT hNN hhs rfl (by decide) rfl (fun _ h => absurd h List.not_mem_nil) (by decide) (by decide) w_410 rfl ?_
    refine jr_dropR _ ?_
    refine jr_astore_n [(2, .ref u.2), (0, .ref (g 0)), (1, .int (ii v1))] ok d_La_end_8 rfl (by rw [hN]; decide) rfl ?_
    refine jr_iconst ok d_La_end_9 ?_
    exact jr_iret ok (jg_at fin u.1) (Nat.le_of_eq (Nat.zero_add _)) (Nat.le_of_eq (Nat.zero_add _)) () rfl hφ.1 sg_same d_La_end_10

set_option maxHeartbeats 4000000 in
set_option maxRecDepth 100000 in
theorem h_La_series (l : Launch) (hnt : jl_nt l) (D : jd_T) (g : Nat → Nat) (A0 : AW) (C0 : CW) (S : WS) (o : Nat) (fo : Int → Int64) (t : Int) (r : Int) (c9 : CW) (S9 : WS) (k : Int) (f9 : Int → Int64) (hs : s_WT_series C0 S = some ((t, r), c9, S9)) (hk : (t = 0 ∧ k = 0 ∧ f9 = (fun j => if j = 0 then ll (w32 r) else fo j)) ∨ (t = 1 ∧ k = 1 ∧ fo = f9)) : jgH_C l D y_La_series b_La_series 3 (some .int) [(0, 8, 11, 13)] { frames := 7, cells := C0.bc, slots := C0.bs, locals := 144 } [.ref (g 0), .ref o] (wtL D g A0 C0 S ++ [al D 2 o 1 fo]) (fun A : AW => (.returned (some (.int (ii k))), c9.bc ≤ C0.bc ∧ c9.bs ≤ C0.bs, wtL D g A c9 S9 ++ [al D 2 o 1 f9], C0.bc - c9.bc, C0.bs - c9.bs)) := by
  refine jgH_of rfl (Nat.le_of_ble_eq_true rfl) ?_
  intro X hl hR hN ok hI hTT hNN hhs fin
  subst hl
  show jw X 0 0 (wtL D g A0 C0 S ++ [al D 2 o 1 fo]) [(0, .ref (g 0)), (1, .ref o)] 0 []
  refine jr_aload_n ok 1 d_La_series_0 rfl rfl ?_
  refine jr_iconst ok d_La_series_1 ?_
  refine jr_aload_n ok 0 d_La_series_2 rfl rfl ?_
  rcases hk with ⟨rfl, rfl, rfl⟩ | ⟨rfl, rfl, rfl⟩
  · skip
    refine jh_callT ok hI hTT m_La_21 (jgT_frame (r_WT_series (jx_l X) hnt D g A0 C0 S 0 r c9 S9 hs) [al D 2 o 1 fo]) (sg_atk 0 rfl) rfl rfl rfl (Nat.le_of_ble_eq_true rfl) ⟨by rw [hR]; exact Nat.le_of_ble_eq_true rfl, by rw [hR]; exact Nat.le_of_ble_eq_true rfl⟩ ⟨by rw [hR]; exact Nat.le_of_eq (Nat.zero_add _), by rw [hR]; exact Nat.le_of_eq (Nat.zero_add _)⟩ d_La_series_3 (fun u v ho hφ => ?_) (fun u a ho _ => by cases (show Outcome.returned _ = Outcome.threw a from ho))
    cases (show Outcome.returned (some (.int (ii r))) = Outcome.returned v from ho)
    show jw X (0 + (C0.bc - c9.bc)) (0 + (C0.bs - c9.bs)) ((wtL D g u.1 c9 S9 ++ []) ++ [al D 2 o 1 fo]) [(0, .ref (g 0)), (1, .ref o)] 6 [.int (ii r), .int (ii 0), .ref o]
    rw [List.append_nil]
    refine jr_wi2l ok rfl d_La_series_6 ?_
    refine jr_last (wtL D g u.1 c9 S9 ++ [al D 2 o 1 (fun j => if j = 0 then ll (w32 r) else fo j)]) ok 24 rfl rfl (by decide) (by decide) rfl d_La_series_7 ?_
    refine jr_goto 14 ok d_La_series_8 (by decide) ?_
    refine jr_iconst ok d_La_series_14 ?_
    exact jr_iret ok (jg_at fin u.1) (Nat.le_of_eq (Nat.zero_add _)) (Nat.le_of_eq (Nat.zero_add _)) () rfl hφ.1 sg_same d_La_series_15
  · skip
    refine jh_callT ok hI hTT m_La_21 (jgT_frame (r_WT_series (jx_l X) hnt D g A0 C0 S 1 r c9 S9 hs) [al D 2 o 1 fo]) (sg_atk 0 rfl) rfl rfl rfl (Nat.le_of_ble_eq_true rfl) ⟨by rw [hR]; exact Nat.le_of_ble_eq_true rfl, by rw [hR]; exact Nat.le_of_ble_eq_true rfl⟩ ⟨by rw [hR]; exact Nat.le_of_eq (Nat.zero_add _), by rw [hR]; exact Nat.le_of_eq (Nat.zero_add _)⟩ d_La_series_3 (fun u v ho _ => by cases (show Outcome.threw _ = Outcome.returned v from ho)) (fun u a ho hφ => ?_)
    cases (show Outcome.threw u.2 = Outcome.threw a from ho)
    show jwT X (0 + (C0.bc - c9.bc)) (0 + (C0.bs - c9.bs)) ((wtL D g u.1 c9 S9 ++ [xc D u.2 0]) ++ [al D 2 o 1 fo]) [(0, .ref (g 0)), (1, .ref o)] 3 [.int (ii 0), .ref o] u.2
    refine jwT_ent (sg_swap2 _ _ _) ?_
    refine jwT_caught [] (0, 8, 11, 13) [] [(0, 8, 11, 13)] (fun i => if i = 13 then 0 else if i = 19 then 1 else 2) ok hTT hNN hhs rfl (by decide) rfl (fun _ h => absurd h List.not_mem_nil) (by decide) (by decide) w_310 rfl ?_
    refine jr_dropR _ ?_
    refine jr_astore_n [(2, .ref u.2), (0, .ref (g 0)), (1, .ref o)] ok d_La_series_11 rfl (by rw [hN]; decide) rfl ?_
    refine jr_iconst ok d_La_series_12 ?_
    exact jr_iret ok (jg_at fin u.1) (Nat.le_of_eq (Nat.zero_add _)) (Nat.le_of_eq (Nat.zero_add _)) () rfl hφ.1 sg_same d_La_series_13

set_option maxHeartbeats 4000000 in
set_option maxRecDepth 100000 in
theorem h_La_fault (l : Launch) (hnt : jl_nt l) (D : jd_T) (g : Nat → Nat) (A0 : AW) (C0 : CW) (S : WS) (o : Nat) (fo : Int → Int64) (v1 : Int) (t : Int) (r : Int) (c9 : CW) (S9 : WS) (k : Int) (f9 : Int → Int64) (hs : s_WT_fault C0 S v1 = some ((t, r), c9, S9)) (hk : (t = 0 ∧ k = 0 ∧ f9 = (fun j => if j = 0 then ll (w32 r) else fo j)) ∨ (t = 3 ∧ k = 1 ∧ fo = f9)) : jgH_C l D y_La_fault b_La_fault 4 (some .int) [(0, 9, 12, 29)] { frames := 7, cells := C0.bc, slots := C0.bs, locals := 111 } [.ref (g 0), .int (ii v1), .ref o] (wtL D g A0 C0 S ++ [al D 2 o 1 fo]) (fun A : AW => (.returned (some (.int (ii k))), c9.bc ≤ C0.bc ∧ c9.bs ≤ C0.bs, wtL D g A c9 S9 ++ [al D 2 o 1 f9], C0.bc - c9.bc, C0.bs - c9.bs)) := by
  refine jgH_of rfl (Nat.le_of_ble_eq_true rfl) ?_
  intro X hl hR hN ok hI hTT hNN hhs fin
  subst hl
  show jw X 0 0 (wtL D g A0 C0 S ++ [al D 2 o 1 fo]) [(0, .ref (g 0)), (1, .int (ii v1)), (2, .ref o)] 0 []
  refine jr_aload_n ok 2 d_La_fault_0 rfl rfl ?_
  refine jr_iconst ok d_La_fault_1 ?_
  refine jr_aload_n ok 0 d_La_fault_2 rfl rfl ?_
  refine jr_iload_n ok 1 d_La_fault_3 rfl rfl ?_
  rcases hk with ⟨rfl, rfl, rfl⟩ | ⟨rfl, rfl, rfl⟩
  · skip
    refine jh_callT ok hI hTT m_La_25 (jgT_frame (r_WT_fault (jx_l X) hnt D g A0 C0 S v1 0 r c9 S9 hs) [al D 2 o 1 fo]) (sg_atk 0 rfl) rfl rfl rfl (Nat.le_of_ble_eq_true rfl) ⟨by rw [hR]; exact Nat.le_of_ble_eq_true rfl, by rw [hR]; exact Nat.le_of_ble_eq_true rfl⟩ ⟨by rw [hR]; exact Nat.le_of_eq (Nat.zero_add _), by rw [hR]; exact Nat.le_of_eq (Nat.zero_add _)⟩ d_La_fault_4 (fun u v ho hφ => ?_) (fun u a ho _ => by cases (show Outcome.returned _ = Outcome.threw a from ho))
    cases (show Outcome.returned (some (.int (ii r))) = Outcome.returned v from ho)
    show jw X (0 + (C0.bc - c9.bc)) (0 + (C0.bs - c9.bs)) ((wtL D g u.1 c9 S9 ++ []) ++ [al D 2 o 1 fo]) [(0, .ref (g 0)), (1, .int (ii v1)), (2, .ref o)] 7 [.int (ii r), .int (ii 0), .ref o]
    rw [List.append_nil]
    refine jr_wi2l ok rfl d_La_fault_7 ?_
    refine jr_last (wtL D g u.1 c9 S9 ++ [al D 2 o 1 (fun j => if j = 0 then ll (w32 r) else fo j)]) ok 24 rfl rfl (by decide) (by decide) rfl d_La_fault_8 ?_
    refine jr_goto 15 ok d_La_fault_9 (by decide) ?_
    refine jr_iconst ok d_La_fault_15 ?_
    exact jr_iret ok (jg_at fin u.1) (Nat.le_of_eq (Nat.zero_add _)) (Nat.le_of_eq (Nat.zero_add _)) () rfl hφ.1 sg_same d_La_fault_16
  · skip
    refine jh_callT ok hI hTT m_La_25 (jgT_frame (r_WT_fault (jx_l X) hnt D g A0 C0 S v1 3 r c9 S9 hs) [al D 2 o 1 fo]) (sg_atk 0 rfl) rfl rfl rfl (Nat.le_of_ble_eq_true rfl) ⟨by rw [hR]; exact Nat.le_of_ble_eq_true rfl, by rw [hR]; exact Nat.le_of_ble_eq_true rfl⟩ ⟨by rw [hR]; exact Nat.le_of_eq (Nat.zero_add _), by rw [hR]; exact Nat.le_of_eq (Nat.zero_add _)⟩ d_La_fault_4 (fun u v ho _ => by cases (show Outcome.threw _ = Outcome.returned v from ho)) (fun u a ho hφ => ?_)
    cases (show Outcome.threw u.2 = Outcome.threw a from ho)
    show jwT X (0 + (C0.bc - c9.bc)) (0 + (C0.bs - c9.bs)) ((wtL D g u.1 c9 S9 ++ [xc D u.2 2]) ++ [al D 2 o 1 fo]) [(0, .ref (g 0)), (1, .int (ii v1)), (2, .ref o)] 4 [.int (ii 0), .ref o] u.2
    refine jwT_ent (sg_swap2 _ _ _) ?_
    refine jwT_caught [] (0, 9, 12, 29) [] [(0, 9, 12, 29)] (fun i => if i = 13 then 0 else if i = 19 then 1 else 2) ok hTT hNN hhs rfl (by decide) rfl (fun _ h => absurd h List.not_mem_nil) (by decide) (by decide) w_580 rfl ?_
    refine jr_dropR _ ?_
    refine jr_astore_n [(3, .ref u.2), (0, .ref (g 0)), (1, .int (ii v1)), (2, .ref o)] ok d_La_fault_12 rfl (by rw [hN]; decide) rfl ?_
    refine jr_iconst ok d_La_fault_13 ?_
    exact jr_iret ok (jg_at fin u.1) (Nat.le_of_eq (Nat.zero_add _)) (Nat.le_of_eq (Nat.zero_add _)) () rfl hφ.1 sg_same d_La_fault_14

set_option maxHeartbeats 4000000 in
set_option maxRecDepth 100000 in
theorem h_La_letter (l : Launch) (hnt : jl_nt l) (D : jd_T) (g : Nat → Nat) (A0 : AW) (C0 : CW) (S : WS) (o : Nat) (fo : Int → Int64) (v1 : Int) (v2 : Int) (t : Int) (r : Int) (c9 : CW) (S9 : WS) (k : Int) (f9 : Int → Int64) (hs : s_WT_letter C0 S v1 v2 = some ((t, r), c9, S9)) (hk : (t = 0 ∧ k = 0 ∧ f9 = (fun j => if j = 0 then ll (w32 r) else fo j)) ∨ (t = 3 ∧ k = 1 ∧ fo = f9)) : jgH_C l D y_La_letter b_La_letter 5 (some .int) [(0, 10, 13, 29)] { frames := 8, cells := C0.bc, slots := C0.bs, locals := 134 } [.ref (g 0), .int (ii v1), .int (ii v2), .ref o] (wtL D g A0 C0 S ++ [al D 2 o 1 fo]) (fun A : AW => (.returned (some (.int (ii k))), c9.bc ≤ C0.bc ∧ c9.bs ≤ C0.bs, wtL D g A c9 S9 ++ [al D 2 o 1 f9], C0.bc - c9.bc, C0.bs - c9.bs)) := by
  refine jgH_of rfl (Nat.le_of_ble_eq_true rfl) ?_
  intro X hl hR hN ok hI hTT hNN hhs fin
  subst hl
  show jw X 0 0 (wtL D g A0 C0 S ++ [al D 2 o 1 fo]) [(0, .ref (g 0)), (1, .int (ii v1)), (2, .int (ii v2)), (3, .ref o)] 0 []
  refine jr_aload_n ok 3 d_La_letter_0 rfl rfl ?_
  refine jr_iconst ok d_La_letter_1 ?_
  refine jr_aload_n ok 0 d_La_letter_2 rfl rfl ?_
  refine jr_iload_n ok 1 d_La_letter_3 rfl rfl ?_
  refine jr_iload_n ok 2 d_La_letter_4 rfl rfl ?_
  rcases hk with ⟨rfl, rfl, rfl⟩ | ⟨rfl, rfl, rfl⟩
  · skip
    refine jh_callT ok hI hTT m_La_31 (jgT_frame (r_WT_letter (jx_l X) hnt D g A0 C0 S v1 v2 0 r c9 S9 hs) [al D 2 o 1 fo]) (sg_atk 0 rfl) rfl rfl rfl (Nat.le_of_ble_eq_true rfl) ⟨by rw [hR]; exact Nat.le_of_ble_eq_true rfl, by rw [hR]; exact Nat.le_of_ble_eq_true rfl⟩ ⟨by rw [hR]; exact Nat.le_of_eq (Nat.zero_add _), by rw [hR]; exact Nat.le_of_eq (Nat.zero_add _)⟩ d_La_letter_5 (fun u v ho hφ => ?_) (fun u a ho _ => by cases (show Outcome.returned _ = Outcome.threw a from ho))
    cases (show Outcome.returned (some (.int (ii r))) = Outcome.returned v from ho)
    show jw X (0 + (C0.bc - c9.bc)) (0 + (C0.bs - c9.bs)) ((wtL D g u.1 c9 S9 ++ []) ++ [al D 2 o 1 fo]) [(0, .ref (g 0)), (1, .int (ii v1)), (2, .int (ii v2)), (3, .ref o)] 8 [.int (ii r), .int (ii 0), .ref o]
    rw [List.append_nil]
    refine jr_wi2l ok rfl d_La_letter_8 ?_
    refine jr_last (wtL D g u.1 c9 S9 ++ [al D 2 o 1 (fun j => if j = 0 then ll (w32 r) else fo j)]) ok 24 rfl rfl (by decide) (by decide) rfl d_La_letter_9 ?_
    refine jr_goto 17 ok d_La_letter_10 (by decide) ?_
    refine jr_iconst ok d_La_letter_17 ?_
    exact jr_iret ok (jg_at fin u.1) (Nat.le_of_eq (Nat.zero_add _)) (Nat.le_of_eq (Nat.zero_add _)) () rfl hφ.1 sg_same d_La_letter_18
  · skip
    refine jh_callT ok hI hTT m_La_31 (jgT_frame (r_WT_letter (jx_l X) hnt D g A0 C0 S v1 v2 3 r c9 S9 hs) [al D 2 o 1 fo]) (sg_atk 0 rfl) rfl rfl rfl (Nat.le_of_ble_eq_true rfl) ⟨by rw [hR]; exact Nat.le_of_ble_eq_true rfl, by rw [hR]; exact Nat.le_of_ble_eq_true rfl⟩ ⟨by rw [hR]; exact Nat.le_of_eq (Nat.zero_add _), by rw [hR]; exact Nat.le_of_eq (Nat.zero_add _)⟩ d_La_letter_5 (fun u v ho _ => by cases (show Outcome.threw _ = Outcome.returned v from ho)) (fun u a ho hφ => ?_)
    cases (show Outcome.threw u.2 = Outcome.threw a from ho)
    show jwT X (0 + (C0.bc - c9.bc)) (0 + (C0.bs - c9.bs)) ((wtL D g u.1 c9 S9 ++ [xc D u.2 2]) ++ [al D 2 o 1 fo]) [(0, .ref (g 0)), (1, .int (ii v1)), (2, .int (ii v2)), (3, .ref o)] 5 [.int (ii 0), .ref o] u.2
    refine jwT_ent (sg_swap2 _ _ _) ?_
    refine jwT_caught [] (0, 10, 13, 29) [] [(0, 10, 13, 29)] (fun i => if i = 13 then 0 else if i = 19 then 1 else 2) ok hTT hNN hhs rfl (by decide) rfl (fun _ h => absurd h List.not_mem_nil) (by decide) (by decide) w_580 rfl ?_
    refine jr_dropR _ ?_
    refine jr_astore [(4, .ref u.2), (0, .ref (g 0)), (1, .int (ii v1)), (2, .int (ii v2)), (3, .ref o)] ok d_La_letter_13 (by rw [hN]; decide) rfl ?_
    refine jr_iconst ok d_La_letter_15 ?_
    exact jr_iret ok (jg_at fin u.1) (Nat.le_of_eq (Nat.zero_add _)) (Nat.le_of_eq (Nat.zero_add _)) () rfl hφ.1 sg_same d_La_letter_16

set_option maxHeartbeats 4000000 in
set_option maxRecDepth 100000 in
theorem h_La_append (l : Launch) (hnt : jl_nt l) (D : jd_T) (g : Nat → Nat) (A0 : AW) (C0 : CW) (S : WS) (o : Nat) (fo : Int → Int64) (v1 : Int) (v2 : Int64) (v4 : Int64) (t : Int) (r : Int) (c9 : CW) (S9 : WS) (k : Int) (f9 : Int → Int64) (hs : s_WT_append C0 S v1 v2 v4 = some ((t, r), c9, S9)) (hk : (t = 0 ∧ k = 0 ∧ f9 = (fun j => if j = 0 then ll (w32 r) else fo j)) ∨ (t = 3 ∧ k = 1 ∧ fo = f9) ∨ (t = 2 ∧ k = 2 ∧ fo = f9) ∨ (t = 1 ∧ k = 3 ∧ fo = f9)) : jgH_C l D y_La_append b_La_append 8 (some .int) [(0, 13, 16, 29), (0, 13, 20, 19), (0, 13, 24, 13)] { frames := 8, cells := C0.bc, slots := C0.bs, locals := 138 } [.ref (g 0), .int (ii v1), .long v2, .long v4, .ref o] (wtL D g A0 C0 S ++ [al D 2 o 1 fo]) (fun A : AW => (.returned (some (.int (ii k))), c9.bc ≤ C0.bc ∧ c9.bs ≤ C0.bs, wtL D g A c9 S9 ++ [al D 2 o 1 f9], C0.bc - c9.bc, C0.bs - c9.bs)) := by
  refine jgH_of rfl (Nat.le_of_ble_eq_true rfl) ?_
  intro X hl hR hN ok hI hTT hNN hhs fin
  subst hl
  show jw X 0 0 (wtL D g A0 C0 S ++ [al D 2 o 1 fo]) [(0, .ref (g 0)), (1, .int (ii v1)), (2, .long v2), (4, .long v4), (6, .ref o)] 0 []
  refine jr_aload ok 4 d_La_append_0 rfl ?_
  refine jr_iconst ok d_La_append_2 ?_
  refine jr_aload_n ok 0 d_La_append_3 rfl rfl ?_
  refine jr_iload_n ok 1 d_La_append_4 rfl rfl ?_
  refine jr_lload_n ok 2 d_La_append_5 rfl rfl ?_
  refine jr_lload ok 3 d_La_append_6 rfl ?_
  rcases hk with ⟨rfl, rfl, rfl⟩ | ⟨rfl, rfl, rfl⟩ | ⟨rfl, rfl, rfl⟩ | ⟨rfl, rfl, rfl⟩
  · skip
    refine jh_callT ok hI hTT m_La_35 (jgT_frame (r_WT_append (jx_l X) hnt D g A0 C0 S v1 v2 v4 0 r c9 S9 hs) [al D 2 o 1 fo]) (sg_atk 0 rfl) rfl rfl rfl (Nat.le_of_ble_eq_true rfl) ⟨by rw [hR]; exact Nat.le_of_ble_eq_true rfl, by rw [hR]; exact Nat.le_of_ble_eq_true rfl⟩ ⟨by rw [hR]; exact Nat.le_of_eq (Nat.zero_add _), by rw [hR]; exact Nat.le_of_eq (Nat.zero_add _)⟩ d_La_append_8 (fun u v ho hφ => ?_) (fun u a ho _ => by cases (show Outcome.returned _ = Outcome.threw a from ho))
    cases (show Outcome.returned (some (.int (ii r))) = Outcome.returned v from ho)
    show jw X (0 + (C0.bc - c9.bc)) (0 + (C0.bs - c9.bs)) ((wtL D g u.1 c9 S9 ++ []) ++ [al D 2 o 1 fo]) [(0, .ref (g 0)), (1, .int (ii v1)), (2, .long v2), (4, .long v4), (6, .ref o)] 11 [.int (ii r), .int (ii 0), .ref o]
    rw [List.append_nil]
    refine jr_wi2l ok rfl d_La_append_11 ?_
    refine jr_last (wtL D g u.1 c9 S9 ++ [al D 2 o 1 (fun j => if j = 0 then ll (w32 r) else fo j)]) ok 24 rfl rfl (by decide) (by decide) rfl d_La_append_12 ?_
    refine jr_goto 28 ok d_La_append_13 (by decide) ?_
    refine jr_iconst ok d_La_append_28 ?_
    exact jr_iret ok (jg_at fin u.1) (Nat.le_of_eq (Nat.zero_add _)) (Nat.le_of_eq (Nat.zero_add _)) () rfl hφ.1 sg_same d_La_append_29
  · skip
    refine jh_callT ok hI hTT m_La_35 (jgT_frame (r_WT_append (jx_l X) hnt D g A0 C0 S v1 v2 v4 3 r c9 S9 hs) [al D 2 o 1 fo]) (sg_atk 0 rfl) rfl rfl rfl (Nat.le_of_ble_eq_true rfl) ⟨by rw [hR]; exact Nat.le_of_ble_eq_true rfl, by rw [hR]; exact Nat.le_of_ble_eq_true rfl⟩ ⟨by rw [hR]; exact Nat.le_of_eq (Nat.zero_add _), by rw [hR]; exact Nat.le_of_eq (Nat.zero_add _)⟩ d_La_append_8 (fun u v ho _ => by cases (show Outcome.threw _ = Outcome.returned v from ho)) (fun u a ho hφ => ?_)
    cases (show Outcome.threw u.2 = Outcome.threw a from ho)
    show jwT X (0 + (C0.bc - c9.bc)) (0 + (C0.bs - c9.bs)) ((wtL D g u.1 c9 S9 ++ [xc D u.2 2]) ++ [al D 2 o 1 fo]) [(0, .ref (g 0)), (1, .int (ii v1)), (2, .long v2), (4, .long v4), (6, .ref o)] 8 [.int (ii 0), .ref o] u.2
    refine jwT_ent (sg_swap2 _ _ _) ?_
    refine jwT_caught [] (0, 13, 16, 29) [(0, 13, 20, 19), (0, 13, 24, 13)] [(0, 13, 16, 29), (0, 13, 20, 19), (0, 13, 24, 13)] (fun i => if i = 13 then 0 else if i = 19 then 1 else 2) ok hTT hNN hhs rfl (by decide) rfl (fun _ h => absurd h List.not_mem_nil) (by decide) (by decide) w_580 rfl ?_
    refine jr_dropR _ ?_
    refine jr_astore [(7, .ref u.2), (0, .ref (g 0)), (1, .int (ii v1)), (2, .long v2), (4, .long v4), (6, .ref o)] ok d_La_append_16 (by rw [hN]; decide) rfl ?_
    refine jr_iconst ok d_La_append_18 ?_
    exact jr_iret ok (jg_at fin u.1) (Nat.le_of_eq (Nat.zero_add _)) (Nat.le_of_eq (Nat.zero_add _)) () rfl hφ.1 sg_same d_La_append_19
  · skip
    refine jh_callT ok hI hTT m_La_35 (jgT_frame (r_WT_append (jx_l X) hnt D g A0 C0 S v1 v2 v4 2 r c9 S9 hs) [al D 2 o 1 fo]) (sg_atk 0 rfl) rfl rfl rfl (Nat.le_of_ble_eq_true rfl) ⟨by rw [hR]; exact Nat.le_of_ble_eq_true rfl, by rw [hR]; exact Nat.le_of_ble_eq_true rfl⟩ ⟨by rw [hR]; exact Nat.le_of_eq (Nat.zero_add _), by rw [hR]; exact Nat.le_of_eq (Nat.zero_add _)⟩ d_La_append_8 (fun u v ho _ => by cases (show Outcome.threw _ = Outcome.returned v from ho)) (fun u a ho hφ => ?_)
    cases (show Outcome.threw u.2 = Outcome.threw a from ho)
    show jwT X (0 + (C0.bc - c9.bc)) (0 + (C0.bs - c9.bs)) ((wtL D g u.1 c9 S9 ++ [xc D u.2 1]) ++ [al D 2 o 1 fo]) [(0, .ref (g 0)), (1, .int (ii v1)), (2, .long v2), (4, .long v4), (6, .ref o)] 8 [.int (ii 0), .ref o] u.2
    refine jwT_ent (sg_swap2 _ _ _) ?_
    refine jwT_caught [(0, 13, 16, 29)] (0, 13, 20, 19) [(0, 13, 24, 13)] [(0, 13, 16, 29), (0, 13, 20, 19), (0, 13, 24, 13)] (fun i => if i = 13 then 0 else if i = 19 then 1 else 2) ok hTT hNN hhs rfl (by decide) rfl (List.forall_mem_cons.mpr ⟨⟨by decide, by decide, by decide, w_580⟩, (fun _ h => absurd h List.not_mem_nil)⟩) (by decide) (by decide) w_410 rfl ?_
    refine jr_dropR _ ?_
    refine jr_astore [(7, .ref u.2), (0, .ref (g 0)), (1, .int (ii v1)), (2, .long v2), (4, .long v4), (6, .ref o)] ok d_La_append_20 (by rw [hN]; decide) rfl ?_
    refine jr_iconst ok d_La_append_22 ?_
    exact jr_iret ok (jg_at fin u.1) (Nat.le_of_eq (Nat.zero_add _)) (Nat.le_of_eq (Nat.zero_add _)) () rfl hφ.1 sg_same d_La_append_23
  · skip
    refine jh_callT ok hI hTT m_La_35 (jgT_frame (r_WT_append (jx_l X) hnt D g A0 C0 S v1 v2 v4 1 r c9 S9 hs) [al D 2 o 1 fo]) (sg_atk 0 rfl) rfl rfl rfl (Nat.le_of_ble_eq_true rfl) ⟨by rw [hR]; exact Nat.le_of_ble_eq_true rfl, by rw [hR]; exact Nat.le_of_ble_eq_true rfl⟩ ⟨by rw [hR]; exact Nat.le_of_eq (Nat.zero_add _), by rw [hR]; exact Nat.le_of_eq (Nat.zero_add _)⟩ d_La_append_8 (fun u v ho _ => by cases (show Outcome.threw _ = Outcome.returned v from ho)) (fun u a ho hφ => ?_)
    cases (show Outcome.threw u.2 = Outcome.threw a from ho)
    show jwT X (0 + (C0.bc - c9.bc)) (0 + (C0.bs - c9.bs)) ((wtL D g u.1 c9 S9 ++ [xc D u.2 0]) ++ [al D 2 o 1 fo]) [(0, .ref (g 0)), (1, .int (ii v1)), (2, .long v2), (4, .long v4), (6, .ref o)] 8 [.int (ii 0), .ref o] u.2
    refine jwT_ent (sg_swap2 _ _ _) ?_
    refine jwT_caught [(0, 13, 16, 29), (0, 13, 20, 19)] (0, 13, 24, 13) [] [(0, 13, 16, 29), (0, 13, 20, 19), (0, 13, 24, 13)] (fun i => if i = 13 then 0 else if i = 19 then 1 else 2) ok hTT hNN hhs rfl (by decide) rfl (List.forall_mem_cons.mpr ⟨⟨by decide, by decide, by decide, w_580⟩, (List.forall_mem_cons.mpr ⟨⟨by decide, by decide, by decide, w_410⟩, (fun _ h => absurd h List.not_mem_nil)⟩)⟩) (by decide) (by decide) w_310 rfl ?_
    refine jr_dropR _ ?_
    refine jr_astore [(7, .ref u.2), (0, .ref (g 0)), (1, .int (ii v1)), (2, .long v2), (4, .long v4), (6, .ref o)] ok d_La_append_24 (by rw [hN]; decide) rfl ?_
    refine jr_iconst ok d_La_append_26 ?_
    exact jr_iret ok (jg_at fin u.1) (Nat.le_of_eq (Nat.zero_add _)) (Nat.le_of_eq (Nat.zero_add _)) () rfl hφ.1 sg_same d_La_append_27

set_option maxHeartbeats 4000000 in
set_option maxRecDepth 100000 in
theorem h_La_bulk (l : Launch) (hnt : jl_nt l) (D : jd_T) (g : Nat → Nat) (A0 : AW) (C0 : CW) (S : WS) (o : Nat) (fo : Int → Int64) (v1 : Int) (t : Int) (r : Int) (c9 : CW) (S9 : WS) (k : Int) (f9 : Int → Int64) (hs : s_WT_bulk C0 S v1 = some ((t, r), c9, S9)) (hk : (t = 0 ∧ k = 0 ∧ f9 = (fun j => if j = 0 then ll (w32 r) else fo j)) ∨ (t = 3 ∧ k = 1 ∧ fo = f9)) : jgH_C l D y_La_bulk b_La_bulk 4 (some .int) [(0, 9, 12, 29)] { frames := 8, cells := C0.bc, slots := C0.bs, locals := 138 } [.ref (g 0), .int (ii v1), .ref o] (wtL D g A0 C0 S ++ [al D 2 o 1 fo]) (fun A : AW => (.returned (some (.int (ii k))), c9.bc ≤ C0.bc ∧ c9.bs ≤ C0.bs, wtL D g A c9 S9 ++ [al D 2 o 1 f9], C0.bc - c9.bc, C0.bs - c9.bs)) := by
  refine jgH_of rfl (Nat.le_of_ble_eq_true rfl) ?_
  intro X hl hR hN ok hI hTT hNN hhs fin
  subst hl
  show jw X 0 0 (wtL D g A0 C0 S ++ [al D 2 o 1 fo]) [(0, .ref (g 0)), (1, .int (ii v1)), (2, .ref o)] 0 []
  refine jr_aload_n ok 2 d_La_bulk_0 rfl rfl ?_
  refine jr_iconst ok d_La_bulk_1 ?_
  refine jr_aload_n ok 0 d_La_bulk_2 rfl rfl ?_
  refine jr_iload_n ok 1 d_La_bulk_3 rfl rfl ?_
  rcases hk with ⟨rfl, rfl, rfl⟩ | ⟨rfl, rfl, rfl⟩
  · skip
    refine jh_callT ok hI hTT m_La_39 (jgT_frame (r_WT_bulk (jx_l X) hnt D g A0 C0 S v1 0 r c9 S9 hs) [al D 2 o 1 fo]) (sg_atk 0 rfl) rfl rfl rfl (Nat.le_of_ble_eq_true rfl) ⟨by rw [hR]; exact Nat.le_of_ble_eq_true rfl, by rw [hR]; exact Nat.le_of_ble_eq_true rfl⟩ ⟨by rw [hR]; exact Nat.le_of_eq (Nat.zero_add _), by rw [hR]; exact Nat.le_of_eq (Nat.zero_add _)⟩ d_La_bulk_4 (fun u v ho hφ => ?_) (fun u a ho _ => by cases (show Outcome.returned _ = Outcome.threw a from ho))
    cases (show Outcome.returned (some (.int (ii r))) = Outcome.returned v from ho)
    show jw X (0 + (C0.bc - c9.bc)) (0 + (C0.bs - c9.bs)) ((wtL D g u.1 c9 S9 ++ []) ++ [al D 2 o 1 fo]) [(0, .ref (g 0)), (1, .int (ii v1)), (2, .ref o)] 7 [.int (ii r), .int (ii 0), .ref o]
    rw [List.append_nil]
    refine jr_wi2l ok rfl d_La_bulk_7 ?_
    refine jr_last (wtL D g u.1 c9 S9 ++ [al D 2 o 1 (fun j => if j = 0 then ll (w32 r) else fo j)]) ok 24 rfl rfl (by decide) (by decide) rfl d_La_bulk_8 ?_
    refine jr_goto 15 ok d_La_bulk_9 (by decide) ?_
    refine jr_iconst ok d_La_bulk_15 ?_
    exact jr_iret ok (jg_at fin u.1) (Nat.le_of_eq (Nat.zero_add _)) (Nat.le_of_eq (Nat.zero_add _)) () rfl hφ.1 sg_same d_La_bulk_16
  · skip
    refine jh_callT ok hI hTT m_La_39 (jgT_frame (r_WT_bulk (jx_l X) hnt D g A0 C0 S v1 3 r c9 S9 hs) [al D 2 o 1 fo]) (sg_atk 0 rfl) rfl rfl rfl (Nat.le_of_ble_eq_true rfl) ⟨by rw [hR]; exact Nat.le_of_ble_eq_true rfl, by rw [hR]; exact Nat.le_of_ble_eq_true rfl⟩ ⟨by rw [hR]; exact Nat.le_of_eq (Nat.zero_add _), by rw [hR]; exact Nat.le_of_eq (Nat.zero_add _)⟩ d_La_bulk_4 (fun u v ho _ => by cases (show Outcome.threw _ = Outcome.returned v from ho)) (fun u a ho hφ => ?_)
    cases (show Outcome.threw u.2 = Outcome.threw a from ho)
    show jwT X (0 + (C0.bc - c9.bc)) (0 + (C0.bs - c9.bs)) ((wtL D g u.1 c9 S9 ++ [xc D u.2 2]) ++ [al D 2 o 1 fo]) [(0, .ref (g 0)), (1, .int (ii v1)), (2, .ref o)] 4 [.int (ii 0), .ref o] u.2
    refine jwT_ent (sg_swap2 _ _ _) ?_
    refine jwT_caught [] (0, 9, 12, 29) [] [(0, 9, 12, 29)] (fun i => if i = 13 then 0 else if i = 19 then 1 else 2) ok hTT hNN hhs rfl (by decide) rfl (fun _ h => absurd h List.not_mem_nil) (by decide) (by decide) w_580 rfl ?_
    refine jr_dropR _ ?_
    refine jr_astore_n [(3, .ref u.2), (0, .ref (g 0)), (1, .int (ii v1)), (2, .ref o)] ok d_La_bulk_12 rfl (by rw [hN]; decide) rfl ?_
    refine jr_iconst ok d_La_bulk_13 ?_
    exact jr_iret ok (jg_at fin u.1) (Nat.le_of_eq (Nat.zero_add _)) (Nat.le_of_eq (Nat.zero_add _)) () rfl hφ.1 sg_same d_La_bulk_14

set_option maxHeartbeats 4000000 in
set_option maxRecDepth 100000 in
theorem h_La_delete (l : Launch) (hnt : jl_nt l) (D : jd_T) (g : Nat → Nat) (A0 : AW) (C0 : CW) (S : WS) (o : Nat) (fo : Int → Int64) (v1 : Int) (v2 : Int64) (v4 : Int64) (t : Int) (r : Int) (c9 : CW) (S9 : WS) (k : Int) (f9 : Int → Int64) (hs : s_WT_delete C0 S v1 v2 v4 = some ((t, r), c9, S9)) (hk : (t = 0 ∧ k = 0 ∧ f9 = (fun j => if j = 0 then ll (w32 r) else fo j)) ∨ (t = 3 ∧ k = 1 ∧ fo = f9) ∨ (t = 2 ∧ k = 2 ∧ fo = f9) ∨ (t = 1 ∧ k = 3 ∧ fo = f9)) : jgH_C l D y_La_delete b_La_delete 8 (some .int) [(0, 13, 16, 29), (0, 13, 20, 19), (0, 13, 24, 13)] { frames := 8, cells := C0.bc, slots := C0.bs, locals := 141 } [.ref (g 0), .int (ii v1), .long v2, .long v4, .ref o] (wtL D g A0 C0 S ++ [al D 2 o 1 fo]) (fun A : AW => (.returned (some (.int (ii k))), c9.bc ≤ C0.bc ∧ c9.bs ≤ C0.bs, wtL D g A c9 S9 ++ [al D 2 o 1 f9], C0.bc - c9.bc, C0.bs - c9.bs)) := by
  refine jgH_of rfl (Nat.le_of_ble_eq_true rfl) ?_
  intro X hl hR hN ok hI hTT hNN hhs fin
  subst hl
  show jw X 0 0 (wtL D g A0 C0 S ++ [al D 2 o 1 fo]) [(0, .ref (g 0)), (1, .int (ii v1)), (2, .long v2), (4, .long v4), (6, .ref o)] 0 []
  refine jr_aload ok 4 d_La_delete_0 rfl ?_
  refine jr_iconst ok d_La_delete_2 ?_
  refine jr_aload_n ok 0 d_La_delete_3 rfl rfl ?_
  refine jr_iload_n ok 1 d_La_delete_4 rfl rfl ?_
  refine jr_lload_n ok 2 d_La_delete_5 rfl rfl ?_
  refine jr_lload ok 3 d_La_delete_6 rfl ?_
  rcases hk with ⟨rfl, rfl, rfl⟩ | ⟨rfl, rfl, rfl⟩ | ⟨rfl, rfl, rfl⟩ | ⟨rfl, rfl, rfl⟩
  · skip
    refine jh_callT ok hI hTT m_La_42 (jgT_frame (r_WT_delete (jx_l X) hnt D g A0 C0 S v1 v2 v4 0 r c9 S9 hs) [al D 2 o 1 fo]) (sg_atk 0 rfl) rfl rfl rfl (Nat.le_of_ble_eq_true rfl) ⟨by rw [hR]; exact Nat.le_of_ble_eq_true rfl, by rw [hR]; exact Nat.le_of_ble_eq_true rfl⟩ ⟨by rw [hR]; exact Nat.le_of_eq (Nat.zero_add _), by rw [hR]; exact Nat.le_of_eq (Nat.zero_add _)⟩ d_La_delete_8 (fun u v ho hφ => ?_) (fun u a ho _ => by cases (show Outcome.returned _ = Outcome.threw a from ho))
    cases (show Outcome.returned (some (.int (ii r))) = Outcome.returned v from ho)
    show jw X (0 + (C0.bc - c9.bc)) (0 + (C0.bs - c9.bs)) ((wtL D g u.1 c9 S9 ++ []) ++ [al D 2 o 1 fo]) [(0, .ref (g 0)), (1, .int (ii v1)), (2, .long v2), (4, .long v4), (6, .ref o)] 11 [.int (ii r), .int (ii 0), .ref o]
    rw [List.append_nil]
    refine jr_wi2l ok rfl d_La_delete_11 ?_
    refine jr_last (wtL D g u.1 c9 S9 ++ [al D 2 o 1 (fun j => if j = 0 then ll (w32 r) else fo j)]) ok 24 rfl rfl (by decide) (by decide) rfl d_La_delete_12 ?_
    refine jr_goto 28 ok d_La_delete_13 (by decide) ?_
    refine jr_iconst ok d_La_delete_28 ?_
    exact jr_iret ok (jg_at fin u.1) (Nat.le_of_eq (Nat.zero_add _)) (Nat.le_of_eq (Nat.zero_add _)) () rfl hφ.1 sg_same d_La_delete_29
  · skip
    refine jh_callT ok hI hTT m_La_42 (jgT_frame (r_WT_delete (jx_l X) hnt D g A0 C0 S v1 v2 v4 3 r c9 S9 hs) [al D 2 o 1 fo]) (sg_atk 0 rfl) rfl rfl rfl (Nat.le_of_ble_eq_true rfl) ⟨by rw [hR]; exact Nat.le_of_ble_eq_true rfl, by rw [hR]; exact Nat.le_of_ble_eq_true rfl⟩ ⟨by rw [hR]; exact Nat.le_of_eq (Nat.zero_add _), by rw [hR]; exact Nat.le_of_eq (Nat.zero_add _)⟩ d_La_delete_8 (fun u v ho _ => by cases (show Outcome.threw _ = Outcome.returned v from ho)) (fun u a ho hφ => ?_)
    cases (show Outcome.threw u.2 = Outcome.threw a from ho)
    show jwT X (0 + (C0.bc - c9.bc)) (0 + (C0.bs - c9.bs)) ((wtL D g u.1 c9 S9 ++ [xc D u.2 2]) ++ [al D 2 o 1 fo]) [(0, .ref (g 0)), (1, .int (ii v1)), (2, .long v2), (4, .long v4), (6, .ref o)] 8 [.int (ii 0), .ref o] u.2
    refine jwT_ent (sg_swap2 _ _ _) ?_
    refine jwT_caught [] (0, 13, 16, 29) [(0, 13, 20, 19), (0, 13, 24, 13)] [(0, 13, 16, 29), (0, 13, 20, 19), (0, 13, 24, 13)] (fun i => if i = 13 then 0 else if i = 19 then 1 else 2) ok hTT hNN hhs rfl (by decide) rfl (fun _ h => absurd h List.not_mem_nil) (by decide) (by decide) w_580 rfl ?_
    refine jr_dropR _ ?_
    refine jr_astore [(7, .ref u.2), (0, .ref (g 0)), (1, .int (ii v1)), (2, .long v2), (4, .long v4), (6, .ref o)] ok d_La_delete_16 (by rw [hN]; decide) rfl ?_
    refine jr_iconst ok d_La_delete_18 ?_
    exact jr_iret ok (jg_at fin u.1) (Nat.le_of_eq (Nat.zero_add _)) (Nat.le_of_eq (Nat.zero_add _)) () rfl hφ.1 sg_same d_La_delete_19
  · skip
    refine jh_callT ok hI hTT m_La_42 (jgT_frame (r_WT_delete (jx_l X) hnt D g A0 C0 S v1 v2 v4 2 r c9 S9 hs) [al D 2 o 1 fo]) (sg_atk 0 rfl) rfl rfl rfl (Nat.le_of_ble_eq_true rfl) ⟨by rw [hR]; exact Nat.le_of_ble_eq_true rfl, by rw [hR]; exact Nat.le_of_ble_eq_true rfl⟩ ⟨by rw [hR]; exact Nat.le_of_eq (Nat.zero_add _), by rw [hR]; exact Nat.le_of_eq (Nat.zero_add _)⟩ d_La_delete_8 (fun u v ho _ => by cases (show Outcome.threw _ = Outcome.returned v from ho)) (fun u a ho hφ => ?_)
    cases (show Outcome.threw u.2 = Outcome.threw a from ho)
    show jwT X (0 + (C0.bc - c9.bc)) (0 + (C0.bs - c9.bs)) ((wtL D g u.1 c9 S9 ++ [xc D u.2 1]) ++ [al D 2 o 1 fo]) [(0, .ref (g 0)), (1, .int (ii v1)), (2, .long v2), (4, .long v4), (6, .ref o)] 8 [.int (ii 0), .ref o] u.2
    refine jwT_ent (sg_swap2 _ _ _) ?_
    refine jwT_caught [(0, 13, 16, 29)] (0, 13, 20, 19) [(0, 13, 24, 13)] [(0, 13, 16, 29), (0, 13, 20, 19), (0, 13, 24, 13)] (fun i => if i = 13 then 0 else if i = 19 then 1 else 2) ok hTT hNN hhs rfl (by decide) rfl (List.forall_mem_cons.mpr ⟨⟨by decide, by decide, by decide, w_580⟩, (fun _ h => absurd h List.not_mem_nil)⟩) (by decide) (by decide) w_410 rfl ?_
    refine jr_dropR _ ?_
    refine jr_astore [(7, .ref u.2), (0, .ref (g 0)), (1, .int (ii v1)), (2, .long v2), (4, .long v4), (6, .ref o)] ok d_La_delete_20 (by rw [hN]; decide) rfl ?_
    refine jr_iconst ok d_La_delete_22 ?_
    exact jr_iret ok (jg_at fin u.1) (Nat.le_of_eq (Nat.zero_add _)) (Nat.le_of_eq (Nat.zero_add _)) () rfl hφ.1 sg_same d_La_delete_23
  · skip
    refine jh_callT ok hI hTT m_La_42 (jgT_frame (r_WT_delete (jx_l X) hnt D g A0 C0 S v1 v2 v4 1 r c9 S9 hs) [al D 2 o 1 fo]) (sg_atk 0 rfl) rfl rfl rfl (Nat.le_of_ble_eq_true rfl) ⟨by rw [hR]; exact Nat.le_of_ble_eq_true rfl, by rw [hR]; exact Nat.le_of_ble_eq_true rfl⟩ ⟨by rw [hR]; exact Nat.le_of_eq (Nat.zero_add _), by rw [hR]; exact Nat.le_of_eq (Nat.zero_add _)⟩ d_La_delete_8 (fun u v ho _ => by cases (show Outcome.threw _ = Outcome.returned v from ho)) (fun u a ho hφ => ?_)
    cases (show Outcome.threw u.2 = Outcome.threw a from ho)
    show jwT X (0 + (C0.bc - c9.bc)) (0 + (C0.bs - c9.bs)) ((wtL D g u.1 c9 S9 ++ [xc D u.2 0]) ++ [al D 2 o 1 fo]) [(0, .ref (g 0)), (1, .int (ii v1)), (2, .long v2), (4, .long v4), (6, .ref o)] 8 [.int (ii 0), .ref o] u.2
    refine jwT_ent (sg_swap2 _ _ _) ?_
    refine jwT_caught [(0, 13, 16, 29), (0, 13, 20, 19)] (0, 13, 24, 13) [] [(0, 13, 16, 29), (0, 13, 20, 19), (0, 13, 24, 13)] (fun i => if i = 13 then 0 else if i = 19 then 1 else 2) ok hTT hNN hhs rfl (by decide) rfl (List.forall_mem_cons.mpr ⟨⟨by decide, by decide, by decide, w_580⟩, (List.forall_mem_cons.mpr ⟨⟨by decide, by decide, by decide, w_410⟩, (fun _ h => absurd h List.not_mem_nil)⟩)⟩) (by decide) (by decide) w_310 rfl ?_
    refine jr_dropR _ ?_
    refine jr_astore [(7, .ref u.2), (0, .ref (g 0)), (1, .int (ii v1)), (2, .long v2), (4, .long v4), (6, .ref o)] ok d_La_delete_24 (by rw [hN]; decide) rfl ?_
    refine jr_iconst ok d_La_delete_26 ?_
    exact jr_iret ok (jg_at fin u.1) (Nat.le_of_eq (Nat.zero_add _)) (Nat.le_of_eq (Nat.zero_add _)) () rfl hφ.1 sg_same d_La_delete_27

set_option maxHeartbeats 4000000 in
set_option maxRecDepth 100000 in
theorem h_La_retain (l : Launch) (hnt : jl_nt l) (D : jd_T) (g : Nat → Nat) (A0 : AW) (C0 : CW) (S : WS) (o : Nat) (fo : Int → Int64) (v1 : Int64) (t : Int) (r : Int) (c9 : CW) (S9 : WS) (k : Int) (f9 : Int → Int64) (hs : s_WT_retain C0 S v1 = some ((t, r), c9, S9)) (hk : (t = 0 ∧ k = 0 ∧ f9 = (fun j => if j = 0 then ll (w32 r) else fo j)) ∨ (t = 2 ∧ k = 1 ∧ fo = f9)) : jgH_C l D y_La_retain b_La_retain 5 (some .int) [(0, 9, 12, 19)] { frames := 7, cells := C0.bc, slots := C0.bs, locals := 144 } [.ref (g 0), .long v1, .ref o] (wtL D g A0 C0 S ++ [al D 2 o 1 fo]) (fun A : AW => (.returned (some (.int (ii k))), c9.bc ≤ C0.bc ∧ c9.bs ≤ C0.bs, wtL D g A c9 S9 ++ [al D 2 o 1 f9], C0.bc - c9.bc, C0.bs - c9.bs)) := by
  refine jgH_of rfl (Nat.le_of_ble_eq_true rfl) ?_
  intro X hl hR hN ok hI hTT hNN hhs fin
  subst hl
  show jw X 0 0 (wtL D g A0 C0 S ++ [al D 2 o 1 fo]) [(0, .ref (g 0)), (1, .long v1), (3, .ref o)] 0 []
  refine jr_aload_n ok 2 d_La_retain_0 rfl rfl ?_
  refine jr_iconst ok d_La_retain_1 ?_
  refine jr_aload_n ok 0 d_La_retain_2 rfl rfl ?_
  refine jr_lload_n ok 1 d_La_retain_3 rfl rfl ?_
  rcases hk with ⟨rfl, rfl, rfl⟩ | ⟨rfl, rfl, rfl⟩
  · skip
    refine jh_callT ok hI hTT m_La_45 (jgT_frame (r_WT_retain (jx_l X) hnt D g A0 C0 S v1 0 r c9 S9 hs) [al D 2 o 1 fo]) (sg_atk 0 rfl) rfl rfl rfl (Nat.le_of_ble_eq_true rfl) ⟨by rw [hR]; exact Nat.le_of_ble_eq_true rfl, by rw [hR]; exact Nat.le_of_ble_eq_true rfl⟩ ⟨by rw [hR]; exact Nat.le_of_eq (Nat.zero_add _), by rw [hR]; exact Nat.le_of_eq (Nat.zero_add _)⟩ d_La_retain_4 (fun u v ho hφ => ?_) (fun u a ho _ => by cases (show Outcome.returned _ = Outcome.threw a from ho))
    cases (show Outcome.returned (some (.int (ii r))) = Outcome.returned v from ho)
    show jw X (0 + (C0.bc - c9.bc)) (0 + (C0.bs - c9.bs)) ((wtL D g u.1 c9 S9 ++ []) ++ [al D 2 o 1 fo]) [(0, .ref (g 0)), (1, .long v1), (3, .ref o)] 7 [.int (ii r), .int (ii 0), .ref o]
    rw [List.append_nil]
    refine jr_wi2l ok rfl d_La_retain_7 ?_
    refine jr_last (wtL D g u.1 c9 S9 ++ [al D 2 o 1 (fun j => if j = 0 then ll (w32 r) else fo j)]) ok 24 rfl rfl (by decide) (by decide) rfl d_La_retain_8 ?_
    refine jr_goto 16 ok d_La_retain_9 (by decide) ?_
    refine jr_iconst ok d_La_retain_16 ?_
    exact jr_iret ok (jg_at fin u.1) (Nat.le_of_eq (Nat.zero_add _)) (Nat.le_of_eq (Nat.zero_add _)) () rfl hφ.1 sg_same d_La_retain_17
  · skip
    refine jh_callT ok hI hTT m_La_45 (jgT_frame (r_WT_retain (jx_l X) hnt D g A0 C0 S v1 2 r c9 S9 hs) [al D 2 o 1 fo]) (sg_atk 0 rfl) rfl rfl rfl (Nat.le_of_ble_eq_true rfl) ⟨by rw [hR]; exact Nat.le_of_ble_eq_true rfl, by rw [hR]; exact Nat.le_of_ble_eq_true rfl⟩ ⟨by rw [hR]; exact Nat.le_of_eq (Nat.zero_add _), by rw [hR]; exact Nat.le_of_eq (Nat.zero_add _)⟩ d_La_retain_4 (fun u v ho _ => by cases (show Outcome.threw _ = Outcome.returned v from ho)) (fun u a ho hφ => ?_)
    cases (show Outcome.threw u.2 = Outcome.threw a from ho)
    show jwT X (0 + (C0.bc - c9.bc)) (0 + (C0.bs - c9.bs)) ((wtL D g u.1 c9 S9 ++ [xc D u.2 1]) ++ [al D 2 o 1 fo]) [(0, .ref (g 0)), (1, .long v1), (3, .ref o)] 4 [.int (ii 0), .ref o] u.2
    refine jwT_ent (sg_swap2 _ _ _) ?_
    refine jwT_caught [] (0, 9, 12, 19) [] [(0, 9, 12, 19)] (fun i => if i = 13 then 0 else if i = 19 then 1 else 2) ok hTT hNN hhs rfl (by decide) rfl (fun _ h => absurd h List.not_mem_nil) (by decide) (by decide) w_410 rfl ?_
    refine jr_dropR _ ?_
    refine jr_astore [(4, .ref u.2), (0, .ref (g 0)), (1, .long v1), (3, .ref o)] ok d_La_retain_12 (by rw [hN]; decide) rfl ?_
    refine jr_iconst ok d_La_retain_14 ?_
    exact jr_iret ok (jg_at fin u.1) (Nat.le_of_eq (Nat.zero_add _)) (Nat.le_of_eq (Nat.zero_add _)) () rfl hφ.1 sg_same d_La_retain_15

set_option maxHeartbeats 4000000 in
set_option maxRecDepth 100000 in
theorem h_La_ask (l : Launch) (hnt : jl_nt l) (D : jd_T) (g : Nat → Nat) (A0 : AW) (C0 : CW) (S : WS) (o : Nat) (fo : Int → Int64) (v1 : Int64) (v3 : Int64) (v5 : Int) (t : Int) (r : Int) (c9 : CW) (S9 : WS) (k : Int) (f9 : Int → Int64) (hs : s_WT_ask C0 S v1 v3 v5 = some ((t, r), c9, S9)) (hk : (t = 0 ∧ k = 0 ∧ f9 = (fun j => if j = 0 then ll (w32 r) else fo j)) ∨ (t = 2 ∧ k = 1 ∧ fo = f9)) : jgH_C l D y_La_ask b_La_ask 8 (some .int) [(0, 13, 16, 19)] { frames := 83, cells := C0.bc, slots := C0.bs, locals := 2071 } [.ref (g 0), .long v1, .long v3, .int (ii v5), .ref o] (wtL D g A0 C0 S ++ [al D 2 o 1 fo]) (fun A : AW => (.returned (some (.int (ii k))), c9.bc ≤ C0.bc ∧ c9.bs ≤ C0.bs, wtL D g A c9 S9 ++ [al D 2 o 1 f9], C0.bc - c9.bc, C0.bs - c9.bs)) := by
  refine jgH_of rfl (Nat.le_of_ble_eq_true rfl) ?_
  intro X hl hR hN ok hI hTT hNN hhs fin
  subst hl
  show jw X 0 0 (wtL D g A0 C0 S ++ [al D 2 o 1 fo]) [(0, .ref (g 0)), (1, .long v1), (3, .long v3), (5, .int (ii v5)), (6, .ref o)] 0 []
  refine jr_aload ok 4 d_La_ask_0 rfl ?_
  refine jr_iconst ok d_La_ask_2 ?_
  refine jr_aload_n ok 0 d_La_ask_3 rfl rfl ?_
  refine jr_lload_n ok 1 d_La_ask_4 rfl rfl ?_
  refine jr_lload_n ok 2 d_La_ask_5 rfl rfl ?_
  refine jr_iload ok 3 d_La_ask_6 rfl ?_
  rcases hk with ⟨rfl, rfl, rfl⟩ | ⟨rfl, rfl, rfl⟩
  · skip
    refine jh_callT ok hI hTT m_La_49 (jgT_frame (r_WT_ask (jx_l X) hnt D g A0 C0 S v1 v3 v5 0 r c9 S9 hs) [al D 2 o 1 fo]) (sg_atk 0 rfl) rfl rfl rfl (Nat.le_of_ble_eq_true rfl) ⟨by rw [hR]; exact Nat.le_of_ble_eq_true rfl, by rw [hR]; exact Nat.le_of_ble_eq_true rfl⟩ ⟨by rw [hR]; exact Nat.le_of_eq (Nat.zero_add _), by rw [hR]; exact Nat.le_of_eq (Nat.zero_add _)⟩ d_La_ask_8 (fun u v ho hφ => ?_) (fun u a ho _ => by cases (show Outcome.returned _ = Outcome.threw a from ho))
    cases (show Outcome.returned (some (.int (ii r))) = Outcome.returned v from ho)
    show jw X (0 + (C0.bc - c9.bc)) (0 + (C0.bs - c9.bs)) ((wtL D g u.1 c9 S9 ++ []) ++ [al D 2 o 1 fo]) [(0, .ref (g 0)), (1, .long v1), (3, .long v3), (5, .int (ii v5)), (6, .ref o)] 11 [.int (ii r), .int (ii 0), .ref o]
    rw [List.append_nil]
    refine jr_wi2l ok rfl d_La_ask_11 ?_
    refine jr_last (wtL D g u.1 c9 S9 ++ [al D 2 o 1 (fun j => if j = 0 then ll (w32 r) else fo j)]) ok 24 rfl rfl (by decide) (by decide) rfl d_La_ask_12 ?_
    refine jr_goto 20 ok d_La_ask_13 (by decide) ?_
    refine jr_iconst ok d_La_ask_20 ?_
    exact jr_iret ok (jg_at fin u.1) (Nat.le_of_eq (Nat.zero_add _)) (Nat.le_of_eq (Nat.zero_add _)) () rfl hφ.1 sg_same d_La_ask_21
  · skip
    refine jh_callT ok hI hTT m_La_49 (jgT_frame (r_WT_ask (jx_l X) hnt D g A0 C0 S v1 v3 v5 2 r c9 S9 hs) [al D 2 o 1 fo]) (sg_atk 0 rfl) rfl rfl rfl (Nat.le_of_ble_eq_true rfl) ⟨by rw [hR]; exact Nat.le_of_ble_eq_true rfl, by rw [hR]; exact Nat.le_of_ble_eq_true rfl⟩ ⟨by rw [hR]; exact Nat.le_of_eq (Nat.zero_add _), by rw [hR]; exact Nat.le_of_eq (Nat.zero_add _)⟩ d_La_ask_8 (fun u v ho _ => by cases (show Outcome.threw _ = Outcome.returned v from ho)) (fun u a ho hφ => ?_)
    cases (show Outcome.threw u.2 = Outcome.threw a from ho)
    show jwT X (0 + (C0.bc - c9.bc)) (0 + (C0.bs - c9.bs)) ((wtL D g u.1 c9 S9 ++ [xc D u.2 1]) ++ [al D 2 o 1 fo]) [(0, .ref (g 0)), (1, .long v1), (3, .long v3), (5, .int (ii v5)), (6, .ref o)] 8 [.int (ii 0), .ref o] u.2
    refine jwT_ent (sg_swap2 _ _ _) ?_
    refine jwT_caught [] (0, 13, 16, 19) [] [(0, 13, 16, 19)] (fun i => if i = 13 then 0 else if i = 19 then 1 else 2) ok hTT hNN hhs rfl (by decide) rfl (fun _ h => absurd h List.not_mem_nil) (by decide) (by decide) w_410 rfl ?_
    refine jr_dropR _ ?_
    refine jr_astore [(7, .ref u.2), (0, .ref (g 0)), (1, .long v1), (3, .long v3), (5, .int (ii v5)), (6, .ref o)] ok d_La_ask_16 (by rw [hN]; decide) rfl ?_
    refine jr_iconst ok d_La_ask_18 ?_
    exact jr_iret ok (jg_at fin u.1) (Nat.le_of_eq (Nat.zero_add _)) (Nat.le_of_eq (Nat.zero_add _)) () rfl hφ.1 sg_same d_La_ask_19

set_option maxHeartbeats 4000000 in
set_option maxRecDepth 100000 in
theorem h_La_text (l : Launch) (hnt : jl_nt l) (D : jd_T) (g : Nat → Nat) (A0 : AW) (C0 : CW) (S : WS) (o : Nat) (fo : Int → Int64) (v1 : Int) (v2 : Int) (v3 : Int) (t : Int) (r : Int) (c9 : CW) (S9 : WS) (k : Int) (f9 : Int → Int64) (hs : s_WT_text C0 S v1 v2 v3 = some ((t, r), c9, S9)) (hk : (t = 0 ∧ k = 0 ∧ f9 = (fun j => if j = 0 then ll (w32 r) else fo j)) ∨ (t = 3 ∧ k = 1 ∧ fo = f9)) : jgH_C l D y_La_text b_La_text 6 (some .int) [(0, 12, 15, 29)] { frames := 7, cells := C0.bc, slots := C0.bs, locals := 113 } [.ref (g 0), .int (ii v1), .int (ii v2), .int (ii v3), .ref o] (wtL D g A0 C0 S ++ [al D 2 o 1 fo]) (fun A : AW => (.returned (some (.int (ii k))), c9.bc ≤ C0.bc ∧ c9.bs ≤ C0.bs, wtL D g A c9 S9 ++ [al D 2 o 1 f9], C0.bc - c9.bc, C0.bs - c9.bs)) := by
  refine jgH_of rfl (Nat.le_of_ble_eq_true rfl) ?_
  intro X hl hR hN ok hI hTT hNN hhs fin
  subst hl
  show jw X 0 0 (wtL D g A0 C0 S ++ [al D 2 o 1 fo]) [(0, .ref (g 0)), (1, .int (ii v1)), (2, .int (ii v2)), (3, .int (ii v3)), (4, .ref o)] 0 []
  refine jr_aload ok 4 d_La_text_0 rfl ?_
  refine jr_iconst ok d_La_text_2 ?_
  refine jr_aload_n ok 0 d_La_text_3 rfl rfl ?_
  refine jr_iload_n ok 1 d_La_text_4 rfl rfl ?_
  refine jr_iload_n ok 2 d_La_text_5 rfl rfl ?_
  refine jr_iload_n ok 3 d_La_text_6 rfl rfl ?_
  rcases hk with ⟨rfl, rfl, rfl⟩ | ⟨rfl, rfl, rfl⟩
  · skip
    refine jh_callT ok hI hTT m_La_53 (jgT_frame (r_WT_text (jx_l X) hnt D g A0 C0 S v1 v2 v3 0 r c9 S9 hs) [al D 2 o 1 fo]) (sg_atk 0 rfl) rfl rfl rfl (Nat.le_of_ble_eq_true rfl) ⟨by rw [hR]; exact Nat.le_of_ble_eq_true rfl, by rw [hR]; exact Nat.le_of_ble_eq_true rfl⟩ ⟨by rw [hR]; exact Nat.le_of_eq (Nat.zero_add _), by rw [hR]; exact Nat.le_of_eq (Nat.zero_add _)⟩ d_La_text_7 (fun u v ho hφ => ?_) (fun u a ho _ => by cases (show Outcome.returned _ = Outcome.threw a from ho))
    cases (show Outcome.returned (some (.int (ii r))) = Outcome.returned v from ho)
    show jw X (0 + (C0.bc - c9.bc)) (0 + (C0.bs - c9.bs)) ((wtL D g u.1 c9 S9 ++ []) ++ [al D 2 o 1 fo]) [(0, .ref (g 0)), (1, .int (ii v1)), (2, .int (ii v2)), (3, .int (ii v3)), (4, .ref o)] 10 [.int (ii r), .int (ii 0), .ref o]
    rw [List.append_nil]
    refine jr_wi2l ok rfl d_La_text_10 ?_
    refine jr_last (wtL D g u.1 c9 S9 ++ [al D 2 o 1 (fun j => if j = 0 then ll (w32 r) else fo j)]) ok 24 rfl rfl (by decide) (by decide) rfl d_La_text_11 ?_
    refine jr_goto 19 ok d_La_text_12 (by decide) ?_
    refine jr_iconst ok d_La_text_19 ?_
    exact jr_iret ok (jg_at fin u.1) (Nat.le_of_eq (Nat.zero_add _)) (Nat.le_of_eq (Nat.zero_add _)) () rfl hφ.1 sg_same d_La_text_20
  · skip
    refine jh_callT ok hI hTT m_La_53 (jgT_frame (r_WT_text (jx_l X) hnt D g A0 C0 S v1 v2 v3 3 r c9 S9 hs) [al D 2 o 1 fo]) (sg_atk 0 rfl) rfl rfl rfl (Nat.le_of_ble_eq_true rfl) ⟨by rw [hR]; exact Nat.le_of_ble_eq_true rfl, by rw [hR]; exact Nat.le_of_ble_eq_true rfl⟩ ⟨by rw [hR]; exact Nat.le_of_eq (Nat.zero_add _), by rw [hR]; exact Nat.le_of_eq (Nat.zero_add _)⟩ d_La_text_7 (fun u v ho _ => by cases (show Outcome.threw _ = Outcome.returned v from ho)) (fun u a ho hφ => ?_)
    cases (show Outcome.threw u.2 = Outcome.threw a from ho)
    show jwT X (0 + (C0.bc - c9.bc)) (0 + (C0.bs - c9.bs)) ((wtL D g u.1 c9 S9 ++ [xc D u.2 2]) ++ [al D 2 o 1 fo]) [(0, .ref (g 0)), (1, .int (ii v1)), (2, .int (ii v2)), (3, .int (ii v3)), (4, .ref o)] 7 [.int (ii 0), .ref o] u.2
    refine jwT_ent (sg_swap2 _ _ _) ?_
    refine jwT_caught [] (0, 12, 15, 29) [] [(0, 12, 15, 29)] (fun i => if i = 13 then 0 else if i = 19 then 1 else 2) ok hTT hNN hhs rfl (by decide) rfl (fun _ h => absurd h List.not_mem_nil) (by decide) (by decide) w_580 rfl ?_
    refine jr_dropR _ ?_
    refine jr_astore [(5, .ref u.2), (0, .ref (g 0)), (1, .int (ii v1)), (2, .int (ii v2)), (3, .int (ii v3)), (4, .ref o)] ok d_La_text_15 (by rw [hN]; decide) rfl ?_
    refine jr_iconst ok d_La_text_17 ?_
    exact jr_iret ok (jg_at fin u.1) (Nat.le_of_eq (Nat.zero_add _)) (Nat.le_of_eq (Nat.zero_add _)) () rfl hφ.1 sg_same d_La_text_18

set_option maxHeartbeats 4000000 in
set_option maxRecDepth 100000 in
theorem h_La_isThere (l : Launch) (hnt : jl_nt l) (D : jd_T) (g : Nat → Nat) (A0 : AW) (C0 : CW) (S : WS) (o : Nat) (fo : Int → Int64) (v1 : Int) (v2 : Int) (t : Int) (r : Int) (c9 : CW) (S9 : WS) (k : Int) (f9 : Int → Int64) (hs : s_WT_isThere C0 S v1 v2 = some ((t, r), c9, S9)) (hk : (t = 0 ∧ k = 0 ∧ f9 = (fun j => if j = 0 then (if w32 r = 0 then ll 0 else ll 1) else fo j)) ∨ (t = 3 ∧ k = 1 ∧ fo = f9)) : jgH_C l D y_La_isThere b_La_isThere 5 (some .int) [(0, 17, 20, 29)] { frames := 8, cells := C0.bc, slots := C0.bs, locals := 136 } [.ref (g 0), .int (ii v1), .int (ii v2), .ref o] (wtL D g A0 C0 S ++ [al D 2 o 1 fo]) (fun A : AW => (.returned (some (.int (ii k))), c9.bc ≤ C0.bc ∧ c9.bs ≤ C0.bs, wtL D g A c9 S9 ++ [al D 2 o 1 f9], C0.bc - c9.bc, C0.bs - c9.bs)) := by
  refine jgH_of rfl (Nat.le_of_ble_eq_true rfl) ?_
  intro X hl hR hN ok hI hTT hNN hhs fin
  subst hl
  show jw X 0 0 (wtL D g A0 C0 S ++ [al D 2 o 1 fo]) [(0, .ref (g 0)), (1, .int (ii v1)), (2, .int (ii v2)), (3, .ref o)] 0 []
  refine jr_aload_n ok 3 d_La_isThere_0 rfl rfl ?_
  refine jr_iconst ok d_La_isThere_1 ?_
  refine jr_aload_n ok 0 d_La_isThere_2 rfl rfl ?_
  refine jr_iload_n ok 1 d_La_isThere_3 rfl rfl ?_
  refine jr_iload_n ok 2 d_La_isThere_4 rfl rfl ?_
  rcases hk with ⟨rfl, rfl, rfl⟩ | ⟨rfl, rfl, rfl⟩
  · skip
    refine jh_callT ok hI hTT m_La_57 (jgT_frame (r_WT_isThere (jx_l X) hnt D g A0 C0 S v1 v2 0 r c9 S9 hs) [al D 2 o 1 fo]) (sg_atk 0 rfl) rfl rfl rfl (Nat.le_of_ble_eq_true rfl) ⟨by rw [hR]; exact Nat.le_of_ble_eq_true rfl, by rw [hR]; exact Nat.le_of_ble_eq_true rfl⟩ ⟨by rw [hR]; exact Nat.le_of_eq (Nat.zero_add _), by rw [hR]; exact Nat.le_of_eq (Nat.zero_add _)⟩ d_La_isThere_5 (fun u v ho hφ => ?_) (fun u a ho _ => by cases (show Outcome.returned _ = Outcome.threw a from ho))
    cases (show Outcome.returned (some (.int (ii r))) = Outcome.returned v from ho)
    show jw X (0 + (C0.bc - c9.bc)) (0 + (C0.bs - c9.bs)) ((wtL D g u.1 c9 S9 ++ []) ++ [al D 2 o 1 fo]) [(0, .ref (g 0)), (1, .int (ii v1)), (2, .int (ii v2)), (3, .ref o)] 8 [.int (ii r), .int (ii 0), .ref o]
    rw [List.append_nil]
    refine jr_wif_eq 15 ok rfl d_La_isThere_8 (by decide) (fun c1 => ?_) (fun c1 => ?_)
    · skip
      refine jr_lconst (z := 0) ok d_La_isThere_15 (by decide +kernel) ?_
      refine jr_last (wtL D g u.1 c9 S9 ++ [al D 2 o 1 (fun j => if j = 0 then ll 0 else fo j)]) ok 24 rfl rfl (by decide) (by decide) rfl d_La_isThere_16 ?_
      refine jr_goto 24 ok d_La_isThere_17 (by decide) ?_
      refine jr_iconst ok d_La_isThere_24 ?_
      exact jr_iret ok (jg_at fin u.1) (Nat.le_of_eq (Nat.zero_add _)) (Nat.le_of_eq (Nat.zero_add _)) () rfl hφ.1 (fun h hh => by rw [if_pos c1]; exact hh) d_La_isThere_25
    · skip
      refine jr_lconst (z := 1) ok d_La_isThere_11 (by decide +kernel) ?_
      refine jr_goto 16 ok d_La_isThere_12 (by decide) ?_
      refine jr_last (wtL D g u.1 c9 S9 ++ [al D 2 o 1 (fun j => if j = 0 then ll 1 else fo j)]) ok 24 rfl rfl (by decide) (by decide) rfl d_La_isThere_16 ?_
      refine jr_goto 24 ok d_La_isThere_17 (by decide) ?_
      refine jr_iconst ok d_La_isThere_24 ?_
      exact jr_iret ok (jg_at fin u.1) (Nat.le_of_eq (Nat.zero_add _)) (Nat.le_of_eq (Nat.zero_add _)) () rfl hφ.1 (fun h hh => by rw [if_neg c1]; exact hh) d_La_isThere_25
  · skip
    refine jh_callT ok hI hTT m_La_57 (jgT_frame (r_WT_isThere (jx_l X) hnt D g A0 C0 S v1 v2 3 r c9 S9 hs) [al D 2 o 1 fo]) (sg_atk 0 rfl) rfl rfl rfl (Nat.le_of_ble_eq_true rfl) ⟨by rw [hR]; exact Nat.le_of_ble_eq_true rfl, by rw [hR]; exact Nat.le_of_ble_eq_true rfl⟩ ⟨by rw [hR]; exact Nat.le_of_eq (Nat.zero_add _), by rw [hR]; exact Nat.le_of_eq (Nat.zero_add _)⟩ d_La_isThere_5 (fun u v ho _ => by cases (show Outcome.threw _ = Outcome.returned v from ho)) (fun u a ho hφ => ?_)
    cases (show Outcome.threw u.2 = Outcome.threw a from ho)
    show jwT X (0 + (C0.bc - c9.bc)) (0 + (C0.bs - c9.bs)) ((wtL D g u.1 c9 S9 ++ [xc D u.2 2]) ++ [al D 2 o 1 fo]) [(0, .ref (g 0)), (1, .int (ii v1)), (2, .int (ii v2)), (3, .ref o)] 5 [.int (ii 0), .ref o] u.2
    refine jwT_ent (sg_swap2 _ _ _) ?_
    refine jwT_caught [] (0, 17, 20, 29) [] [(0, 17, 20, 29)] (fun i => if i = 13 then 0 else if i = 19 then 1 else 2) ok hTT hNN hhs rfl (by decide) rfl (fun _ h => absurd h List.not_mem_nil) (by decide) (by decide) w_580 rfl ?_
    refine jr_dropR _ ?_
    refine jr_astore [(4, .ref u.2), (0, .ref (g 0)), (1, .int (ii v1)), (2, .int (ii v2)), (3, .ref o)] ok d_La_isThere_20 (by rw [hN]; decide) rfl ?_
    refine jr_iconst ok d_La_isThere_22 ?_
    exact jr_iret ok (jg_at fin u.1) (Nat.le_of_eq (Nat.zero_add _)) (Nat.le_of_eq (Nat.zero_add _)) () rfl hφ.1 sg_same d_La_isThere_23

set_option maxHeartbeats 4000000 in
set_option maxRecDepth 100000 in
theorem h_La_cell1 (l : Launch) (hnt : jl_nt l) (D : jd_T) (g : Nat → Nat) (A0 : AW) (C0 : CW) (S : WS) (o : Nat) (fo : Int → Int64) (v1 : Int) (v2 : Int) (t : Int) (r : Int64) (c9 : CW) (S9 : WS) (k : Int) (f9 : Int → Int64) (hs : s_WT_cell C0 S v1 v2 = some ((t, r), c9, S9)) (hk : (t = 0 ∧ k = 0 ∧ f9 = (fun j => if j = 0 then r else fo j)) ∨ (t = 3 ∧ k = 1 ∧ fo = f9)) : jgH_C l D y_La_cell1 b_La_cell1 5 (some .int) [(0, 9, 12, 29)] { frames := 8, cells := C0.bc, slots := C0.bs, locals := 136 } [.ref (g 0), .int (ii v1), .int (ii v2), .ref o] (wtL D g A0 C0 S ++ [al D 2 o 1 fo]) (fun A : AW => (.returned (some (.int (ii k))), c9.bc ≤ C0.bc ∧ c9.bs ≤ C0.bs, wtL D g A c9 S9 ++ [al D 2 o 1 f9], C0.bc - c9.bc, C0.bs - c9.bs)) := by
  refine jgH_of rfl (Nat.le_of_ble_eq_true rfl) ?_
  intro X hl hR hN ok hI hTT hNN hhs fin
  subst hl
  show jw X 0 0 (wtL D g A0 C0 S ++ [al D 2 o 1 fo]) [(0, .ref (g 0)), (1, .int (ii v1)), (2, .int (ii v2)), (3, .ref o)] 0 []
  refine jr_aload_n ok 3 d_La_cell1_0 rfl rfl ?_
  refine jr_iconst ok d_La_cell1_1 ?_
  refine jr_aload_n ok 0 d_La_cell1_2 rfl rfl ?_
  refine jr_iload_n ok 1 d_La_cell1_3 rfl rfl ?_
  refine jr_iload_n ok 2 d_La_cell1_4 rfl rfl ?_
  rcases hk with ⟨rfl, rfl, rfl⟩ | ⟨rfl, rfl, rfl⟩
  · skip
    refine jh_callT ok hI hTT m_La_61 (jgT_frame (r_WT_cell (jx_l X) hnt D g A0 C0 S v1 v2 0 r c9 S9 hs) [al D 2 o 1 fo]) (sg_atk 0 rfl) rfl rfl rfl (Nat.le_of_ble_eq_true rfl) ⟨by rw [hR]; exact Nat.le_of_ble_eq_true rfl, by rw [hR]; exact Nat.le_of_ble_eq_true rfl⟩ ⟨by rw [hR]; exact Nat.le_of_eq (Nat.zero_add _), by rw [hR]; exact Nat.le_of_eq (Nat.zero_add _)⟩ d_La_cell1_5 (fun u v ho hφ => ?_) (fun u a ho _ => by cases (show Outcome.returned _ = Outcome.threw a from ho))
    cases (show Outcome.returned (some (.long r)) = Outcome.returned v from ho)
    show jw X (0 + (C0.bc - c9.bc)) (0 + (C0.bs - c9.bs)) ((wtL D g u.1 c9 S9 ++ []) ++ [al D 2 o 1 fo]) [(0, .ref (g 0)), (1, .int (ii v1)), (2, .int (ii v2)), (3, .ref o)] 8 [.long r, .int (ii 0), .ref o]
    rw [List.append_nil]
    refine jr_last (wtL D g u.1 c9 S9 ++ [al D 2 o 1 (fun j => if j = 0 then r else fo j)]) ok 24 rfl rfl (by decide) (by decide) rfl d_La_cell1_8 ?_
    refine jr_goto 16 ok d_La_cell1_9 (by decide) ?_
    refine jr_iconst ok d_La_cell1_16 ?_
    exact jr_iret ok (jg_at fin u.1) (Nat.le_of_eq (Nat.zero_add _)) (Nat.le_of_eq (Nat.zero_add _)) () rfl hφ.1 sg_same d_La_cell1_17
  · skip
    refine jh_callT ok hI hTT m_La_61 (jgT_frame (r_WT_cell (jx_l X) hnt D g A0 C0 S v1 v2 3 r c9 S9 hs) [al D 2 o 1 fo]) (sg_atk 0 rfl) rfl rfl rfl (Nat.le_of_ble_eq_true rfl) ⟨by rw [hR]; exact Nat.le_of_ble_eq_true rfl, by rw [hR]; exact Nat.le_of_ble_eq_true rfl⟩ ⟨by rw [hR]; exact Nat.le_of_eq (Nat.zero_add _), by rw [hR]; exact Nat.le_of_eq (Nat.zero_add _)⟩ d_La_cell1_5 (fun u v ho _ => by cases (show Outcome.threw _ = Outcome.returned v from ho)) (fun u a ho hφ => ?_)
    cases (show Outcome.threw u.2 = Outcome.threw a from ho)
    show jwT X (0 + (C0.bc - c9.bc)) (0 + (C0.bs - c9.bs)) ((wtL D g u.1 c9 S9 ++ [xc D u.2 2]) ++ [al D 2 o 1 fo]) [(0, .ref (g 0)), (1, .int (ii v1)), (2, .int (ii v2)), (3, .ref o)] 5 [.int (ii 0), .ref o] u.2
    refine jwT_ent (sg_swap2 _ _ _) ?_
    refine jwT_caught [] (0, 9, 12, 29) [] [(0, 9, 12, 29)] (fun i => if i = 13 then 0 else if i = 19 then 1 else 2) ok hTT hNN hhs rfl (by decide) rfl (fun _ h => absurd h List.not_mem_nil) (by decide) (by decide) w_580 rfl ?_
    refine jr_dropR _ ?_
    refine jr_astore [(4, .ref u.2), (0, .ref (g 0)), (1, .int (ii v1)), (2, .int (ii v2)), (3, .ref o)] ok d_La_cell1_12 (by rw [hN]; decide) rfl ?_
    refine jr_iconst ok d_La_cell1_14 ?_
    exact jr_iret ok (jg_at fin u.1) (Nat.le_of_eq (Nat.zero_add _)) (Nat.le_of_eq (Nat.zero_add _)) () rfl hφ.1 sg_same d_La_cell1_15

set_option maxHeartbeats 4000000 in
set_option maxRecDepth 100000 in
theorem h_La_last (l : Launch) (hnt : jl_nt l) (D : jd_T) (g : Nat → Nat) (A0 : AW) (C0 : CW) (S : WS) (o : Nat) (fo : Int → Int64) (v1 : Int) (t : Int) (r : Int64) (c9 : CW) (S9 : WS) (k : Int) (f9 : Int → Int64) (hs : s_WT_last C0 S v1 = some ((t, r), c9, S9)) (hk : (t = 0 ∧ k = 0 ∧ f9 = (fun j => if j = 0 then r else fo j)) ∨ (t = 3 ∧ k = 1 ∧ fo = f9)) : jgH_C l D y_La_last b_La_last 4 (some .int) [(0, 8, 11, 29)] { frames := 8, cells := C0.bc, slots := C0.bs, locals := 133 } [.ref (g 0), .int (ii v1), .ref o] (wtL D g A0 C0 S ++ [al D 2 o 1 fo]) (fun A : AW => (.returned (some (.int (ii k))), c9.bc ≤ C0.bc ∧ c9.bs ≤ C0.bs, wtL D g A c9 S9 ++ [al D 2 o 1 f9], C0.bc - c9.bc, C0.bs - c9.bs)) := by
  refine jgH_of rfl (Nat.le_of_ble_eq_true rfl) ?_
  intro X hl hR hN ok hI hTT hNN hhs fin
  subst hl
  show jw X 0 0 (wtL D g A0 C0 S ++ [al D 2 o 1 fo]) [(0, .ref (g 0)), (1, .int (ii v1)), (2, .ref o)] 0 []
  refine jr_aload_n ok 2 d_La_last_0 rfl rfl ?_
  refine jr_iconst ok d_La_last_1 ?_
  refine jr_aload_n ok 0 d_La_last_2 rfl rfl ?_
  refine jr_iload_n ok 1 d_La_last_3 rfl rfl ?_
  rcases hk with ⟨rfl, rfl, rfl⟩ | ⟨rfl, rfl, rfl⟩
  · skip
    refine jh_callT ok hI hTT m_La_65 (jgT_frame (r_WT_last (jx_l X) hnt D g A0 C0 S v1 0 r c9 S9 hs) [al D 2 o 1 fo]) (sg_atk 0 rfl) rfl rfl rfl (Nat.le_of_ble_eq_true rfl) ⟨by rw [hR]; exact Nat.le_of_ble_eq_true rfl, by rw [hR]; exact Nat.le_of_ble_eq_true rfl⟩ ⟨by rw [hR]; exact Nat.le_of_eq (Nat.zero_add _), by rw [hR]; exact Nat.le_of_eq (Nat.zero_add _)⟩ d_La_last_4 (fun u v ho hφ => ?_) (fun u a ho _ => by cases (show Outcome.returned _ = Outcome.threw a from ho))
    cases (show Outcome.returned (some (.long r)) = Outcome.returned v from ho)
    show jw X (0 + (C0.bc - c9.bc)) (0 + (C0.bs - c9.bs)) ((wtL D g u.1 c9 S9 ++ []) ++ [al D 2 o 1 fo]) [(0, .ref (g 0)), (1, .int (ii v1)), (2, .ref o)] 7 [.long r, .int (ii 0), .ref o]
    rw [List.append_nil]
    refine jr_last (wtL D g u.1 c9 S9 ++ [al D 2 o 1 (fun j => if j = 0 then r else fo j)]) ok 24 rfl rfl (by decide) (by decide) rfl d_La_last_7 ?_
    refine jr_goto 14 ok d_La_last_8 (by decide) ?_
    refine jr_iconst ok d_La_last_14 ?_
    exact jr_iret ok (jg_at fin u.1) (Nat.le_of_eq (Nat.zero_add _)) (Nat.le_of_eq (Nat.zero_add _)) () rfl hφ.1 sg_same d_La_last_15
  · skip
    refine jh_callT ok hI hTT m_La_65 (jgT_frame (r_WT_last (jx_l X) hnt D g A0 C0 S v1 3 r c9 S9 hs) [al D 2 o 1 fo]) (sg_atk 0 rfl) rfl rfl rfl (Nat.le_of_ble_eq_true rfl) ⟨by rw [hR]; exact Nat.le_of_ble_eq_true rfl, by rw [hR]; exact Nat.le_of_ble_eq_true rfl⟩ ⟨by rw [hR]; exact Nat.le_of_eq (Nat.zero_add _), by rw [hR]; exact Nat.le_of_eq (Nat.zero_add _)⟩ d_La_last_4 (fun u v ho _ => by cases (show Outcome.threw _ = Outcome.returned v from ho)) (fun u a ho hφ => ?_)
    cases (show Outcome.threw u.2 = Outcome.threw a from ho)
    show jwT X (0 + (C0.bc - c9.bc)) (0 + (C0.bs - c9.bs)) ((wtL D g u.1 c9 S9 ++ [xc D u.2 2]) ++ [al D 2 o 1 fo]) [(0, .ref (g 0)), (1, .int (ii v1)), (2, .ref o)] 4 [.int (ii 0), .ref o] u.2
    refine jwT_ent (sg_swap2 _ _ _) ?_
    refine jwT_caught [] (0, 8, 11, 29) [] [(0, 8, 11, 29)] (fun i => if i = 13 then 0 else if i = 19 then 1 else 2) ok hTT hNN hhs rfl (by decide) rfl (fun _ h => absurd h List.not_mem_nil) (by decide) (by decide) w_580 rfl ?_
    refine jr_dropR _ ?_
    refine jr_astore_n [(3, .ref u.2), (0, .ref (g 0)), (1, .int (ii v1)), (2, .ref o)] ok d_La_last_11 rfl (by rw [hN]; decide) rfl ?_
    refine jr_iconst ok d_La_last_12 ?_
    exact jr_iret ok (jg_at fin u.1) (Nat.le_of_eq (Nat.zero_add _)) (Nat.le_of_eq (Nat.zero_add _)) () rfl hφ.1 sg_same d_La_last_13

set_option maxHeartbeats 4000000 in
set_option maxRecDepth 100000 in
theorem h_La_pack (l : Launch) (hnt : jl_nt l) (D : jd_T) (g : Nat → Nat) (A0 : AW) (C0 : CW) (S : WS) (o : Nat) (fo : Int → Int64) (t : Int) (r : Int) (c9 : CW) (S9 : WS) (k : Int) (f9 : Int → Int64) (hs : s_WT_pack C0 S = some ((t, r), c9, S9)) (hk : (t = 0 ∧ k = 0 ∧ f9 = (fun j => if j = 0 then ll (w32 r) else fo j)) ∨ (t = 1 ∧ k = 1 ∧ fo = f9)) : jgH_C l D y_La_pack b_La_pack 3 (some .int) [(0, 8, 11, 13)] { frames := 7, cells := C0.bc, slots := C0.bs, locals := 110 } [.ref (g 0), .ref o] (wtL D g A0 C0 S ++ [al D 2 o 1 fo]) (fun A : AW => (.returned (some (.int (ii k))), c9.bc ≤ C0.bc ∧ c9.bs ≤ C0.bs, wtL D g A c9 S9 ++ [al D 2 o 1 f9], C0.bc - c9.bc, C0.bs - c9.bs)) := by
  refine jgH_of rfl (Nat.le_of_ble_eq_true rfl) ?_
  intro X hl hR hN ok hI hTT hNN hhs fin
  subst hl
  show jw X 0 0 (wtL D g A0 C0 S ++ [al D 2 o 1 fo]) [(0, .ref (g 0)), (1, .ref o)] 0 []
  refine jr_aload_n ok 1 d_La_pack_0 rfl rfl ?_
  refine jr_iconst ok d_La_pack_1 ?_
  refine jr_aload_n ok 0 d_La_pack_2 rfl rfl ?_
  rcases hk with ⟨rfl, rfl, rfl⟩ | ⟨rfl, rfl, rfl⟩
  · skip
    refine jh_callT ok hI hTT m_La_69 (jgT_frame (r_WT_pack (jx_l X) hnt D g A0 C0 S 0 r c9 S9 hs) [al D 2 o 1 fo]) (sg_atk 0 rfl) rfl rfl rfl (Nat.le_of_ble_eq_true rfl) ⟨by rw [hR]; exact Nat.le_of_ble_eq_true rfl, by rw [hR]; exact Nat.le_of_ble_eq_true rfl⟩ ⟨by rw [hR]; exact Nat.le_of_eq (Nat.zero_add _), by rw [hR]; exact Nat.le_of_eq (Nat.zero_add _)⟩ d_La_pack_3 (fun u v ho hφ => ?_) (fun u a ho _ => by cases (show Outcome.returned _ = Outcome.threw a from ho))
    cases (show Outcome.returned (some (.int (ii r))) = Outcome.returned v from ho)
    show jw X (0 + (C0.bc - c9.bc)) (0 + (C0.bs - c9.bs)) ((wtL D g u.1 c9 S9 ++ []) ++ [al D 2 o 1 fo]) [(0, .ref (g 0)), (1, .ref o)] 6 [.int (ii r), .int (ii 0), .ref o]
    rw [List.append_nil]
    refine jr_wi2l ok rfl d_La_pack_6 ?_
    refine jr_last (wtL D g u.1 c9 S9 ++ [al D 2 o 1 (fun j => if j = 0 then ll (w32 r) else fo j)]) ok 24 rfl rfl (by decide) (by decide) rfl d_La_pack_7 ?_
    refine jr_goto 14 ok d_La_pack_8 (by decide) ?_
    refine jr_iconst ok d_La_pack_14 ?_
    exact jr_iret ok (jg_at fin u.1) (Nat.le_of_eq (Nat.zero_add _)) (Nat.le_of_eq (Nat.zero_add _)) () rfl hφ.1 sg_same d_La_pack_15
  · skip
    refine jh_callT ok hI hTT m_La_69 (jgT_frame (r_WT_pack (jx_l X) hnt D g A0 C0 S 1 r c9 S9 hs) [al D 2 o 1 fo]) (sg_atk 0 rfl) rfl rfl rfl (Nat.le_of_ble_eq_true rfl) ⟨by rw [hR]; exact Nat.le_of_ble_eq_true rfl, by rw [hR]; exact Nat.le_of_ble_eq_true rfl⟩ ⟨by rw [hR]; exact Nat.le_of_eq (Nat.zero_add _), by rw [hR]; exact Nat.le_of_eq (Nat.zero_add _)⟩ d_La_pack_3 (fun u v ho _ => by cases (show Outcome.threw _ = Outcome.returned v from ho)) (fun u a ho hφ => ?_)
    cases (show Outcome.threw u.2 = Outcome.threw a from ho)
    show jwT X (0 + (C0.bc - c9.bc)) (0 + (C0.bs - c9.bs)) ((wtL D g u.1 c9 S9 ++ [xc D u.2 0]) ++ [al D 2 o 1 fo]) [(0, .ref (g 0)), (1, .ref o)] 3 [.int (ii 0), .ref o] u.2
    refine jwT_ent (sg_swap2 _ _ _) ?_
    refine jwT_caught [] (0, 8, 11, 13) [] [(0, 8, 11, 13)] (fun i => if i = 13 then 0 else if i = 19 then 1 else 2) ok hTT hNN hhs rfl (by decide) rfl (fun _ h => absurd h List.not_mem_nil) (by decide) (by decide) w_310 rfl ?_
    refine jr_dropR _ ?_
    refine jr_astore_n [(2, .ref u.2), (0, .ref (g 0)), (1, .ref o)] ok d_La_pack_11 rfl (by rw [hN]; decide) rfl ?_
    refine jr_iconst ok d_La_pack_12 ?_
    exact jr_iret ok (jg_at fin u.1) (Nat.le_of_eq (Nat.zero_add _)) (Nat.le_of_eq (Nat.zero_add _)) () rfl hφ.1 sg_same d_La_pack_13

set_option maxHeartbeats 4000000 in
set_option maxRecDepth 100000 in
theorem h_La_count (l : Launch) (hnt : jl_nt l) (D : jd_T) (g : Nat → Nat) (A0 : AW) (C0 : CW) (S : WS) (o : Nat) (fo : Int → Int64) (v1 : Int) (t : Int) (r : Int) (c9 : CW) (S9 : WS) (k : Int) (f9 : Int → Int64) (hs : s_WT_count C0 S v1 = some ((t, r), c9, S9)) (hk : (t = 0 ∧ k = 0 ∧ f9 = (fun j => if j = 0 then ll (w32 r) else fo j)) ∨ (t = 2 ∧ k = 1 ∧ fo = f9)) : jgH_C l D y_La_count b_La_count 4 (some .int) [(0, 9, 12, 19)] { frames := 7, cells := C0.bc, slots := C0.bs, locals := 111 } [.ref (g 0), .int (ii v1), .ref o] (wtL D g A0 C0 S ++ [al D 2 o 1 fo]) (fun A : AW => (.returned (some (.int (ii k))), c9.bc ≤ C0.bc ∧ c9.bs ≤ C0.bs, wtL D g A c9 S9 ++ [al D 2 o 1 f9], C0.bc - c9.bc, C0.bs - c9.bs)) := by
  refine jgH_of rfl (Nat.le_of_ble_eq_true rfl) ?_
  intro X hl hR hN ok hI hTT hNN hhs fin
  subst hl
  show jw X 0 0 (wtL D g A0 C0 S ++ [al D 2 o 1 fo]) [(0, .ref (g 0)), (1, .int (ii v1)), (2, .ref o)] 0 []
  refine jr_aload_n ok 2 d_La_count_0 rfl rfl ?_
  refine jr_iconst ok d_La_count_1 ?_
  refine jr_aload_n ok 0 d_La_count_2 rfl rfl ?_
  refine jr_iload_n ok 1 d_La_count_3 rfl rfl ?_
  rcases hk with ⟨rfl, rfl, rfl⟩ | ⟨rfl, rfl, rfl⟩
  · skip
    refine jh_callT ok hI hTT m_La_72 (jgT_frame (r_WT_count (jx_l X) hnt D g A0 C0 S v1 0 r c9 S9 hs) [al D 2 o 1 fo]) (sg_atk 0 rfl) rfl rfl rfl (Nat.le_of_ble_eq_true rfl) ⟨by rw [hR]; exact Nat.le_of_ble_eq_true rfl, by rw [hR]; exact Nat.le_of_ble_eq_true rfl⟩ ⟨by rw [hR]; exact Nat.le_of_eq (Nat.zero_add _), by rw [hR]; exact Nat.le_of_eq (Nat.zero_add _)⟩ d_La_count_4 (fun u v ho hφ => ?_) (fun u a ho _ => by cases (show Outcome.returned _ = Outcome.threw a from ho))
    cases (show Outcome.returned (some (.int (ii r))) = Outcome.returned v from ho)
    show jw X (0 + (C0.bc - c9.bc)) (0 + (C0.bs - c9.bs)) ((wtL D g u.1 c9 S9 ++ []) ++ [al D 2 o 1 fo]) [(0, .ref (g 0)), (1, .int (ii v1)), (2, .ref o)] 7 [.int (ii r), .int (ii 0), .ref o]
    rw [List.append_nil]
    refine jr_wi2l ok rfl d_La_count_7 ?_
    refine jr_last (wtL D g u.1 c9 S9 ++ [al D 2 o 1 (fun j => if j = 0 then ll (w32 r) else fo j)]) ok 24 rfl rfl (by decide) (by decide) rfl d_La_count_8 ?_
    refine jr_goto 15 ok d_La_count_9 (by decide) ?_
    refine jr_iconst ok d_La_count_15 ?_
    exact jr_iret ok (jg_at fin u.1) (Nat.le_of_eq (Nat.zero_add _)) (Nat.le_of_eq (Nat.zero_add _)) () rfl hφ.1 sg_same d_La_count_16
  · skip
    refine jh_callT ok hI hTT m_La_72 (jgT_frame (r_WT_count (jx_l X) hnt D g A0 C0 S v1 2 r c9 S9 hs) [al D 2 o 1 fo]) (sg_atk 0 rfl) rfl rfl rfl (Nat.le_of_ble_eq_true rfl) ⟨by rw [hR]; exact Nat.le_of_ble_eq_true rfl, by rw [hR]; exact Nat.le_of_ble_eq_true rfl⟩ ⟨by rw [hR]; exact Nat.le_of_eq (Nat.zero_add _), by rw [hR]; exact Nat.le_of_eq (Nat.zero_add _)⟩ d_La_count_4 (fun u v ho _ => by cases (show Outcome.threw _ = Outcome.returned v from ho)) (fun u a ho hφ => ?_)
    cases (show Outcome.threw u.2 = Outcome.threw a from ho)
    show jwT X (0 + (C0.bc - c9.bc)) (0 + (C0.bs - c9.bs)) ((wtL D g u.1 c9 S9 ++ [xc D u.2 1]) ++ [al D 2 o 1 fo]) [(0, .ref (g 0)), (1, .int (ii v1)), (2, .ref o)] 4 [.int (ii 0), .ref o] u.2
    refine jwT_ent (sg_swap2 _ _ _) ?_
    refine jwT_caught [] (0, 9, 12, 19) [] [(0, 9, 12, 19)] (fun i => if i = 13 then 0 else if i = 19 then 1 else 2) ok hTT hNN hhs rfl (by decide) rfl (fun _ h => absurd h List.not_mem_nil) (by decide) (by decide) w_410 rfl ?_
    refine jr_dropR _ ?_
    refine jr_astore_n [(3, .ref u.2), (0, .ref (g 0)), (1, .int (ii v1)), (2, .ref o)] ok d_La_count_12 rfl (by rw [hN]; decide) rfl ?_
    refine jr_iconst ok d_La_count_13 ?_
    exact jr_iret ok (jg_at fin u.1) (Nat.le_of_eq (Nat.zero_add _)) (Nat.le_of_eq (Nat.zero_add _)) () rfl hφ.1 sg_same d_La_count_14
