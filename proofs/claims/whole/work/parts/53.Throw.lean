theorem st_rebase {p : Program} {l : Launch} {e : Env} {R : Room} {s : State} {m : MethodId} {args : Array Value} {below : List Frame} {meth : Method} {c : Code} {T : State} {locs : List Loc} {cells slots : Nat} (X : Stand p l e R s m args below meth c T locs cells slots) (h1 : cells ≤ R.cells) (h2 : slots ≤ R.slots) :
    Stand p l e { frames := R.frames, cells := R.cells - cells, slots := R.slots - slots, locals := R.locals } (T.setFrames (.invoking m args :: below)) m args below meth c T [] 0 0 := by
  obtain ⟨e2, q2, q3, q4, q5, q6⟩ := X.same
  obtain ⟨g₀, hfr⟩ := X.frames_eq
  have hcur : T.cur < T.threads.size := State.cur_lt_of_frames hfr
  obtain ⟨th, hth, -⟩ := State.frames_cons X.frames
  obtain ⟨th2, hth2, -⟩ := State.frames_cons hfr
  have e3 : T = ({ s.setFrames T.frames with heap := T.heap, slotsUsed := T.slotsUsed } : State).setVm T.vm := by
    have : T = (T.setVm s.vm).setVm T.vm := rfl
    rw [e2] at this
    exact this
  have hs' : T.setFrames (.invoking m args :: below) = ({ s with heap := T.heap, slotsUsed := T.slotsUsed } : State).setVm T.vm := by
    have : T.setFrames (.invoking m args :: below) = ({ (s.setFrames T.frames).setFrames (.invoking m args :: below) with heap := T.heap, slotsUsed := T.slotsUsed } : State).setVm T.vm := by
      conv => lhs; rw [e3]
      rfl
    rw [this, State.setFrames_setFrames, ← X.frames, State.setFrames_self hth]
  have hroom := X.room
  have hb := X.book
  have hz := X.heapSize
  have hu := X.used
  have hl := X.limits
  refine ⟨X.admits, X.cas, X.clock, State.frames_setFrames _ hcur, ?_, ?_, X.method', X.code, X.here, X.tail, ?_, ?_, ?_, ?_⟩
  · rw [hs']
    unfold State.hasRoom at hroom ⊢
    simp only [Bool.and_eq_true, decide_eq_true_eq] at hroom ⊢
    obtain ⟨⟨⟨⟨a1, a2⟩, a3⟩, a4⟩, a5⟩ := hroom
    have hli : (({ s with heap := T.heap, slotsUsed := T.slotsUsed } : State).setVm T.vm).localsInUse = s.localsInUse := by
      rw [State.localsInUse_invoking X.frames X.method X.code]
      exact State.localsInUse_invoking (s := ({ s with heap := T.heap, slotsUsed := T.slotsUsed } : State).setVm T.vm) (args := args) X.frames X.method' X.code
    rw [hli]
    refine ⟨⟨⟨⟨a1, a2⟩, ?_⟩, ?_⟩, ?_⟩
    · show T.heap.size + (R.cells - cells) ≤ e.platform.maxCells
      omega
    · show T.slotsUsed + (R.slots - slots) ≤ e.platform.maxSlots
      omega
    · exact hb
  · have hh := X.hears
    cases below with
    | nil => 
      show (T.vm.method? m).any (·.sig.returnType.isNone) = true
      rw [X.method']
      have : (s.vm.method? m).any (·.sig.returnType.isNone) = true := hh
      rw [X.method] at this; exact this
    | cons f fs =>
      cases f with
      | java g =>
        have : ((s.code? g.method).bind fun c => (decode c.code g.pc).toOption).isSome = true := hh
        show (((T.setFrames _).code? g.method).bind fun c => (decode c.code g.pc).toOption).isSome = true
        have hc : (T.setFrames (.invoking m args :: .java g :: fs)).code? g.method = s.code? g.method := by
          show T.code? g.method = s.code? g.method
          rw [State.code?_eq, State.code?_eq, X.warmed.alike.method?]
        rw [hc]; exact this
      | native _ => rfl
      | proc _ => rfl
      | _ =>
        show (T.vm.method? m).any (·.sig.returnType.isNone) = true
        rw [X.method']
        have : (s.vm.method? m).any (·.sig.returnType.isNone) = true := hh
        rw [X.method] at this; exact this
  · exact State.WarmedH.refl _
  · rw [hs']; exact hl
  · rw [hs']; exact X.bytes
  · refine ⟨?_, Nat.le_refl _, Nat.le_refl _, ?_, ?_, ?_⟩
    · show T = { (T.setFrames _).setFrames T.frames with heap := T.heap, slotsUsed := T.slotsUsed }
      rw [State.setFrames_setFrames, State.setFrames_self hth2]
    · show T.slotsUsed = T.slotsUsed + ((T.heap.toList.drop T.heap.size).map (·.slots.size)).sum
      rw [List.drop_eq_nil_of_le (by simp)]; rfl
    · show ((T.heap.toList.drop T.heap.size).map (·.slots.size)).sum ≤ 0
      rw [List.drop_eq_nil_of_le (by simp)]; exact Nat.le_refl _
    · intro a c hc
      exact ⟨c, hc, rfl, rfl, fun _ _ => rfl⟩

/-- the words of throwing that are not among the good ones -/
def jTw : List Cond := [.castable "java/lang/UnsupportedOperationException" "java/lang/UnsupportedOperationException", .castable "java/lang/IllegalArgumentException" "java/lang/IllegalArgumentException", .castable "java/lang/IndexOutOfBoundsException" "java/lang/IndexOutOfBoundsException", .declares (Bundle.initS "java/lang/RuntimeException"), .declares (Bundle.initS "java/lang/Exception"), .declares (Bundle.initS "java/lang/Throwable")]
theorem jTw_tabs : ∀ w ∈ jTw, w.tabsN = true := by decide +kernel
/-- the texts of the exceptions -/
def jM : List (Nat × String) := [(71, "the tape would be too long"), (82, "the tape has not so many bytes"), (100, "there are 256 series"), (123, "a fault has a code and a place"), (144, "no time, or not above the last one, or below the horizon"), (149, "there are 4096 points in the head"), (162, "from is above to"), (185, "there are 64 scars"), (202, "no time, or below the horizon"), (207, "no time, no width, or no number of windows"), (234, "there is no such row"), (260, "there are 32 parcels"), (269, "there is nothing of this kind to count"), (274, "there is no such series"), (286, "there is no such row or window")]
/-- a static that holds a reference, and its place -/
def jz (C n d : String) (A : Nat → Prop) (U : State) (H : Heap) : Prop := ∃ (c : ClassId) (k : Class) (i : Nat) (f : Field) (a : Nat) (cell : Cell) (v : Value), U.vm.findClass C = some c ∧ U.fieldFound? C n d = some (c, k, i, f) ∧ f.isStatic = true ∧ k.statics = some a ∧ k.staticTypes[f.slot]? = some f.type ∧ H[a]? = some cell ∧ cell.vm.isStatics = true ∧ cell.cls = c ∧ f.slot < cell.slots.size ∧ cell.slots[f.slot]? = some v ∧ (v = .null ∨ ∃ t, v = .ref t) ∧ ¬ A a
theorem jz.moved {C n d : String} {A : Nat → Prop} {u U : State} {H : Heap} (hvm : u.vm.Alike U.vm) (h : jz C n d A u H) : jz C n d A U H := by
  obtain ⟨c, k, i, f, a, cell, v, h0, h1, h2, h3, h4, h5⟩ := h
  obtain ⟨k', hi', he⟩ := State.fieldFound?_setVm hvm h1
  exact ⟨c, k', i, f, a, cell, v, by rw [hvm.findClass]; exact h0, hi', h2, by rw [he]; exact h3, by rw [he]; exact h4, h5⟩
theorem jz.kept {C n d : String} {A : Nat → Prop} {U : State} {H H1 : Heap} (h : jz C n d A U H) (hq : ∀ a : Nat, a < H.size → ¬ A a → H1[a]? = H[a]?) : jz C n d A U H1 := by
  obtain ⟨c, k, i, f, a, cell, v, h0, h1, h2, h3, h4, h5, h6, h7, h8, h9, h10, h11⟩ := h
  exact ⟨c, k, i, f, a, cell, v, h0, h1, h2, h3, h4, by rw [hq a (Array.getElem?_eq_some_iff.mp h5).1 h11]; exact h5, h6, h7, h8, h9, h10, h11⟩
theorem jz.narrow {C n d : String} {A B : Nat → Prop} {U : State} {H : Heap} (h : jz C n d A U H) (hAB : ∀ q, B q → A q) : jz C n d B U H := by
  obtain ⟨c, k, i, f, a, cell, v, h0, h1, h2, h3, h4, h5, h6, h7, h8, h9, h10, h11⟩ := h
  exact ⟨c, k, i, f, a, cell, v, h0, h1, h2, h3, h4, h5, h6, h7, h8, h9, h10, fun z => h11 (hAB a z)⟩
theorem jz.lays {C n d : String} {A : Nat → Prop} {U : State} {args : Array Value} (h : jz C n d A U U.heap) : (Cond.laysStatic C n d).before args U = true := by
  obtain ⟨c, k, i, f, a, cell, v, h0, h1, h2, h3, h4, h5, h6, h7, h8, h9, h10, h11⟩ := h
  simp [Cond.before, Cond.holds, Cond.value, h0, h1, h2, h3, h4, h5, h6, h7, h8]
theorem jz.isRef {C n d : String} {A : Nat → Prop} {U : State} {args : Array Value} (h : jz C n d A U U.heap) : (Cond.isRef (.static C n d)).before args U = true := by
  obtain ⟨c, k, i, f, a, cell, v, h0, h1, h2, h3, h4, h5, h6, h7, h8, h9, h10, h11⟩ := h
  have e : (Term.static C n d).eval args U none [] U = some v := by
    simp [Term.eval, State.fieldNamed?, h1, h2, h3, h5, h6, h9]
  rcases h10 with r | ⟨t, r⟩ <;> subst r <;> simp [Cond.before, Cond.holds, Cond.value, e]
/-- the exceptions' names; their classes stand in D from 200 on -/
def jEx : List String := ["java/lang/UnsupportedOperationException", "java/lang/IllegalArgumentException", "java/lang/IndexOutOfBoundsException"]
def jT (D : jd_T) (A : Nat → Prop) (U : State) (H : Heap) : Prop := (∀ w ∈ jTw, w.before #[] U = true) ∧ jz "java/lang/Throwable" "UNASSIGNED_STACK" "[Ljava/lang/StackTraceElement;" A U H ∧ jz "java/lang/Throwable" "SUPPRESSED_SENTINEL" "Ljava/util/List;" A U H ∧ (∀ m ∈ jM, (∃ q : Nat, vk_R "WindowTables" m.1 m.2 q U)) ∧ ∀ k, k < 3 → U.vm.findClass (jEx.getD k "") = some (D.1.1 (200 + k))
theorem jT.go {D : jd_T} {A B : Nat → Prop} {s U : State} {H H' : Heap} (h : jT D A s H) (hW : s.WarmedH U.vm) (hq : ∀ a : Nat, a < H.size → ¬ A a → H'[a]? = H[a]?) (hAB : ∀ q, B q → A q) : jT D B U H' :=
  ⟨fun w hw => Cond.tabsN_warm (T := U) hW w (jTw_tabs w hw) (h.1 w hw), ((jz.moved hW.alike h.2.1).kept hq).narrow hAB, ((jz.moved hW.alike h.2.2.1).kept hq).narrow hAB, fun m hm => by
    obtain ⟨q, z⟩ := h.2.2.2.1 m hm
    exact ⟨q, z.warm hW⟩, fun k hk => by rw [hW.alike.findClass]; exact h.2.2.2.2 k hk⟩
theorem jT.same {D : jd_T} {A : Nat → Prop} {s U : State} {H : Heap} (hv : U.vm = s.vm) (h : jT D A s H) : jT D A U H := jT.go h (hv ▸ State.WarmedH.refl s) (fun _ _ _ => rfl) (fun _ z => z)
/-- a word of throwing, where it is from -/
theorem jT_word {D : jd_T} {A : Nat → Prop} {s s' : State} {args : Array Value} {w : Cond} (hT : jT D A s' s'.heap) (hW : s.WarmedH s'.vm) (hg : ∀ w ∈ jw_all, w.before args s = true) (hw : w ∈ jw_all ∨ w ∈ jTw ∨ w = .laysStatic "java/lang/Throwable" "UNASSIGNED_STACK" "[Ljava/lang/StackTraceElement;" ∨ w = .laysStatic "java/lang/Throwable" "SUPPRESSED_SENTINEL" "Ljava/util/List;" ∨ w = .isRef (.static "java/lang/Throwable" "UNASSIGNED_STACK" "[Ljava/lang/StackTraceElement;") ∨ w = .isRef (.static "java/lang/Throwable" "SUPPRESSED_SENTINEL" "Ljava/util/List;")) : w.before args s' = true := by
  rcases hw with h | h | h | h | h | h
  · have hm := (List.mem_filter.mp h).2
    refine word_at hW ?_ (hg w h)
    cases w <;> first | exact Or.inl hm | exact Or.inr ⟨_, rfl⟩
  · exact Cond.tabsN_warm (T := s') (State.WarmedH.refl s') w (jTw_tabs w h) (hT.1 w h)
  · subst h; exact jz.lays hT.2.1
  · subst h; exact jz.lays hT.2.2.1
  · subst h; exact jz.isRef hT.2.1
  · subst h; exact jz.isRef hT.2.2.1
def jTn : List String := ["java/lang/RuntimeException", "java/lang/Exception"]
def jTa (own : String) (ic : Nat) (cls : String) : Prop := ∀ a ∈ Bundle.ownAtoms own ic cls jTn, a ∈ jw_all ∨ a ∈ jTw ∨ a = .laysStatic "java/lang/Throwable" "UNASSIGNED_STACK" "[Ljava/lang/StackTraceElement;" ∨ a = .laysStatic "java/lang/Throwable" "SUPPRESSED_SENTINEL" "Ljava/util/List;" ∨ a = .isRef (.static "java/lang/Throwable" "UNASSIGNED_STACK" "[Ljava/lang/StackTraceElement;") ∨ a = .isRef (.static "java/lang/Throwable" "SUPPRESSED_SENTINEL" "Ljava/util/List;")
theorem jTa_73 : jTa "WindowTables" 73 "java/lang/UnsupportedOperationException" := by unfold jTa; decide +kernel
theorem jTa_84 : jTa "WindowTables" 84 "java/lang/IllegalArgumentException" := by unfold jTa; decide +kernel
theorem jTa_125 : jTa "WindowTables" 125 "java/lang/IndexOutOfBoundsException" := by unfold jTa; decide +kernel
/-- an exception's cell -/
def xc (D : jd_T) (a k : Nat) : sg_A := fun h => ∃ c : Cell, h = sg_1 a c ∧ c.cls = D.1.1 (200 + k) ∧ c.vm = .none
def oT (t : Int) (v : Option Value) (a : Nat) : Outcome := if t = 0 then .returned v else .threw a
def xT (D : jd_T) (t : Int) (a : Nat) : List sg_A := if t = 0 then [] else [xc D a (t - 1).toNat]

theorem st_callV {p : Program} {l : Launch} {e : Env} {R : Room} {s : State} {m : MethodId} {args : Array Value} {below : List Frame} {meth : Method} {c : Code} {T : State} {locs : List Loc} {cells slots : Nat} (X : Stand p l e R s m args below meth c T locs cells slots) (hexec : p.tables.exec = Jvm.exec) {own C : String} {index : Nat} {y : MethodName} {bytes : ByteArray} {maxL : Nat} {ret : Option FieldType}
    (hown : s.vm.findClass own = some m.cls) (hlink : (Cond.methodLink own index y).before args s = true) (hinst : (Cond.instanceMethod y).before args s = true) (hsel : (Cond.selects C y y).before args s = true)
    (hcode : (Cond.code y bytes maxL ret).before args s = true) (hy : y.cls ≠ "java/lang/invoke/MethodHandle" ∧ y.cls ≠ "java/lang/invoke/VarHandle")
    {S : Spec} {P : Array Value → State → Prop} {Q : Array Value → State → Outcome → State → Prop} (hM : MetFree l y S P (fun _ _ _ _ _ => True) Q) (hfr : S.room.frames + 1 ≤ R.frames) (hlo : 8 + (maxL + 11) + S.room.locals ≤ R.locals) (hce : cells + S.room.cells ≤ R.cells) (hsl : slots + S.room.slots ≤ R.slots)
    (hpre : ∀ (a' : Array Value) (U : State), s.WarmedH U.vm → S.pre.before a' U = true) (hcd : ∀ (a' : Array Value) (U : State), s.WarmedH U.vm → (Cond.code y bytes maxL ret).before a' U = true) (hin : ∀ (a' : Array Value) (U : State), s.WarmedH U.vm → (Cond.initialized y.cls).before a' U = true)
    {b : Addr} {cellB : Cell} (hcell : T.heap[b]? = some cellB) (hobj : cellB.vm.isStatics = false) (hcls : s.vm.findClass C = some cellB.cls)
    {g : JFrame} (hg : g.method = m) (hsize : g.locals.size = c.maxLocals) {argsL rest : List Value} (hlen : ∀ sig, parseMethodDescriptor y.desc = some sig → argsL.length = sig.parameters.length)
    (hstack : g.stack = argsL.reverse ++ .ref b :: rest) (hW : 2 * g.monitorRoom + (rest.map fun v => v.category).sum ≤ 8) (hdg : decode c.code g.pc = .ok (.invokevirtual index, 3))
    (hP : ∀ (vm₁ : Vm) (g' : JFrame) (mk : MethodId), s.WarmedH vm₁ → P (Value.ref b :: argsL).toArray ((T.setVm vm₁).calling g' mk (Value.ref b :: argsL).toArray)) :
    ∃ (vm₁ : Vm) (mk : MethodId) (o : Outcome) (t : State), Stand p l e R s m args below meth c (T.setVm vm₁) locs cells slots ∧ t.status = .running ∧ Ended t (.java { g with stack := rest } :: below) o ∧ Q (Value.ref b :: argsL).toArray ((T.setVm vm₁).calling { g with stack := rest } mk (Value.ref b :: argsL).toArray) o t ∧
      ∀ target, Steps p.tables e below t target → Steps p.tables e below (T.setTop g) target := by
  obtain ⟨mk, methM, hnamed, hmethM, hstM, habM⟩ := Cond.instanceMethod_spec hinst
  obtain ⟨methM', cM, hmethM', -, -, -, -, -, -, hsigM⟩ := Cond.code_spec hnamed hcode
  cases hmethM.symm.trans hmethM'
  obtain ⟨c2, r2, m2, q1, q2, q3, q4, kP, hkP, hkPi⟩ := Cond.selects_spec hsel
  cases hcls.symm.trans q1
  cases (State.methodFound?_of_named hnamed hy).symm.trans q2
  cases hnamed.symm.trans q3
  have hselP : selectMethod e.platform s.vm cellB.cls mk = .method mk := by rw [Launch.admits_selectMethod X.admits]; exact q4
  obtain ⟨vm₁, X₁, hstep₁⟩ := X.invokevirtual hexec hown hlink hnamed hmethM hstM hkP hkPi hy (a := b) (cell := cellB) hcell
    (fun z h => by rw [h] at hobj; cases hobj) hselP hmethM habM hkP hkPi (g := g) hg (argsL := argsL) (rest := rest) (hlen _ hsigM) hstack hdg
  have hn := X₁.named hnamed
  obtain ⟨methY, cY, hmY, hcY, -, hlY, -, -, -, -⟩ := Cond.code_spec hn (hcd #[] (T.setVm vm₁) X₁.warmed)
  obtain ⟨kY, hkY, -⟩ := className_of_methodNamed hn
  have hinitY : kY.init = .initialized := Cond.initialized_spec (findClass_of_methodNamed hn) hkY (hin #[] (T.setVm vm₁) X₁.warmed)
  have h : At (T.setVm vm₁) ({ g with stack := rest } : JFrame).method c below := by rw [show ({ g with stack := rest } : JFrame).method = m from hg]; exact X₁.here
  have happ : S.appliesLoose y e.platform ((T.setVm vm₁).calling { g with stack := rest } mk (Value.ref b :: argsL).toArray) = true :=
    Spec.appliesLoose_calling (g := { g with stack := rest }) h hdg hn hkY hinitY
      (X₁.room_calling (g := { g with stack := rest }) (R' := S.room) hsize hmY hcY hfr (by
        show 2 * g.monitorRoom + (rest.map fun v => v.category).sum + (cY.maxLocals + 11) + S.room.locals ≤ R.locals
        rw [hlY]; omega) hce hsl) (hpre _ _ X₁.warmed)
  obtain ⟨mid, hmid⟩ := h.above
  have hfr2 : ((T.setVm vm₁).setTop { g with stack := rest }).frames = (.java { g with stack := rest } :: mid) ++ below := by rw [State.frames_setTop' _ h.top, hmid]; rfl
  obtain ⟨o, s₂, hsteps, hrun, hend, hq⟩ := Steps.callFree hM p X.admits X.cas X.clock (acts := []) hfr2 happ (hP vm₁ _ mk X₁.warmed) trivial
  rw [State.frames_setTop' _ h.top, X₁.tail] at hend
  exact ⟨vm₁, mk, o, s₂, X₁, hrun, hend, hq, fun target ht => hstep₁ _ fun acts => by rw [doInvoke_state]; exact hsteps.trans ht⟩

/-! ===== contracts that may throw ===== -/
def jgT_P (D : jd_T) (av : List Value) (h0 : sg_F) (sz : Nat) : Array Value → State → Prop := fun a U => jgI_P D av h0 sz a U ∧ jT D (jc_A h0 sz) U U.heap
theorem jgT_Pblind {D : jd_T} {av : List Value} {h0 : sg_F} {sz : Nat} : FrameBlind (jgT_P D av h0 sz) := by
  intro a U g mk q
  exact ⟨jgI_Pblind a U g mk q.1, jT.same (s := U) (U := U.calling g mk a) rfl q.2⟩
def jgT_C (l : Launch) (D : jd_T) (y : MethodName) (cc : ByteArray) (nL : Nat) (ret : Option FieldType) (rm : Room) (av : List Value) (L : List sg_A) {α : Type} (E : jg_T α) : Prop :=
  ∀ (h0 : sg_F) (sz : Nat), sg_l L h0 → MetFree l y (headSpec (jc_ws y cc nL ret) rm) (jgT_P D av h0 sz) (fun _ _ _ _ _ => True) (fun _ st o t => ∃ mc ms, jg_End E h0 sz st o t mc ms ∧ jc_Fr st t (jc_A h0 sz) mc ms)
/-- no handler -/
def jx_nh (X : jx_T) : Prop := ∀ x ∈ (jx_c X).exceptionTable.toList, False
theorem jgT_of {l : Launch} {D : jd_T} {y : MethodName} {cc : ByteArray} {nL : Nat} {ret : Option FieldType} {rm : Room} {av : List Value} {L : List sg_A} {α : Type} {E : jg_T α} (hy : plainName y.cls = true) (hn : (lg_sl av).length ≤ nL)
    (body : ∀ X : jx_T, jx_l X = l → jx_R X = rm → jx_n X = nL → jx_ok X D cc y.cls ret → jI D (jx_A X) (jx_s X) (jx_s X).heap → jT D (jx_A X) (jx_s X) (jx_s X).heap → jx_nh X → jg_fin X E → jw X 0 0 L (lv_args 0 av) 0 []) : jgT_C l D y cc nL ret rm av L E := by
  intro h0 sz hL
  refine MetFree.of_bodyS (code := cc) (maxLocals := nL) (ret := ret) hy ?_ ?_
  · intro args s m h hnm
    obtain ⟨meth, c, h1, h2, h3, h4, h5, h6, -, -⟩ := Cond.code_spec hnm (atoms_spec (ws := jc_ws y cc nL ret) h _ List.mem_cons_self)
    exact ⟨meth, c, h1, h2, h3, h4, h5, h6⟩
  · intro p e s m args below meth c s₁ B hml hP _
    obtain ⟨⟨⟨ha, hsz, hin, hK⟩, hI⟩, hT⟩ := hP
    subst ha
    subst hsz
    have hh0 : s₁.heap = s.heap := by rw [B.state]; rfl
    have hts := atoms_spec (ws := jc_ws y cc nL ret) B.pre
    have hex : ∀ x ∈ c.exceptionTable.toList, False := by
      obtain ⟨meth', c', k1, k2, -, -, -, -, k7, -⟩ := Cond.code_spec B.named (hts _ List.mem_cons_self)
      have S0 := Stand.of_body B
      have e1 : meth' = meth := Option.some.inj (k1.symm.trans S0.method)
      subst e1
      have e2 : c' = c := Option.some.inj (k2.symm.trans S0.code)
      subst e2
      intro x hx
      rw [Array.isEmpty_iff] at k7
      rw [k7] at hx; cases hx
    have key := body (p, l, e, rm, s, m, av.toArray, below, meth, c, jc_A h0 s.heap.size, (fun t => ∃ o, t.status = .running ∧ Ended t below o ∧ ∃ mc ms, jg_End E h0 s.heap.size s o t mc ms ∧ jc_Fr s t (jc_A h0 s.heap.size) mc ms), nL) rfl rfl rfl
      ⟨B.exec, B.bytes, hml, findClass_of_methodNamed B.named, fun w hw => hts w (List.mem_cons_of_mem _ hw), B.returns, B.notSynchronized, hK, fun q hq => Or.inr hq⟩ hI hT hex
      (fun u h o t h1 h2 h3 h4 h5 h6 h7 h8 h9 => ⟨o, h7, h8, _, _, ⟨u, h, h1, h2, h3, h4, h5, h6, rfl, rfl⟩, h9⟩)
      h0 s.heap [] ((lg_sl av ++ List.replicate (nL - (lg_sl av).length) Slot.unset).toArray) hL hin (fun q c hq => Or.inl (by rw [hq]; exact fun z => by cases z)) va_S.rf (lv_entry av hn)
    have key2 : W p l e rm s m av.toArray below meth c s.heap [] 0 0 (fun t => ∃ o, t.status = .running ∧ Ended t below o ∧ ∃ mc ms, jg_End E h0 s.heap.size s o t mc ms ∧ jc_Fr s t (jc_A h0 s.heap.size) mc ms) (entryFrame m av.toArray nL) := by
      rw [lg_entry_eq]
      exact key
    obtain ⟨t, a1, o, b1, b2, b3⟩ := key2 s₁ hh0 (Stand.of_body B)
    exact ⟨t, o, a1, b1, b2, b3⟩
/-- from every heap that holds L: an exception at a flies out of this place, and the walk comes to its end -/
def jwT (X : jx_T) (cs sl : Nat) (L : List sg_A) (lv : List (Nat × Value)) (pc : Nat) (st : List Value) (a : Nat) : Prop :=
  ∀ (h : sg_F) (H : Heap) (locs : List Loc) (ls : Array Slot), sg_l L h → sg_in h H → (∀ (q : Nat) (c : Cell), h q = some c → jx_A X q) → va_S (jx_A X) (jx_s X).heap H locs → lv_has ls (jx_n X) lv → ∀ T : State, T.heap = H → Stand (jx_p X) (jx_l X) (jx_e X) (jx_R X) (jx_s X) (jx_m X) (jx_a X) (jx_b X) (jx_t X) (jx_c X) T locs cs sl → ∃ t, Steps (jx_p X).tables (jx_e X) (jx_b X) ((T.setTop (F0 (jx_m X) pc ls st)).pushFrame (.throwing a)) t ∧ jx_Q X t
section JTHR
variable {X : jx_T} {D : jd_T} {cc : ByteArray} {own : String} {ret : Option FieldType} {cs sl : Nat} {L : List sg_A} {lv : List (Nat × Value)} {pc : Nat} {st : List Value} {α : Type} {E : jg_T α} {RM : Room} {Rl : sg_A → List sg_A → Prop}
/-- out of a method without handlers -/
theorem jwT_out {a : Nat} (ok : jx_ok X D cc own ret) (hx : jx_nh X) (fin : jg_fin X E) (u : α) (ho : (E u).1 = .threw a) (hφ : (E u).2.1) (hL : (E u).2.2.1 = L) (hc : cs ≤ (E u).2.2.2.1) (hs : sl ≤ (E u).2.2.2.2) : jwT X cs sl L lv pc st a := by
  intro h H locs ls h1 h2 h3 h4 h5 T hT S
  obtain ⟨a1, a2, a3, a4, a5⟩ := S.leaveThrown a (g := F0 (jx_m X) pc ls st) rfl rfl rfl (fun x hx2 => absurd hx2 (fun z => hx x z)) ok.2.2.2.2.2.2.1
  exact ⟨_, a1, fin u h (.threw a) _ ho.symm hφ (by rw [hL]; exact h1) (by show sg_in h T.heap; rw [hT]; exact h2) h3 (va_S.F h4 hT) a2 a3 ⟨locs, a4, a5.mono hc hs, h4.2.2⟩⟩
/-- a call that may throw -/
theorem jh_callT {ci b index n : Nat} {C : String} {y : MethodName} {bytes : ByteArray} {maxL : Nat} {rt : Option FieldType} {rm : Room} {T : u_T} {N : Nat} {fs As rest : List Value} (ok : jx_ok X D cc own ret) (hI : jI D (jx_A X) (jx_s X) (jx_s X).heap) (hTT : jT D (jx_A X) (jx_s X) (jx_s X).heap) (hg : jm_V own index C y bytes maxL rt n) (hM : jgT_C (jx_l X) D y bytes maxL rt rm (.ref b :: As) L E)
    (hq : sg_at L (ob D b ci fs) Rl) (hcl : vwCl[ci]? = some (C, T, N)) (hst : st = As.reverse ++ .ref b :: rest) (hn : As.length = n) (hw : (rest.map fun v => v.category).sum ≤ 8) (hR : rm.frames + 1 ≤ (jx_R X).frames ∧ 8 + (maxL + 11) + rm.locals ≤ (jx_R X).locals) (hf : cs + rm.cells ≤ (jx_R X).cells ∧ sl + rm.slots ≤ (jx_R X).slots) (d : decode cc pc = .ok (.invokevirtual index, 3))
    (kr : ∀ u v, (E u).1 = .returned v → (E u).2.1 → jw X (cs + (E u).2.2.2.1) (sl + (E u).2.2.2.2) (E u).2.2.1 lv (pc + 3) (v.toList ++ rest))
    (kt : ∀ u a, (E u).1 = .threw a → (E u).2.1 → jwT X (cs + (E u).2.2.2.1) (sl + (E u).2.2.2.2) (E u).2.2.1 lv pc rest a) : jw X cs sl L lv pc st := by
  intro h H locs ls h1 h2 h3 h4 h5 T0 hT0 S0
  obtain ⟨f0, g0, d0, e0, ⟨cell, r, hf0, hcr, q2, q3, q4⟩, -⟩ := hq h h1
  have hcell : H[b]? = some cell := h2 b cell (by rw [e0, hf0]; exact sg_un_l (sg_1_at b cell))
  subst hst
  have cw := cwV (R := jx_R X) (rm := rm) (mc := rm.cells) (ms := rm.slots) n ok.2.2.2.2.1 hg.1 rfl rfl rfl hg.2 hR
  obtain ⟨⟨-, -, c3, c4, c5, c6, c7, c8, c9, c10, c11⟩, c12, c13⟩ := cw
  have hfA := jI_A ok h3 h4
  obtain ⟨vm₁, mk, o, t, X₁, hrun, hend, ⟨mc, ms, ⟨u, h', b1, b2, b3, b4, b5, b6, b7, b8⟩, Lx, w1, w2, w3⟩, hst⟩ := st_callV S0 ok.1 (C := C) (bytes := bytes) (maxL := maxL) (ret := rt) ok.2.2.2.1 c11 c12 c13 c7 c9 (hM h H.size h1) c3 c4 hf.1 hf.2
    (fun a' U hW => atoms_intro fun w hw => c5 w hw a' U hW) (fun a' U hW => c5 _ List.mem_cons_self a' U hW) (fun a' U hW => word_at hW (Or.inl (by first | rfl | simp [Cond.onTables, Cond.keeps, Cond.steady])) c8)
    (by rw [hT0]; exact hcell) (by rw [q3]; rfl) (by rw [q2]; exact (ok.2.2.2.2.2.2.2.1.1.1 ci _ hcl).2.1) (g := F0 (jx_m X) pc ls (As.reverse ++ .ref b :: rest)) rfl (h5.1.trans ok.2.2.1.symm) (argsL := As) (rest := rest) (fun sig hh => hn.trans (c10 sig hh)) rfl (lv_room hw) (by rw [ok.2.1]; exact d)
    (fun vm₁ g' mk hW₁ => jgT_Pblind _ (T0.setVm vm₁) _ _ ⟨⟨⟨rfl, by show T0.heap.size = _; rw [hT0], by show sg_in h T0.heap; rw [hT0]; exact h2, jk_K.moved (U := T0.setVm vm₁) hW₁.alike ok.2.2.2.2.2.2.2.1⟩, jI.go (U := T0.setVm vm₁) (H' := (T0.setVm vm₁).heap) hI hW₁ (fun a x y => by show T0.heap[a]? = _; rw [hT0]; exact h4.2.1 a x y) hfA⟩, jT.go (U := T0.setVm vm₁) (H' := (T0.setVm vm₁).heap) hTT hW₁ (fun a x y => by show T0.heap[a]? = _; rw [hT0]; exact h4.2.1 a x y) hfA⟩)
  subst b7
  subst b8
  have hF2 : va_F (jc_A h H.size) (T0.setVm vm₁) t := b6
  have hS2 : va_S (jx_A X) (jx_s X).heap t.heap (locs ++ Lx) := by
    refine ⟨Nat.le_trans h4.1 (by have := hF2.1; rw [show (T0.setVm vm₁).heap = H from hT0] at this; exact this), fun q z1 z2 => ?_, fun x hx => ?_⟩
    · have z3 : q < H.size := Nat.lt_of_lt_of_le z1 h4.1
      have := hF2.2 q (by rw [show (T0.setVm vm₁).heap = H from hT0]; exact z3) (fun z => z2 (hfA q z))
      rw [this, show (T0.setVm vm₁).heap = H from hT0]; exact h4.2.1 q z1 z2
    · rcases List.mem_append.mp hx with z | z
      · exact h4.2.2 x z
      · exact hfA _ (w3 x z)
  cases ho : (E u).1 with
  | returned v =>
    rw [ho] at b1
    subst b1
    obtain ⟨T', X', -, -, ht⟩ := X₁.outOf (g := { F0 (jx_m X) pc ls (As.reverse ++ .ref b :: rest) with stack := rest }) rfl (by rw [ok.2.1]; exact d) hend w1 w2
    have hh : T'.heap = t.heap := by rw [ht]; exact (State.heap_setTop _ _).symm
    obtain ⟨tt, s1, s2⟩ := kr u v ho b2 h' t.heap (locs ++ Lx) ls b3 b4 (fun q c hqc => hfA q (b5 q c hqc)) hS2 h5 T' hh X'
    exact ⟨tt, hst tt (by rw [ht]; exact s1), s2⟩
  | threw a =>
    rw [ho] at b1
    subst b1
    obtain ⟨T', X', -, -, ht⟩ := X₁.outOfThrown (g := { F0 (jx_m X) pc ls (As.reverse ++ .ref b :: rest) with stack := rest }) rfl hend w1 w2
    have hh : T'.heap = t.heap := by rw [ht]; rfl
    obtain ⟨tt, s1, s2⟩ := kt u a ho b2 h' t.heap (locs ++ Lx) ls b3 b4 (fun q c hqc => hfA q (b5 q c hqc)) hS2 h5 T' hh X'
    exact ⟨tt, hst tt (by rw [ht]; exact s1), s2⟩
end JTHR

section JTHW
variable {X : jx_T} {D : jd_T} {cc : ByteArray} {own : String} {ret : Option FieldType} {cs sl : Nat} {L : List sg_A} {lv : List (Nat × Value)} {pc : Nat} {st : List Value} {α : Type} {E : jg_T α}
/-- the launch has no stack traces -/
def jl_nt (l : Launch) : Prop := ∀ e : Env, l.admits e → e.platform.stackTraces = false
/-- throw new cls(text) -/
theorem jr_throw {cls tx : String} {i0 i2 ic kx : Nat} (hkx : kx < 3) (hkc : jEx.getD kx "" = cls) (hnt : jl_nt (jx_l X)) (ok : jx_ok X D cc "WindowTables" ret) (hTT : jT D (jx_A X) (jx_s X) (jx_s X).heap) (hx : jx_nh X) (hcl : Cond.classLink "WindowTables" i0 cls ∈ jw_all) (hins : Cond.instantiable cls 6 ∈ jw_all) (hini : Cond.initialized cls ∈ jw_all) (hfit : Bundle.fit cls = true) (hM : (i2, tx) ∈ jM) (hat : jTa "WindowTables" ic cls)
    (d0 : decode cc pc = .ok (.new i0, 3)) (d3 : decode cc (pc + 3) = .ok (.dup, 1)) (d4 : decode cc (pc + 3 + 1) = .ok (.ldc i2, 2)) (d6 : decode cc (pc + 3 + 1 + 2) = .ok (.invokespecial ic, 3)) (d9 : decode cc (pc + 3 + 1 + 2 + 3) = .ok (.athrow, 1))
    (hRf : 6 ≤ (jx_R X).frames) (hRl : 90 ≤ (jx_R X).locals) (hRc : cs + 1 ≤ (jx_R X).cells) (hRs : sl + 6 ≤ (jx_R X).slots)
    (fin : jg_fin X E) (u : Nat → α) (ho : ∀ a, (E (u a)).1 = .threw a) (hφ : ∀ a, (E (u a)).2.1) (hL : ∀ a, (E (u a)).2.2.1 = L ++ [xc D a kx]) (hmc : ∀ a, cs + 1 ≤ (E (u a)).2.2.2.1) (hms : ∀ a, sl + 6 ≤ (E (u a)).2.2.2.2) : jw X cs sl L lv pc [] := by
  intro h H locs ls h1 h2 h3 h4 h5 T hT S
  have S' := st_rebase S (by omega) (by omega)
  have hvm : (T.setFrames (.invoking (jx_m X) (jx_a X) :: jx_b X)).vm = T.vm := rfl
  have hW : (jx_s X).WarmedH (T.setFrames (.invoking (jx_m X) (jx_a X) :: jx_b X)).vm := S.warmed
  have hTT' : jT D (jx_A X) (T.setFrames (.invoking (jx_m X) (jx_a X) :: jx_b X)) (T.setFrames (.invoking (jx_m X) (jx_a X) :: jx_b X)).heap := jT.go hTT hW (fun a x y => by show T.heap[a]? = _; rw [hT]; exact h4.2.1 a x y) (fun _ z => z)
  have hw : ∀ w, w ∈ jw_all → w.before (jx_a X) (T.setFrames (.invoking (jx_m X) (jx_a X) :: jx_b X)) = true := fun w z => jT_word hTT' hW ok.2.2.2.2.1 (Or.inl z)
  have hown : (T.setFrames (.invoking (jx_m X) (jx_a X) :: jx_b X)).vm.findClass "WindowTables" = some (jx_m X).cls := by rw [hvm, S.warmed.alike.findClass]; exact ok.2.2.2.1
  obtain ⟨q, hq⟩ := hTT'.2.2.2.1 _ hM
  obtain ⟨cX, kX, hcX, hkX, -⟩ := Cond.instantiable_spec (hw _ hins)
  have key : W (jx_p X) (jx_l X) (jx_e X) { frames := (jx_R X).frames, cells := (jx_R X).cells - cs, slots := (jx_R X).slots - sl, locals := (jx_R X).locals } (T.setFrames (.invoking (jx_m X) (jx_a X) :: jx_b X)) (jx_m X) (jx_a X) (jx_b X) (jx_t X) (jx_c X) H [] 0 0 (jx_Q X) (F0 (jx_m X) pc ls []) := by
    refine W.newcK ok.1 ok.2.1 hown (hw _ hcl) (hw _ hins) (hw _ hini) rfl d0 (by show 0 + 1 ≤ (jx_R X).cells - cs; omega) (by show 0 + 6 ≤ (jx_R X).slots - sl; omega) hcX rfl fun H1 kC hkC e1 z1 o1 => ?_
    refine lv_dup ok.1 ok.2.1 d3 rfl ?_
    refine va_ldcS ok.1 ok.2.1 hown hq d4 ?_
    intro T2 hT2 S2
    have hsz : T2.heap.size = H.size + 1 := by rw [hT2]; exact z1
    obtain ⟨U, stp, hrun, hend, hWU, hsame, ce, hce, hoc⟩ := Stand.ctorThrowS S2 ok.1 (hnt _ S.admits) (own := "WindowTables") (cls := cls) (names := jTn) (ic := ic) hown hfit (by decide +kernel) (fun a ha => jT_word hTT' hW ok.2.2.2.2.1 (hat a ha)) (fun x hx2 => by cases hx2) (a := H.size) hcX hkC (by rw [hT2]; exact e1) (by show T.heap.size ≤ H.size; rw [hT]; exact Nat.le_refl _) (msg := .ref q) rfl
      (g := F0 (jx_m X) (pc + 3 + 1 + 2) ls [.ref q, .ref H.size, .ref H.size]) rfl (h5.1.trans ok.2.2.1.symm) rfl rfl (rest := []) rfl (by rw [ok.2.1]; exact d6) (by rw [ok.2.1]; exact d9) (fun x hx2 => absurd hx2 (fun z => hx x z)) (by show 2 + 3 < (jx_R X).frames; omega) (by show 2 * 0 + 1 + (13 * (2 + 1) + 42) ≤ (jx_R X).locals; omega) ok.2.2.2.2.2.2.1
    have old : ∀ (r : Nat) (c : Cell), H[r]? = some c → U.heap[r]? = some c := fun r c hc => State.sameButNew.kept_nil hsame (by show T.heap[r]? = some c; rw [hT]; exact hc)
    have hsT : T.sameButNew ({ U with vm := T.vm } : State) [] (0 + 1) (0 + 6) := State.sameButNew.of_setFrames hsame
    have hxc : xc D H.size kx (sg_1 H.size ce) := ⟨ce, rfl, by
      have z1 := hTT'.2.2.2.2 kx hkx
      rw [hkc] at z1
      exact Option.some.inj (hoc.cls.symm.trans z1), hoc.vm⟩
    refine ⟨U, stp, fin (u H.size) (sg_un h (sg_1 H.size ce)) (.threw H.size) U (ho _).symm (hφ _) (by rw [hL]; exact sg_push L _ h _ h1 hxc (sg_dj_new h2 ce)) (fun r c hc => ?_) (fun r c hc => ?_) ⟨?_, fun r r1 r2 => ?_⟩ hrun hend ⟨locs, State.WarmedH.trans S.warmed hWU, ?_, h4.2.2⟩⟩
    · rcases sg_un_some hc with z | z
      · exact old r c (h2 r c z)
      · obtain ⟨z1, z2⟩ := sg_1_some z
        rw [z1, z2]; exact hce
    · rcases sg_un_some hc with z | z
      · exact h3 r c z
      · rw [(sg_1_some z).1]; exact ok.2.2.2.2.2.2.2.2 _ h4.1
    · have := hsT.2.1
      have : T.heap.size ≤ U.heap.size := this
      rw [hT] at this
      exact Nat.le_trans h4.1 this
    · have z3 : r < H.size := Nat.lt_of_lt_of_le r1 h4.1
      rw [old r H[r] (Array.getElem?_eq_getElem z3), ← h4.2.1 r r1 r2, Array.getElem?_eq_getElem z3]
    · have := S.same.trans (hsT.setVm (jx_s X).vm)
      rw [List.append_nil] at this
      exact this.mono (hmc _) (hms _)
  exact key T hT S'
end JTHW

section JTR
variable {X : jx_T} {D : jd_T} {cc : ByteArray} {own : String} {ret : Option FieldType} {cs sl : Nat} {L : List sg_A} {lv : List (Nat × Value)} {pc : Nat} {st rest : List Value} {b0 k0 b k fr0 lo0 : Nat}
variable {α κ σ : Type} {Lf : α → κ → σ → List sg_A} {c c9 : κ} {Sc S9 : σ} {bc bs : κ → Nat} {ψ : α → Prop} {t : Int}
theorem xT_0 {h : sg_F} {a : Nat} (hh : sg_l L h) : sg_l (L ++ xT D 0 a) h := by
  show sg_l (L ++ []) h
  rw [List.append_nil]; exact hh
theorem jt_iret {z r : Int} (u : α) (ok : jx_ok X D cc own (some .int)) (fin : jg_fin X (fun q : α × Nat => (oT t (some (.int (ii r))) q.2, (bc c9 ≤ b0 ∧ bs c9 ≤ k0) ∧ ψ q.1, Lf q.1 c9 S9 ++ xT D t q.2, b0 - bc c9, k0 - bs c9))) (hcc : (bc c ≤ b0 ∧ bs c ≤ k0) ∧ ψ u) (hs : some ((0, z), c, Sc) = some ((t, r), c9, S9)) (d : decode cc pc = .ok (.ireturn, 1)) : jw X (b0 - bc c) (k0 - bs c) (Lf u c Sc) lv pc [.int (ii z)] := by
  cases hs; exact jr_iret ok (jg_at fin (u, 0)) (Nat.le_refl _) (Nat.le_refl _) () rfl hcc (fun h hh => xT_0 hh) d
theorem jt_zret {z r : Int} (u : α) (ok : jx_ok X D cc own (some .boolean)) (hz : narrow .boolean (.int (ii z)) = .int (ii z)) (fin : jg_fin X (fun q : α × Nat => (oT t (some (.int (ii r))) q.2, (bc c9 ≤ b0 ∧ bs c9 ≤ k0) ∧ ψ q.1, Lf q.1 c9 S9 ++ xT D t q.2, b0 - bc c9, k0 - bs c9))) (hcc : (bc c ≤ b0 ∧ bs c ≤ k0) ∧ ψ u) (hs : some ((0, z), c, Sc) = some ((t, r), c9, S9)) (d : decode cc pc = .ok (.ireturn, 1)) : jw X (b0 - bc c) (k0 - bs c) (Lf u c Sc) lv pc [.int (ii z)] := by
  cases hs; exact jr_zret ok hz (jg_at fin (u, 0)) (Nat.le_refl _) (Nat.le_refl _) () rfl hcc (fun h hh => xT_0 hh) d
theorem jt_lret {z r : Int64} (u : α) (ok : jx_ok X D cc own (some .long)) (fin : jg_fin X (fun q : α × Nat => (oT t (some (.long r)) q.2, (bc c9 ≤ b0 ∧ bs c9 ≤ k0) ∧ ψ q.1, Lf q.1 c9 S9 ++ xT D t q.2, b0 - bc c9, k0 - bs c9))) (hcc : (bc c ≤ b0 ∧ bs c ≤ k0) ∧ ψ u) (hs : some (((0 : Int), z), c, Sc) = some ((t, r), c9, S9)) (d : decode cc pc = .ok (.lreturn, 1)) : jw X (b0 - bc c) (k0 - bs c) (Lf u c Sc) lv pc [.long z] := by
  cases hs; exact jr_lret ok (jg_at fin (u, 0)) (Nat.le_refl _) (Nat.le_refl _) () rfl hcc (fun h hh => xT_0 hh) d
theorem jt_vret {r : Unit} (u : α) (ok : jx_ok X D cc own none) (fin : jg_fin X (fun q : α × Nat => (oT t none q.2, (bc c9 ≤ b0 ∧ bs c9 ≤ k0) ∧ ψ q.1, Lf q.1 c9 S9 ++ xT D t q.2, b0 - bc c9, k0 - bs c9))) (hcc : (bc c ≤ b0 ∧ bs c ≤ k0) ∧ ψ u) (hs : some (((0 : Int), ()), c, Sc) = some ((t, r), c9, S9)) (d : decode cc pc = .ok (.return_, 1)) : jw X (b0 - bc c) (k0 - bs c) (Lf u c Sc) lv pc [] := by
  cases hs; exact jr_vret ok (jg_at fin (u, 0)) (Nat.le_refl _) (Nat.le_refl _) () rfl hcc (fun h hh => xT_0 hh) d
theorem jt_aret {C : String} {f : α → Nat → Nat} {z r : Nat} (u : α) (ok : jx_ok X D cc own (some (.object C))) (fin : jg_fin X (fun q : α × Nat => (oT t (some (.ref (f q.1 r))) q.2, (bc c9 ≤ b0 ∧ bs c9 ≤ k0) ∧ ψ q.1, Lf q.1 c9 S9 ++ xT D t q.2, b0 - bc c9, k0 - bs c9))) (hcc : (bc c ≤ b0 ∧ bs c ≤ k0) ∧ ψ u) (hs : some (((0 : Int), z), c, Sc) = some ((t, r), c9, S9)) (d : decode cc pc = .ok (.areturn, 1)) : jw X (b0 - bc c) (k0 - bs c) (Lf u c Sc) lv pc [.ref (f u z)] := by
  cases hs; exact jr_aret ok (Or.inr ⟨_, rfl⟩) (jg_at fin (u, 0)) (Nat.le_refl _) (Nat.le_refl _) () rfl hcc (fun h hh => xT_0 hh) d
/-- throw: c is what is left before it, e behind it -/
theorem jt_throw {ρ : Type} {vf : α → ρ → Option Value} {z r : ρ} {cls tx : String} {i0 i2 ic kx : Nat} {e : κ} (tz : Int) (u : α) (htz : tz = (kx : Int) + 1) (hkx : kx < 3) (hkc : jEx.getD kx "" = cls) (hnt : jl_nt (jx_l X)) (ok : jx_ok X D cc "WindowTables" ret) (hTT : jT D (jx_A X) (jx_s X) (jx_s X).heap) (hx : jx_nh X) (hcl : Cond.classLink "WindowTables" i0 cls ∈ jw_all) (hins : Cond.instantiable cls 6 ∈ jw_all) (hini : Cond.initialized cls ∈ jw_all) (hfit : Bundle.fit cls = true) (hM : (i2, tx) ∈ jM) (hat : jTa "WindowTables" ic cls)
    (d0 : decode cc pc = .ok (.new i0, 3)) (d3 : decode cc (pc + 3) = .ok (.dup, 1)) (d4 : decode cc (pc + 3 + 1) = .ok (.ldc i2, 2)) (d6 : decode cc (pc + 3 + 1 + 2) = .ok (.invokespecial ic, 3)) (d9 : decode cc (pc + 3 + 1 + 2 + 3) = .ok (.athrow, 1))
    (hR : jx_R X = { frames := fr0, cells := b0, slots := k0, locals := lo0 }) (hF : 6 ≤ fr0 ∧ 90 ≤ lo0) (hb : 1 ≤ b ∧ 6 ≤ k) (eb : bc e = b - 1) (ek : bs e = k - 6)
    (fin : jg_fin X (fun q : α × Nat => (oT t (vf q.1 r) q.2, (bc c9 ≤ b0 ∧ bs c9 ≤ k0) ∧ ψ q.1, Lf q.1 c9 S9 ++ xT D t q.2, b0 - bc c9, k0 - bs c9))) (hcc : (b ≤ b0 ∧ k ≤ k0) ∧ ψ u) (hs : some ((tz, z), e, Sc) = some ((t, r), c9, S9)) (hLL : L = Lf u e Sc) : jw X (b0 - b) (k0 - k) L lv pc [] := by
  have e1 : tz = t ∧ z = r ∧ e = c9 ∧ Sc = S9 := by cases hs; exact ⟨rfl, rfl, rfl, rfl⟩
  clear hs
  obtain ⟨rfl, rfl, rfl, rfl⟩ := e1
  have hne : ¬ tz = 0 := by omega
  refine jr_throw hkx hkc hnt ok hTT hx hcl hins hini hfit hM hat d0 d3 d4 d6 d9 (by rw [hR]; exact hF.1) (by rw [hR]; exact hF.2) (by rw [hR]; show b0 - b + 1 ≤ b0; omega) (by rw [hR]; show k0 - k + 6 ≤ k0; omega) fin (fun a => (u, a)) (fun a => by show oT tz _ a = _; unfold oT; rw [if_neg hne]) (fun a => ⟨by rw [eb, ek]; omega, hcc.2⟩) (fun a => ?_) (fun a => ?_) (fun a => ?_)
  · show Lf u e Sc ++ xT D tz a = L ++ [xc D a kx]
    rw [hLL]; unfold xT; rw [if_neg hne, show (tz - 1).toNat = kx by omega]
  · show b0 - b + 1 ≤ b0 - bc e
    rw [eb]; omega
  · show k0 - k + 6 ≤ k0 - bs e
    rw [ek]; omega
end JTR

theorem va_ldcSW {p : Program} {l : Launch} {e : Env} {R : Room} {s : State} {m : MethodId} {args : Array Value} {below : List Frame} {meth : Method} {c : Code} {H : Heap} {locs : List Loc} {cells slots : Nat} {Q : State → Prop} {cc : ByteArray} {pc : Nat} {ls : Array Slot} {rest : List Value} (hexec : p.tables.exec = Jvm.exec) (hb : c.code = cc) {own tx : String} {index q : Nat} (hown : s.vm.findClass own = some m.cls) (hZ : vk_R own index tx q s) (hdg : decode cc pc = .ok (.ldc_w index, 3))
    (k : W p l e R s m args below meth c H locs cells slots Q (F0 m (pc + 3) ls (.ref q :: rest))) : W p l e R s m args below meth c H locs cells slots Q (F0 m pc ls rest) := by
  intro T hT X
  obtain ⟨t, a1, b1⟩ := k T hT X
  exact ⟨t, Stand.ldcStringW X hexec hown (text := tx) (a := q) hZ.1 hZ.2 (g := F0 m pc ls rest) rfl (by rw [hb]; exact hdg) t a1, b1⟩
section JTHW2
variable {X : jx_T} {D : jd_T} {cc : ByteArray} {own : String} {ret : Option FieldType} {cs sl : Nat} {L : List sg_A} {lv : List (Nat × Value)} {pc : Nat} {st : List Value} {α : Type} {E : jg_T α}
theorem jr_astore_nN {k9 : Fin 4} {i : Nat} (lv' : List (Nat × Value)) (ok : jx_ok X D cc own ret) (d : decode cc pc = .ok (.astore_n k9, 1)) (hi : (k9 : Nat) = i) (hn : i < jx_n X) (hl : (i, Value.null) :: lv.filter (fun q => !(q.1 == i) && !(q.1 + 1 == i && q.2.category == 2)) = lv')
    (k : jw X cs sl L lv' (pc + 1) st) : jw X cs sl L lv pc (.null :: st) := by
  intro h H locs ls h1 h2 h3 h4 h5
  exact lv_astore_nN ok.1 ok.2.1 d hi h5 hn hl (fun ls' h6 => k h H locs ls' h1 h2 h3 h4 h6)
theorem jr_throwW {cls tx : String} {i0 i2 ic kx : Nat} (hkx : kx < 3) (hkc : jEx.getD kx "" = cls) (hnt : jl_nt (jx_l X)) (ok : jx_ok X D cc "WindowTables" ret) (hTT : jT D (jx_A X) (jx_s X) (jx_s X).heap) (hx : jx_nh X) (hcl : Cond.classLink "WindowTables" i0 cls ∈ jw_all) (hins : Cond.instantiable cls 6 ∈ jw_all) (hini : Cond.initialized cls ∈ jw_all) (hfit : Bundle.fit cls = true) (hM : (i2, tx) ∈ jM) (hat : jTa "WindowTables" ic cls)
    (d0 : decode cc pc = .ok (.new i0, 3)) (d3 : decode cc (pc + 3) = .ok (.dup, 1)) (d4 : decode cc (pc + 3 + 1) = .ok (.ldc_w i2, 3)) (d6 : decode cc (pc + 3 + 1 + 3) = .ok (.invokespecial ic, 3)) (d9 : decode cc (pc + 3 + 1 + 3 + 3) = .ok (.athrow, 1))
    (hRf : 6 ≤ (jx_R X).frames) (hRl : 90 ≤ (jx_R X).locals) (hRc : cs + 1 ≤ (jx_R X).cells) (hRs : sl + 6 ≤ (jx_R X).slots)
    (fin : jg_fin X E) (u : Nat → α) (ho : ∀ a, (E (u a)).1 = .threw a) (hφ : ∀ a, (E (u a)).2.1) (hL : ∀ a, (E (u a)).2.2.1 = L ++ [xc D a kx]) (hmc : ∀ a, cs + 1 ≤ (E (u a)).2.2.2.1) (hms : ∀ a, sl + 6 ≤ (E (u a)).2.2.2.2) : jw X cs sl L lv pc [] := by
  intro h H locs ls h1 h2 h3 h4 h5 T hT S
  have S' := st_rebase S (by omega) (by omega)
  have hvm : (T.setFrames (.invoking (jx_m X) (jx_a X) :: jx_b X)).vm = T.vm := rfl
  have hW : (jx_s X).WarmedH (T.setFrames (.invoking (jx_m X) (jx_a X) :: jx_b X)).vm := S.warmed
  have hTT' : jT D (jx_A X) (T.setFrames (.invoking (jx_m X) (jx_a X) :: jx_b X)) (T.setFrames (.invoking (jx_m X) (jx_a X) :: jx_b X)).heap := jT.go hTT hW (fun a x y => by show T.heap[a]? = _; rw [hT]; exact h4.2.1 a x y) (fun _ z => z)
  have hw : ∀ w, w ∈ jw_all → w.before (jx_a X) (T.setFrames (.invoking (jx_m X) (jx_a X) :: jx_b X)) = true := fun w z => jT_word hTT' hW ok.2.2.2.2.1 (Or.inl z)
  have hown : (T.setFrames (.invoking (jx_m X) (jx_a X) :: jx_b X)).vm.findClass "WindowTables" = some (jx_m X).cls := by rw [hvm, S.warmed.alike.findClass]; exact ok.2.2.2.1
  obtain ⟨q, hq⟩ := hTT'.2.2.2.1 _ hM
  obtain ⟨cX, kX, hcX, hkX, -⟩ := Cond.instantiable_spec (hw _ hins)
  have key : W (jx_p X) (jx_l X) (jx_e X) { frames := (jx_R X).frames, cells := (jx_R X).cells - cs, slots := (jx_R X).slots - sl, locals := (jx_R X).locals } (T.setFrames (.invoking (jx_m X) (jx_a X) :: jx_b X)) (jx_m X) (jx_a X) (jx_b X) (jx_t X) (jx_c X) H [] 0 0 (jx_Q X) (F0 (jx_m X) pc ls []) := by
    refine W.newcK ok.1 ok.2.1 hown (hw _ hcl) (hw _ hins) (hw _ hini) rfl d0 (by show 0 + 1 ≤ (jx_R X).cells - cs; omega) (by show 0 + 6 ≤ (jx_R X).slots - sl; omega) hcX rfl fun H1 kC hkC e1 z1 o1 => ?_
    refine lv_dup ok.1 ok.2.1 d3 rfl ?_
    refine va_ldcSW ok.1 ok.2.1 hown hq d4 ?_
    intro T2 hT2 S2
    have hsz : T2.heap.size = H.size + 1 := by rw [hT2]; exact z1
    obtain ⟨U, stp, hrun, hend, hWU, hsame, ce, hce, hoc⟩ := Stand.ctorThrowS S2 ok.1 (hnt _ S.admits) (own := "WindowTables") (cls := cls) (names := jTn) (ic := ic) hown hfit (by decide +kernel) (fun a ha => jT_word hTT' hW ok.2.2.2.2.1 (hat a ha)) (fun x hx2 => by cases hx2) (a := H.size) hcX hkC (by rw [hT2]; exact e1) (by show T.heap.size ≤ H.size; rw [hT]; exact Nat.le_refl _) (msg := .ref q) rfl
      (g := F0 (jx_m X) (pc + 3 + 1 + 3) ls [.ref q, .ref H.size, .ref H.size]) rfl (h5.1.trans ok.2.2.1.symm) rfl rfl (rest := []) rfl (by rw [ok.2.1]; exact d6) (by rw [ok.2.1]; exact d9) (fun x hx2 => absurd hx2 (fun z => hx x z)) (by show 2 + 3 < (jx_R X).frames; omega) (by show 2 * 0 + 1 + (13 * (2 + 1) + 42) ≤ (jx_R X).locals; omega) ok.2.2.2.2.2.2.1
    have old : ∀ (r : Nat) (c : Cell), H[r]? = some c → U.heap[r]? = some c := fun r c hc => State.sameButNew.kept_nil hsame (by show T.heap[r]? = some c; rw [hT]; exact hc)
    have hsT : T.sameButNew ({ U with vm := T.vm } : State) [] (0 + 1) (0 + 6) := State.sameButNew.of_setFrames hsame
    have hxc : xc D H.size kx (sg_1 H.size ce) := ⟨ce, rfl, by
      have z1 := hTT'.2.2.2.2 kx hkx
      rw [hkc] at z1
      exact Option.some.inj (hoc.cls.symm.trans z1), hoc.vm⟩
    refine ⟨U, stp, fin (u H.size) (sg_un h (sg_1 H.size ce)) (.threw H.size) U (ho _).symm (hφ _) (by rw [hL]; exact sg_push L _ h _ h1 hxc (sg_dj_new h2 ce)) (fun r c hc => ?_) (fun r c hc => ?_) ⟨?_, fun r r1 r2 => ?_⟩ hrun hend ⟨locs, State.WarmedH.trans S.warmed hWU, ?_, h4.2.2⟩⟩
    · rcases sg_un_some hc with z | z
      · exact old r c (h2 r c z)
      · obtain ⟨z1, z2⟩ := sg_1_some z
        rw [z1, z2]; exact hce
    · rcases sg_un_some hc with z | z
      · exact h3 r c z
      · rw [(sg_1_some z).1]; exact ok.2.2.2.2.2.2.2.2 _ h4.1
    · have := hsT.2.1
      have : T.heap.size ≤ U.heap.size := this
      rw [hT] at this
      exact Nat.le_trans h4.1 this
    · have z3 : r < H.size := Nat.lt_of_lt_of_le r1 h4.1
      rw [old r H[r] (Array.getElem?_eq_getElem z3), ← h4.2.1 r r1 r2, Array.getElem?_eq_getElem z3]
    · have := S.same.trans (hsT.setVm (jx_s X).vm)
      rw [List.append_nil] at this
      exact this.mono (hmc _) (hms _)
  exact key T hT S'
end JTHW2
section JTR2
variable {X : jx_T} {D : jd_T} {cc : ByteArray} {own : String} {ret : Option FieldType} {cs sl : Nat} {L : List sg_A} {lv : List (Nat × Value)} {pc : Nat} {st rest : List Value} {b0 k0 b k fr0 lo0 : Nat}
variable {α κ σ : Type} {Lf : α → κ → σ → List sg_A} {c c9 : κ} {Sc S9 : σ} {bc bs : κ → Nat} {ψ : α → Prop} {t : Int}
/-- throw: c is what is left before it, e behind it -/
theorem jt_throwW {ρ : Type} {vf : α → ρ → Option Value} {z r : ρ} {cls tx : String} {i0 i2 ic kx : Nat} {e : κ} (tz : Int) (u : α) (htz : tz = (kx : Int) + 1) (hkx : kx < 3) (hkc : jEx.getD kx "" = cls) (hnt : jl_nt (jx_l X)) (ok : jx_ok X D cc "WindowTables" ret) (hTT : jT D (jx_A X) (jx_s X) (jx_s X).heap) (hx : jx_nh X) (hcl : Cond.classLink "WindowTables" i0 cls ∈ jw_all) (hins : Cond.instantiable cls 6 ∈ jw_all) (hini : Cond.initialized cls ∈ jw_all) (hfit : Bundle.fit cls = true) (hM : (i2, tx) ∈ jM) (hat : jTa "WindowTables" ic cls)
    (d0 : decode cc pc = .ok (.new i0, 3)) (d3 : decode cc (pc + 3) = .ok (.dup, 1)) (d4 : decode cc (pc + 3 + 1) = .ok (.ldc_w i2, 3)) (d6 : decode cc (pc + 3 + 1 + 3) = .ok (.invokespecial ic, 3)) (d9 : decode cc (pc + 3 + 1 + 3 + 3) = .ok (.athrow, 1))
    (hR : jx_R X = { frames := fr0, cells := b0, slots := k0, locals := lo0 }) (hF : 6 ≤ fr0 ∧ 90 ≤ lo0) (hb : 1 ≤ b ∧ 6 ≤ k) (eb : bc e = b - 1) (ek : bs e = k - 6)
    (fin : jg_fin X (fun q : α × Nat => (oT t (vf q.1 r) q.2, (bc c9 ≤ b0 ∧ bs c9 ≤ k0) ∧ ψ q.1, Lf q.1 c9 S9 ++ xT D t q.2, b0 - bc c9, k0 - bs c9))) (hcc : (b ≤ b0 ∧ k ≤ k0) ∧ ψ u) (hs : some ((tz, z), e, Sc) = some ((t, r), c9, S9)) (hLL : L = Lf u e Sc) : jw X (b0 - b) (k0 - k) L lv pc [] := by
  have e1 : tz = t ∧ z = r ∧ e = c9 ∧ Sc = S9 := by cases hs; exact ⟨rfl, rfl, rfl, rfl⟩
  clear hs
  obtain ⟨rfl, rfl, rfl, rfl⟩ := e1
  have hne : ¬ tz = 0 := by omega
  refine jr_throwW hkx hkc hnt ok hTT hx hcl hins hini hfit hM hat d0 d3 d4 d6 d9 (by rw [hR]; exact hF.1) (by rw [hR]; exact hF.2) (by rw [hR]; show b0 - b + 1 ≤ b0; omega) (by rw [hR]; show k0 - k + 6 ≤ k0; omega) fin (fun a => (u, a)) (fun a => by show oT tz _ a = _; unfold oT; rw [if_neg hne]) (fun a => ⟨by rw [eb, ek]; omega, hcc.2⟩) (fun a => ?_) (fun a => ?_) (fun a => ?_)
  · show Lf u e Sc ++ xT D tz a = L ++ [xc D a kx]
    rw [hLL]; unfold xT; rw [if_neg hne, show (tz - 1).toNat = kx by omega]
  · show b0 - b + 1 ≤ b0 - bc e
    rw [eb]; omega
  · show k0 - k + 6 ≤ k0 - bs e
    rw [ek]; omega
theorem jwT_widen {cs' sl' a : Nat} (h1 : cs ≤ cs') (h2 : sl ≤ sl') (k : jwT X cs' sl' L lv pc st a) : jwT X cs sl L lv pc st a := by
  intro h H locs ls a1 a2 a3 a4 a5 T hT S
  exact k h H locs ls a1 a2 a3 a4 a5 T hT ⟨S.admits, S.cas, S.clock, S.frames, S.room, S.hears, S.method, S.code, S.here, S.tail, S.warmed, S.limits, S.bytes, S.same.mono h1 h2⟩
theorem jt_callV {ci a index n fr lo b1 k1 : Nat} {C : String} {y : MethodName} {bytes : ByteArray} {maxL : Nat} {rt : Option FieldType} {T : u_T} {N : Nat} {fs As : List Value} {Rl : sg_A → List sg_A → Prop} {vf : α → Option Value} {Lo : α → List sg_A} {tz : Int} (ok : jx_ok X D cc own ret) (hI : jI D (jx_A X) (jx_s X) (jx_s X).heap) (hTT : jT D (jx_A X) (jx_s X) (jx_s X).heap) (hR : jx_R X = { frames := fr0, cells := b0, slots := k0, locals := lo0 }) (hcc : b ≤ b0 ∧ k ≤ k0) (hg : jm_V own index C y bytes maxL rt n) (hM : jgT_C (jx_l X) D y bytes maxL rt { frames := fr, cells := b, slots := k, locals := lo } (.ref a :: As) L (fun q : α × Nat => (oT tz (vf q.1) q.2, (b1 ≤ b ∧ k1 ≤ k) ∧ ψ q.1, Lo q.1 ++ xT D tz q.2, b - b1, k - k1)))
    (hq : sg_at L (ob D a ci fs) Rl) (hcl : vwCl[ci]? = some (C, T, N)) (hst : st = As.reverse ++ .ref a :: rest) (hn : As.length = n) (hw : (rest.map fun v => v.category).sum ≤ 8) (hF : fr + 1 ≤ fr0 ∧ 8 + (maxL + 11) + lo ≤ lo0) (d : decode cc pc = .ok (.invokevirtual index, 3))
    (kr : tz = 0 → ∀ u, b1 ≤ b0 ∧ k1 ≤ k0 → ψ u → jw X (b0 - b1) (k0 - k1) (Lo u) lv (pc + 3) ((vf u).toList ++ rest))
    (kt : ¬ tz = 0 → ∀ (u : α) (x : Nat), b1 ≤ b0 ∧ k1 ≤ k0 → ψ u → jwT X (b0 - b1) (k0 - k1) (Lo u ++ xT D tz x) lv pc rest x) : jw X (b0 - b) (k0 - k) L lv pc st := by
  refine jh_callT ok hI hTT hg hM hq hcl hst hn hw (by rw [hR]; exact hF) (by rw [hR]; exact ⟨by show b0 - b + b ≤ b0; omega, by show k0 - k + k ≤ k0; omega⟩) d (fun q v ho hu => ?_) (fun q x ho hu => ?_)
  · by_cases z : tz = 0
    · subst z
      have hv : vf q.1 = v := by
        have : oT 0 (vf q.1) q.2 = .returned v := ho
        unfold oT at this; rw [if_pos rfl] at this; cases this; rfl
      subst hv
      refine jr_widen (cs' := b0 - b1) (sl' := k0 - k1) (by have := hu.1; show b0 - b + (b - b1) ≤ b0 - b1; omega) (by have := hu.1; show k0 - k + (k - k1) ≤ k0 - k1; omega) ?_
      have := kr rfl q.1 ⟨by have := hu.1; omega, by have := hu.1; omega⟩ hu.2
      show jw X (b0 - b1) (k0 - k1) (Lo q.1 ++ []) lv (pc + 3) ((vf q.1).toList ++ rest)
      rw [List.append_nil]; exact this
    · have : oT tz (vf q.1) q.2 = .returned v := ho
      unfold oT at this; rw [if_neg z] at this; cases this
  · by_cases z : tz = 0
    · have : oT tz (vf q.1) q.2 = .threw x := ho
      unfold oT at this; rw [if_pos z] at this; cases this
    · have hx : q.2 = x := by
        have : oT tz (vf q.1) q.2 = .threw x := ho
        unfold oT at this; rw [if_neg z] at this; cases this; rfl
      subst hx
      exact jwT_widen (cs' := b0 - b1) (sl' := k0 - k1) (by have := hu.1; show b0 - b + (b - b1) ≤ b0 - b1; omega) (by have := hu.1; show k0 - k + (k - k1) ≤ k0 - k1; omega) (kt z q.1 q.2 ⟨by have := hu.1; omega, by have := hu.1; omega⟩ hu.2)
/-- a callee's exception flies on -/
theorem jt_prop {ρ : Type} {vf : α → ρ → Option Value} {z r : ρ} {e : κ} {tz : Int} {x : Nat} (hne : ¬ tz = 0) (u : α) (ok : jx_ok X D cc own ret) (hx : jx_nh X) (fin : jg_fin X (fun q : α × Nat => (oT t (vf q.1 r) q.2, (bc c9 ≤ b0 ∧ bs c9 ≤ k0) ∧ ψ q.1, Lf q.1 c9 S9 ++ xT D t q.2, b0 - bc c9, k0 - bs c9))) (hcc : (bc e ≤ b0 ∧ bs e ≤ k0) ∧ ψ u) (hs : some ((tz, z), e, Sc) = some ((t, r), c9, S9)) : jwT X (b0 - bc e) (k0 - bs e) (Lf u e Sc ++ xT D tz x) lv pc st x := by
  have e1 : tz = t ∧ z = r ∧ e = c9 ∧ Sc = S9 := by cases hs; exact ⟨rfl, rfl, rfl, rfl⟩
  clear hs
  obtain ⟨rfl, rfl, rfl, rfl⟩ := e1
  exact jwT_out ok hx fin (u, x) (by show oT tz _ x = _; unfold oT; rw [if_neg hne]) hcc rfl (Nat.le_refl _) (Nat.le_refl _)
end JTR2
set_option maxHeartbeats 4000000 in
set_option maxRecDepth 100000 in
theorem r_St_find0 (l : Launch) (D : jd_T) (g : Nat → Nat) (A : AW) (c : CW) (S : WS) (v1 : Int) (hv : -2147483648 ≤ v1 ∧ v1 ≤ 2147483647) (hN : c.N ≤ 256) (hy : ¬ ((0 : Int) ≤ v1 ∧ v1 < (c.N : Int))) : jc_C l D y_St_find b_St_find 2 (some (.object "WindowTables$Series")) { frames := 0, cells := 0, slots := 0, locals := 0 } [.ref (g 2), .int (ii v1)] (wtL D g A c S) (fun _ : Unit => (.returned (some .null), True, wtL D g A c S)) := by
  refine jc_of rfl (Nat.le_of_ble_eq_true rfl) ?_
  intro X hl hR hN2 ok hnm fin
  subst hl
  show jw X 0 0 (wtL D g A c S) [(0, .ref (g 2)), (1, .int (ii v1))] 0 []
  have hend : ∀ lv, jw X 0 0 (wtL D g A c S) lv 21 [] := fun lv => by
    refine jr_null ok d_St_find_21 ?_
    exact jr_aret ok (Or.inl rfl) fin (Nat.le_refl _) (Nat.le_refl _) () rfl trivial sg_same d_St_find_22
  refine jr_iload_n ok 1 d_St_find_0 rfl rfl ?_
  refine jr_if_lt 21 ok hv d_St_find_1 (by decide) (fun _ => hend _) (fun c1 => ?_)
  refine jr_iload_n ok 1 d_St_find_4 rfl rfl ?_
  refine jr_aload_n ok 0 d_St_find_5 rfl rfl ?_
  refine jr_get (v := .int (ii (c.N : Int))) ok 3 f_St_17 rfl rfl d_St_find_6 ?_
  exact jr_icmp_ge 21 ok hv ⟨by omega, by omega⟩ d_St_find_9 (by decide) (fun _ => hend _) (fun c2 => by omega)
