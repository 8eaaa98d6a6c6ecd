/-! ===== rows of the judgement: ends and calls ===== -/
section JE
variable {X : jx_T} {D : jd_T} {cc : ByteArray} {own : String} {ret : Option FieldType} {cs sl : Nat} {L : List sg_A} {lv : List (Nat × Value)} {pc : Nat} {st : List Value} {α : Type} {E : je_T α} {mc ms : Nat}
theorem jr_mono {H : Heap} {locs : List Loc} {g : JFrame} {Q : State → Prop} (k : W (jx_p X) (jx_l X) (jx_e X) (jx_R X) (jx_s X) (jx_m X) (jx_a X) (jx_b X) (jx_t X) (jx_c X) H locs cs sl Q g) (hq : ∀ t, Q t → jx_Q X t) : jx_W X H locs cs sl g := fun T hT S => by
  obtain ⟨t, a, b⟩ := k T hT S
  exact ⟨t, a, hq t b⟩
theorem jr_end {H : Heap} {locs : List Loc} {h : sg_F} (fin : jx_fin X mc ms E) (hcs : cs ≤ mc) (hsl : sl ≤ ms) (u : α) {o : Outcome} (ho : o = (E u).1) (hφ : (E u).2.1) (he : sg_l (E u).2.2 h) (h2 : sg_in h H) (h3 : ∀ (q : Nat) (c : Cell), h q = some c → jx_A X q) (h4 : va_S (jx_A X) (jx_s X).heap H locs)
    {t : State} (hm : MQ (jx_b X) (fun _ _ o' t' => o' = o ∧ t'.heap = H) (jx_a X) (jx_s X) cs sl (jx_A X) t) : jx_Q X t := by
  obtain ⟨o', hrun, hend, ⟨ho', hh⟩, Lx, ⟨-, hW, hsame⟩, hfree⟩ := hm
  subst ho'
  exact fin u h o' t ho hφ he (by rw [hh]; exact h2) h3 (h4.F hh) hrun hend ⟨Lx, hW, hsame.mono hcs hsl, hfree⟩
theorem jr_iret {z : Int} (ok : jx_ok X D cc own (some .int)) (fin : jx_fin X mc ms E) (hcs : cs ≤ mc) (hsl : sl ≤ ms) (u : α) (ho : (E u).1 = .returned (some (.int (ii z)))) (hφ : (E u).2.1) (he : ∀ h, sg_l L h → sg_l (E u).2.2 h) (d : decode cc pc = .ok (.ireturn, 1)) : jw X cs sl L lv pc [.int (ii z)] := by
  intro h H locs ls h1 h2 h3 h4 h5
  refine jr_mono (W.iret (Qc := fun _ _ o' t' => o' = .returned (some (.int (ii z))) ∧ t'.heap = H) (free := jx_A X) ok.1 ok.2.1 ok.2.2.2.2.2.1 (fun t ht _ => ⟨rfl, ht⟩) h4.2.2 d ok.2.2.2.2.2.2.1) (fun t hm => ?_)
  exact jr_end fin hcs hsl u ho.symm hφ (he h h1) h2 h3 h4 hm
theorem jr_zret {z : Int} (ok : jx_ok X D cc own (some .boolean)) (hz : narrow .boolean (.int (ii z)) = .int (ii z)) (fin : jx_fin X mc ms E) (hcs : cs ≤ mc) (hsl : sl ≤ ms) (u : α) (ho : (E u).1 = .returned (some (.int (ii z)))) (hφ : (E u).2.1) (he : ∀ h, sg_l L h → sg_l (E u).2.2 h) (d : decode cc pc = .ok (.ireturn, 1)) : jw X cs sl L lv pc [.int (ii z)] := by
  intro h H locs ls h1 h2 h3 h4 h5
  refine jr_mono (W.zret (Qc := fun _ _ o' t' => o' = .returned (some (.int (ii z))) ∧ t'.heap = H) (free := jx_A X) ok.1 ok.2.1 ok.2.2.2.2.2.1 hz (fun t ht _ => ⟨rfl, ht⟩) h4.2.2 d ok.2.2.2.2.2.2.1) (fun t hm => ?_)
  exact jr_end fin hcs hsl u ho.symm hφ (he h h1) h2 h3 h4 hm
theorem jr_lret {x : Int64} (ok : jx_ok X D cc own (some .long)) (fin : jx_fin X mc ms E) (hcs : cs ≤ mc) (hsl : sl ≤ ms) (u : α) (ho : (E u).1 = .returned (some (.long x))) (hφ : (E u).2.1) (he : ∀ h, sg_l L h → sg_l (E u).2.2 h) (d : decode cc pc = .ok (.lreturn, 1)) : jw X cs sl L lv pc [.long x] := by
  intro h H locs ls h1 h2 h3 h4 h5
  refine jr_mono (W.lret (Qc := fun _ _ o' t' => o' = .returned (some (.long x)) ∧ t'.heap = H) (free := jx_A X) ok.1 ok.2.1 ok.2.2.2.2.2.1 (fun t ht _ => ⟨rfl, ht⟩) h4.2.2 d ok.2.2.2.2.2.2.1) (fun t hm => ?_)
  exact jr_end fin hcs hsl u ho.symm hφ (he h h1) h2 h3 h4 hm
theorem jr_vret (ok : jx_ok X D cc own none) (fin : jx_fin X mc ms E) (hcs : cs ≤ mc) (hsl : sl ≤ ms) (u : α) (ho : (E u).1 = .returned none) (hφ : (E u).2.1) (he : ∀ h, sg_l L h → sg_l (E u).2.2 h) (d : decode cc pc = .ok (.return_, 1)) : jw X cs sl L lv pc [] := by
  intro h H locs ls h1 h2 h3 h4 h5
  refine jr_mono (W.vret (Qc := fun _ _ o' t' => o' = .returned none ∧ t'.heap = H) (free := jx_A X) ok.1 ok.2.1 ok.2.2.2.2.2.1 (fun t ht _ => ⟨rfl, ht⟩) h4.2.2 d ok.2.2.2.2.2.2.1) (fun t hm => ?_)
  exact jr_end fin hcs hsl u ho.symm hφ (he h h1) h2 h3 h4 hm
theorem jr_aret {v : Value} {C : String} (ok : jx_ok X D cc own (some (.object C))) (hv : v = .null ∨ ∃ a, v = .ref a) (fin : jx_fin X mc ms E) (hcs : cs ≤ mc) (hsl : sl ≤ ms) (u : α) (ho : (E u).1 = .returned (some v)) (hφ : (E u).2.1) (he : ∀ h, sg_l L h → sg_l (E u).2.2 h) (d : decode cc pc = .ok (.areturn, 1)) : jw X cs sl L lv pc [v] := by
  intro h H locs ls h1 h2 h3 h4 h5
  refine jr_mono (W.aret (Qc := fun _ _ o' t' => o' = .returned (some v) ∧ t'.heap = H) (free := jx_A X) ok.1 ok.2.1 ok.2.2.2.2.2.1 (Or.inl ⟨C, rfl⟩) hv (fun t ht _ => ⟨rfl, ht⟩) h4.2.2 d ok.2.2.2.2.2.2.1) (fun t hm => ?_)
  exact jr_end fin hcs hsl u ho.symm hφ (he h h1) h2 h3 h4 hm
/-- behind a call that has returned -/
theorem jr_run {H : Heap} {locs : List Loc} {ls : Array Slot} {f g : sg_F} {Lr : List sg_A} {rest : List Value} {v : α → Option Value} (hA0 : ∀ q : Nat, (jx_s X).heap.size ≤ q → jx_A X q) (hE : ∀ u, (E u).1 = .returned (v u))
    (hr : va_Run (jx_p X) (jx_l X) (jx_e X) (jx_R X) (jx_s X) (jx_m X) (jx_a X) (jx_b X) (jx_t X) (jx_c X) H locs cs sl mc ms (F0 (jx_m X) pc ls st) rest (fun s o t => jc_End E f H.size s o t) (jc_A f H.size))
    (dj : sg_dj f g) (hg : sg_l Lr g) (h2 : sg_in (sg_un f g) H) (h3 : ∀ (q : Nat) (c : Cell), sg_un f g q = some c → jx_A X q) (h4 : va_S (jx_A X) (jx_s X).heap H locs) (h5 : lv_has ls (jx_n X) lv)
    (kk : ∀ u, (E u).2.1 → jw X (cs + mc) (sl + ms) ((E u).2.2 ++ Lr) lv (pc + 3) ((v u).toList ++ rest)) : jx_W X H locs cs sl (F0 (jx_m X) pc ls st) := by
  intro T hT S
  obtain ⟨w, st₀, t, T', Lx, h0, X', hLx, e1, e2, ⟨u, h', ho, hφ, hl', hin', hdom', hF⟩, stp⟩ := hr T hT S
  rw [hE u] at ho
  have hw : w = v u := Outcome.returned.inj ho
  subst hw
  have hin2 := (sg_in_un dj).mp h2
  have hfA : ∀ q, jc_A f H.size q → jx_A X q := fun q hq => by
    rcases hq with z | z
    · cases hfq : f q with
      | none => exact absurd hfq z
      | some c => exact h3 q c (sg_un_l hfq)
    · exact hA0 q (Nat.le_trans h4.1 z)
  have hgN : ∀ (q : Nat) (c : Cell), g q = some c → q < H.size ∧ ¬ jc_A f H.size q := fun q c hq => by
    have hlt := sg_in_lt hin2.2 hq
    refine ⟨hlt, fun z => ?_⟩
    rcases z with z | z
    · rcases dj q with w | w
      · exact z w
      · rw [hq] at w; cases w
    · omega
  have hF1 : H.size ≤ t.heap.size := by have := hF.1; rw [h0] at this; exact this
  have hF2 : ∀ q : Nat, q < H.size → ¬ jc_A f H.size q → t.heap[q]? = H[q]? := fun q a b => by
    have := hF.2 q (by rw [h0]; exact a) b
    rw [h0] at this; exact this
  have dj' : sg_dj h' g := fun q => by
    cases hq : g q with
    | none => exact Or.inr rfl
    | some c =>
      left
      cases hq' : h' q with
      | none => rfl
      | some c' => exact absurd (hdom' q c' hq') (hgN q c hq).2
  have hing : sg_in g t.heap := fun q c hq => by
    obtain ⟨a, b⟩ := hgN q c hq
    rw [hF2 q a b]
    exact hin2.2 q c hq
  have hl2 : sg_l ((E u).2.2 ++ Lr) (sg_un h' g) := (sg_l_app _ _ _).mpr ⟨h', g, dj', rfl, hl', hg⟩
  have hS2 : va_S (jx_A X) (jx_s X).heap t.heap (locs ++ Lx) := ⟨Nat.le_trans h4.1 hF1, fun q a b => by rw [hF2 q (Nat.lt_of_lt_of_le a h4.1) (fun z => b (hfA q z))]; exact h4.2.1 q a b, fun q hq => by
    rcases List.mem_append.mp hq with z | z
    · exact h4.2.2 q z
    · exact hfA _ (hLx q z)⟩
  have hk := kk u hφ (sg_un h' g) t.heap (locs ++ Lx) ls hl2 ((sg_in_un dj').mpr ⟨hin', hing⟩) (fun q c hq => by
    rcases sg_un_some hq with z | z
    · exact hfA q (hdom' q c z)
    · exact h3 q c (by rw [sg_un_comm dj]; exact sg_un_l z)) hS2 h5
  obtain ⟨t2, a1, b1⟩ := hk T' e1 X'
  exact ⟨t2, stp t2 a1, b1⟩
/-- a call's words: an instance method, a static one, a constructor -/
def jm_V (own : String) (index : Nat) (C : String) (y : MethodName) (bytes : ByteArray) (maxL : Nat) (rt : Option FieldType) (n : Nat) : Prop :=
  GoodIn jw_all (wsV own index C y (jc_ws y bytes maxL rt)) ∧ (y.cls = C ∧ y.cls ≠ "java/lang/invoke/MethodHandle" ∧ y.cls ≠ "java/lang/invoke/VarHandle" ∧ (parseMethodDescriptor y.desc).map (fun d => d.parameters.length) = some n)
def jm_S (own : String) (index : Nat) (y : MethodName) (bytes : ByteArray) (maxL : Nat) (rt : Option FieldType) (n : Nat) : Prop :=
  GoodIn jw_all (va_wsS own index y (jc_ws y bytes maxL rt)) ∧ (y.cls ≠ "java/lang/invoke/MethodHandle" ∧ y.cls ≠ "java/lang/invoke/VarHandle" ∧ (parseMethodDescriptor y.desc).map (fun d => d.parameters.length) = some n)
def jm_I (own : String) (index : Nat) (y : MethodName) (bytes : ByteArray) (maxL : Nat) (n : Nat) : Prop :=
  GoodIn jw_all (jc_ws y bytes maxL none) ∧ Cond.initialized y.cls ∈ jw_all ∧ Cond.methodLink own index y ∈ jw_all ∧ Cond.instanceMethod y ∈ jw_all ∧ y.name = "<init>" ∧ (y.cls ≠ "java/lang/invoke/MethodHandle" ∧ y.cls ≠ "java/lang/invoke/VarHandle" ∧ (parseMethodDescriptor y.desc).map (fun d => d.parameters.length) = some n)
/-- the callee's claims, and the rest -/
theorem jr_split {ks rs : List Nat} {Lc Lr : List sg_A} (hp : (ks ++ rs).Perm (List.range L.length)) (hc : sg_sel L ks = Lc) (hr : sg_sel L rs = Lr) {h : sg_F} (h1 : sg_l L h) : ∃ f g : sg_F, sg_dj f g ∧ h = sg_un f g ∧ sg_l Lc f ∧ sg_l Lr g := by
  have hk : sg_l (Lc ++ Lr) h := sg_pick (L' := Lc ++ Lr) (ks ++ rs) hp (by rw [sg_sel, List.map_append, ← hc, ← hr]; rfl) h h1
  exact (sg_l_app Lc Lr h).mp hk
theorem jr_callV {ci b index n : Nat} {C : String} {y : MethodName} {bytes : ByteArray} {maxL : Nat} {rt : Option FieldType} {rm : Room} {T : u_T} {N : Nat} {fs As rest : List Value} {v : α → Option Value} (ks rs : List Nat) (Lc Lr : List sg_A) (ok : jx_ok X D cc own ret) (hg : jm_V own index C y bytes maxL rt n) (hM : jc_C (jx_l X) D y bytes maxL rt rm (.ref b :: As) Lc E)
    (hp : (ks ++ rs).Perm (List.range L.length)) (hc : sg_sel L ks = Lc) (hr : sg_sel L rs = Lr) (q0 : Nat) (hq : L[q0]? = some (ob D b ci fs)) (hcl : vwCl[ci]? = some (C, T, N)) (hst : st = As.reverse ++ .ref b :: rest) (hn : As.length = n) (hw : (rest.map fun v => v.category).sum ≤ 8) (hR : rm.frames + 1 ≤ (jx_R X).frames ∧ 8 + (maxL + 11) + rm.locals ≤ (jx_R X).locals) (hf : cs + rm.cells ≤ (jx_R X).cells ∧ sl + rm.slots ≤ (jx_R X).slots) (hE : ∀ u, (E u).1 = .returned (v u)) (d : decode cc pc = .ok (.invokevirtual index, 3))
    (kk : ∀ u, (E u).2.1 → jw X (cs + rm.cells) (sl + rm.slots) ((E u).2.2 ++ Lr) lv (pc + 3) ((v u).toList ++ rest)) : jw X cs sl L lv pc st := by
  intro h H locs ls h1 h2 h3 h4 h5
  obtain ⟨f0, g0, d0, e0, ⟨cell, r, hf0, hcr, q2, q3, q4⟩, -⟩ := sg_pull L q0 _ h hq h1
  have hcell : H[b]? = some cell := h2 b cell (by rw [e0, hf0]; exact sg_un_l (sg_1_at b cell))
  obtain ⟨f, g, dj, rfl, hfl, hgl⟩ := jr_split hp hc hr h1
  have hin2 := (sg_in_un dj).mp h2
  have hMet := jc_met hM (fun u => ⟨v u, hE u⟩) f H.size hfl
  subst hst
  refine jr_run ok.2.2.2.2.2.2.2.2 hE (va_runV (As := As) (rest := rest) ⟨ok.1, ok.2.1, ok.2.2.1, ok.2.2.2.1, ok.2.2.2.2.1⟩ hMet (cwV n ok.2.2.2.2.1 hg.1 rfl rfl rfl hg.2 hR) ⟨jc_Pblind, ⟨cell, hcell, by rw [q3]; rfl, by rw [q2]; exact (ok.2.2.2.2.2.2.2.1.1.1 ci _ hcl).2.1⟩, fun U hU hW => ⟨rfl, by rw [hU], by rw [hU]; exact hin2.1, jk_K.moved hW.alike ok.2.2.2.2.2.2.2.1⟩⟩ rfl hn h5.1 rfl (lv_room hw) d hf) dj hgl h2 h3 h4 h5 kk
theorem jr_callS {index n : Nat} {y : MethodName} {bytes : ByteArray} {maxL : Nat} {rt : Option FieldType} {rm : Room} {As rest : List Value} {v : α → Option Value} (ks rs : List Nat) (Lc Lr : List sg_A) (ok : jx_ok X D cc own ret) (hg : jm_S own index y bytes maxL rt n) (hM : jc_C (jx_l X) D y bytes maxL rt rm As Lc E)
    (hp : (ks ++ rs).Perm (List.range L.length)) (hc : sg_sel L ks = Lc) (hr : sg_sel L rs = Lr) (hst : st = As.reverse ++ rest) (hn : As.length = n) (hw : (rest.map fun v => v.category).sum ≤ 8) (hR : rm.frames + 1 ≤ (jx_R X).frames ∧ 8 + (maxL + 11) + rm.locals ≤ (jx_R X).locals) (hf : cs + rm.cells ≤ (jx_R X).cells ∧ sl + rm.slots ≤ (jx_R X).slots) (hE : ∀ u, (E u).1 = .returned (v u)) (d : decode cc pc = .ok (.invokestatic index, 3))
    (kk : ∀ u, (E u).2.1 → jw X (cs + rm.cells) (sl + rm.slots) ((E u).2.2 ++ Lr) lv (pc + 3) ((v u).toList ++ rest)) : jw X cs sl L lv pc st := by
  intro h H locs ls h1 h2 h3 h4 h5
  obtain ⟨f, g, dj, rfl, hfl, hgl⟩ := jr_split hp hc hr h1
  have hin2 := (sg_in_un dj).mp h2
  have hMet := jc_met hM (fun u => ⟨v u, hE u⟩) f H.size hfl
  subst hst
  refine jr_run ok.2.2.2.2.2.2.2.2 hE (va_runS (As := As) (rest := rest) ⟨ok.1, ok.2.1, ok.2.2.1, ok.2.2.2.1, ok.2.2.2.2.1⟩ hMet (va_cwS n ok.2.2.2.2.1 hg.1 rfl rfl rfl hg.2 hR) ⟨jc_Pblind, fun U hU hW => ⟨rfl, by rw [hU], by rw [hU]; exact hin2.1, jk_K.moved hW.alike ok.2.2.2.2.2.2.2.1⟩⟩ rfl hn h5.1 rfl (lv_room hw) d hf) dj hgl h2 h3 h4 h5 kk
theorem jr_callI {b index n : Nat} {y : MethodName} {bytes : ByteArray} {maxL : Nat} {rm : Room} {As rest : List Value} {v : α → Option Value} (ks rs : List Nat) (Lc Lr : List sg_A) (ok : jx_ok X D cc own ret) (hg : jm_I own index y bytes maxL n) (hM : jc_C (jx_l X) D y bytes maxL none rm (.ref b :: As) Lc E)
    (hp : (ks ++ rs).Perm (List.range L.length)) (hc : sg_sel L ks = Lc) (hr : sg_sel L rs = Lr) (hst : st = As.reverse ++ .ref b :: rest) (hn : As.length = n) (hw : (rest.map fun v => v.category).sum ≤ 8) (hR : rm.frames + 1 ≤ (jx_R X).frames ∧ 8 + (maxL + 11) + rm.locals ≤ (jx_R X).locals) (hf : cs + rm.cells ≤ (jx_R X).cells ∧ sl + rm.slots ≤ (jx_R X).slots) (hE : ∀ u, (E u).1 = .returned (v u)) (d : decode cc pc = .ok (.invokespecial index, 3))
    (kk : ∀ u, (E u).2.1 → jw X (cs + rm.cells) (sl + rm.slots) ((E u).2.2 ++ Lr) lv (pc + 3) ((v u).toList ++ rest)) : jw X cs sl L lv pc st := by
  intro h H locs ls h1 h2 h3 h4 h5
  obtain ⟨f, g, dj, rfl, hfl, hgl⟩ := jr_split hp hc hr h1
  have hin2 := (sg_in_un dj).mp h2
  have hMet := jc_met hM (fun u => ⟨v u, hE u⟩) f H.size hfl
  subst hst
  refine jr_run ok.2.2.2.2.2.2.2.2 hE (va_runI (As := As) (rest := rest) ⟨ok.1, ok.2.1, ok.2.2.1, ok.2.2.2.1, ok.2.2.2.2.1⟩ hMet (cwI n ok.2.2.2.2.1 hg.1 rfl rfl rfl (ok.2.2.2.2.1 _ hg.2.1) (ok.2.2.2.2.1 _ hg.2.2.1) (ok.2.2.2.2.1 _ hg.2.2.2.1) hg.2.2.2.2.1 hg.2.2.2.2.2 hR) ⟨jc_Pblind, fun U hU hW => ⟨rfl, by rw [hU], by rw [hU]; exact hin2.1, jk_K.moved hW.alike ok.2.2.2.2.2.2.2.1⟩⟩ rfl hn h5.1 rfl (lv_room hw) d hf) dj hgl h2 h3 h4 h5 kk
theorem jr_objInit {b index : Nat} (ok : jx_ok X D cc own ret) (hl : Cond.methodLink own index objectInit ∈ jw_all) (hi : Cond.instanceMethod objectInit ∈ jw_all) (hc : Cond.code objectInit ⟨#[0xb1]⟩ 1 none ∈ jw_all) (d : decode cc pc = .ok (.invokespecial index, 3)) (hw : (st.map fun v => v.category).sum ≤ 8) (hf : 1 ≤ (jx_R X).frames) (hlo : 20 ≤ (jx_R X).locals)
    (kk : jw X cs sl L lv (pc + 3) st) : jw X cs sl L lv pc (.ref b :: st) := by
  intro h H locs ls h1 h2 h3 h4 h5
  exact W.objInit ok.1 ok.2.1 ok.2.2.2.1 (ok.2.2.2.2.1 _ hl) (ok.2.2.2.2.1 _ hi) (ok.2.2.2.2.1 _ hc) rfl (h5.1.trans ok.2.2.1.symm) rfl d hf (by have := lv_room (m := jx_m X) (pc := pc) (ls := ls) (rest := .ref b :: st) hw; omega) (kk h H locs ls h1 h2 h3 h4 h5)
end JE
