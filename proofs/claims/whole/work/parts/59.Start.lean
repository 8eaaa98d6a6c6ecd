/-! ===== the start ===== -/
def W0 : WS := ((((((0, 0), (0, 0)), (((fun _ => 0), (ll 0)), 0)), (((0, 0), (0, 0)), ((0, 0), (fun _ => 0)))), (((((fun _ => 0), (fun _ => 0)), ((fun _ => 0), 0)), (((fun _ => 0), 0), 0)), (((0, 0), 0), ((0, 0), (ll 0))))), (((((0, 0), ((fun _ => 0), (fun _ => 0))), (((fun _ => 0), (fun _ => 0)), 0)), ((((ll 0), (ll 0)), 0), (((fun k => k.toNat), (fun _ => 0)), (fun _ _ => 0)))), (((((fun _ _ => 0), (fun _ _ => 0)), ((fun _ _ => 0), (fun _ _ => 0))), (((fun _ _ => 0), (fun _ => 0)), (fun _ => 0))), ((((fun _ => 0), (fun _ _ => 0)), (fun _ _ => 0)), (((fun _ => 0), (fun _ => 0)), (fun _ => 0))))))
def M0 : MS := ((((((0, (fun _ => 0)), (0, 0)), ((0, (fun _ => 0)), (fun _ => 0))), (((0, (fun _ => 0)), ((fun _ => 0), (fun _ => 0))), (((fun _ => 0), (fun _ => 0)), 0))), ((((0, (ll 0)), (0, 0)), (((fun _ => 0), 0), 0)), (((0, 0), ((ll 0), (fun _ => 0))), (((fun _ => 0), (fun _ => 0)), (fun _ => 0))))), ((((((fun _ => 0), (fun _ => 0)), ((fun _ => 0), (fun _ => 0))), ((0, 0), (ll 0))), ((((ll 0), 0), (0, (fun _ => 0))), (((fun _ => 0), (fun _ => 0)), (fun _ => 0)))), (((((fun _ => 0), (fun _ => 0)), ((fun _ => 0), 0)), ((0, 0), 0)), (((0, 0), (0, (fun _ => 0))), (((fun _ => 0), (fun _ => 0)), (fun _ => 0))))))
def C0w : CW := ((((512, 256), 0), ((fun _ => 0, fun _ => 0), fun _ => 0)), (((fun _ => 0, fun _ => 0), fun _ => 0), ((0, 600915), 6346637)))

theorem jz_of {args : Array Value} {s : State} {C n d : String} {A : Nat → Prop} (hl : (Cond.laysStatic C n d).before args s = true) (h : (Cond.isRef (.static C n d)).before args s = true) (hA : ∀ a : Nat, a < s.heap.size → ¬ A a) : jz C n d A s s.heap := by
  obtain ⟨c, k, i, f, a, cell, hc, hi, hst, ha, hcell, hs, hcls, hlt, hty⟩ := Cond.laysStatic_spec hl
  cases hv : (Term.static C n d).eval args s none [] s with
  | none => simp [Cond.before, Cond.holds, Cond.value, hv] at h
  | some w =>
    obtain ⟨hst', a', cell', ha', hcell', -, hslot⟩ := Term.static_spec hi hv
    cases ha.symm.trans ha'
    cases hcell.symm.trans hcell'
    refine ⟨c, k, i, f, a, cell, w, hc, hi, hst, ha, hty, hcell, hs, hcls, hlt, hslot, ?_, hA a (Array.getElem?_eq_some_iff.mp hcell).1⟩
    simp only [Cond.before, Cond.holds, Cond.value, hv] at h
    cases w with
    | null => exact Or.inl rfl
    | ref t => exact Or.inr ⟨t, rfl⟩
    | _ => simp at h
theorem cls_all {s : State} {args : Array Value} (hts : ∀ w ∈ jw_all, w.before args s = true) : ∀ q ∈ vwCl, ∃ (cC : ClassId) (iS : Nat → Nat), u_Kn s q.1 q.2.1 q.2.2 cC iS := by
  refine List.forall_mem_cons.mpr ⟨u_known hts k_WT.2.1 (hts _ w_29), List.forall_mem_cons.mpr ⟨u_known hts k_Ev.2.1 (hts _ w_207), List.forall_mem_cons.mpr ⟨u_known hts k_Gd.2.1 (hts _ w_214), List.forall_mem_cons.mpr ⟨u_known hts k_Gr.2.1 (hts _ w_173), List.forall_mem_cons.mpr ⟨u_known hts k_LR.2.1 (hts _ w_78), List.forall_mem_cons.mpr ⟨u_known hts k_Lx.2.1 (hts _ w_129), List.forall_mem_cons.mpr ⟨u_known hts k_Pt.2.1 (hts _ w_526), List.forall_mem_cons.mpr ⟨u_known hts k_Pg.2.1 (hts _ w_110), List.forall_mem_cons.mpr ⟨u_known hts k_QR.2.1 (hts _ w_123), List.forall_mem_cons.mpr ⟨u_known hts k_Se.2.1 (hts _ w_519), List.forall_mem_cons.mpr ⟨u_known hts k_St.2.1 (hts _ w_51), List.forall_mem_cons.mpr ⟨u_known hts k_Tp.2.1 (hts _ w_37), List.forall_mem_cons.mpr ⟨u_known hts k_Mo.2.1 (hts _ w_1345), List.forall_mem_cons.mpr ⟨?_, List.forall_mem_cons.mpr ⟨?_, List.forall_mem_cons.mpr ⟨?_, fun _ h => absurd h List.not_mem_nil⟩⟩⟩⟩⟩⟩⟩⟩⟩⟩⟩⟩⟩⟩⟩⟩
  · exact u_known hts (fun w hw => absurd hw List.not_mem_nil) (hts _ w_416)
  · exact u_known hts (fun w hw => absurd hw List.not_mem_nil) (hts _ w_586)
  · exact u_known hts (fun w hw => absurd hw List.not_mem_nil) (hts _ w_321)
def jk_ty : List FieldType := [.int, .byte, .long, .boolean, .object "WindowTables$Series", .object "WindowTables$Grid"]
theorem arr_all {s : State} {args : Array Value} (hts : ∀ w ∈ jw_all, w.before args s = true) (h4 : va_AO "WindowTables$Series" s) (h5 : va_AO "WindowTables$Grid" s) : ∀ ty ∈ jk_ty, ∃ cA : ClassId, ArrOfT s cA ty ∧ va_RA s cA ty := by
  have prim : ∀ ty : FieldType, Cond.arrayClass ty ∈ jw_all → (∀ cA, s.vm.findClass ("[" ++ ty.toString) = some cA → va_RA s cA ty) → ∃ cA : ClassId, ArrOfT s cA ty ∧ va_RA s cA ty := fun ty h k => by
    obtain ⟨c, kA, comp, h1, h2, h3⟩ := Cond.arrayClass_spec (hts _ h)
    exact ⟨c, fun n z => ⟨fun k h => (by cases h), kA, h2, comp, h3⟩, k c h1⟩
  have obj : ∀ C : String, va_AO C s → ∃ cA : ClassId, ArrOfT s cA (.object C) ∧ va_RA s cA (.object C) := fun C h => by
    obtain ⟨comp, c, kA, h1, -, h2, h3, h4⟩ := Cond.arrayOver_spec h
    exact ⟨c, fun n z => ⟨fun k h => (by cases h), kA, h2, comp, h3⟩, kA, comp, h2, h3, h1, h4⟩
  exact List.forall_mem_cons.mpr ⟨prim .int w_108 (fun _ z => z), List.forall_mem_cons.mpr ⟨prim .byte w_49 (fun _ z => z), List.forall_mem_cons.mpr ⟨prim .long w_235 (fun _ z => z), List.forall_mem_cons.mpr ⟨prim .boolean w_236 (fun _ z => z), List.forall_mem_cons.mpr ⟨obj _ h4, List.forall_mem_cons.mpr ⟨obj _ h5, fun _ h => absurd h List.not_mem_nil⟩⟩⟩⟩⟩⟩
theorem jk_start {s : State} {args : Array Value} (hts : ∀ w ∈ jw_all, w.before args s = true) (h4 : va_AO "WindowTables$Series" s) (h5 : va_AO "WindowTables$Grid" s) (adK adV : Nat → Nat) (ex : Nat → ClassId) : ∃ D : jd_T, jk_K D s ∧ (∀ k, D.1.1 (200 + k) = ex k) ∧ D.1.2 100 = adK ∧ D.1.2 101 = adV := by
  have hc : ∀ c : Nat, ∃ p : ClassId × (Nat → Nat), ∀ q, vwCl[c]? = some q → u_Kn s q.1 q.2.1 q.2.2 p.1 p.2 := fun c => by
    cases hq : vwCl[c]? with
    | none => exact ⟨(0, fun _ => 0), fun q z => by cases z⟩
    | some q =>
      obtain ⟨cC, iS, h⟩ := cls_all hts q (List.mem_of_getElem? hq)
      exact ⟨(cC, iS), fun q' z => by cases z; exact h⟩
  have ha : ∀ t : Nat, ∃ cA : ClassId, ∀ ty, jk_ty[t]? = some ty → ArrOfT s cA ty ∧ va_RA s cA ty := fun t => by
    cases hq : jk_ty[t]? with
    | none => exact ⟨0, fun q z => by cases z⟩
    | some ty =>
      obtain ⟨cA, h⟩ := arr_all hts h4 h5 ty (List.mem_of_getElem? hq)
      exact ⟨cA, fun q' z => by cases z; exact h⟩
  obtain ⟨pf, hpf⟩ := Classical.axiomOfChoice hc
  obtain ⟨af, haf⟩ := Classical.axiomOfChoice ha
  refine ⟨((fun c => if c < 200 then (pf c).1 else ex (c - 200), fun c => if c = 100 then adK else if c = 101 then adV else (pf c).2), af), ⟨⟨fun c q hq => ?_, fun k q hk => ?_⟩, h4, h5⟩, fun k => ?_, ?_, ?_⟩
  · have hlt : c < 16 := (List.getElem?_eq_some_iff.mp hq).1
    show u_Kn s q.1 q.2.1 q.2.2 (if c < 200 then (pf c).1 else ex (c - 200)) (if c = 100 then adK else if c = 101 then adV else (pf c).2)
    rw [if_pos (by omega), if_neg (by omega), if_neg (by omega)]
    exact hpf c q hq
  · have hlt : k < 6 := (List.getElem?_eq_some_iff.mp hk).1
    have key : ∀ j : Nat, j < 6 → ∀ q, (jk_tys af)[j]? = some q → ∃ ty, jk_ty[j]? = some ty ∧ q = (af j, ty) := by
      intro j hj q hq
      match j, hj with
      | 0, _ => exact ⟨_, rfl, (Option.some.inj hq).symm⟩
      | 1, _ => exact ⟨_, rfl, (Option.some.inj hq).symm⟩
      | 2, _ => exact ⟨_, rfl, (Option.some.inj hq).symm⟩
      | 3, _ => exact ⟨_, rfl, (Option.some.inj hq).symm⟩
      | 4, _ => exact ⟨_, rfl, (Option.some.inj hq).symm⟩
      | 5, _ => exact ⟨_, rfl, (Option.some.inj hq).symm⟩
    obtain ⟨ty, h1, h2⟩ := key k hlt q hk
    subst h2
    exact haf k ty h1
  · show (if 200 + k < 200 then (pf (200 + k)).1 else ex (200 + k - 200)) = ex k
    rw [if_neg (by omega), show 200 + k - 200 = k by omega]
  · show (if 100 = 100 then adK else if 100 = 101 then adV else (pf 100).2) = adK
    rw [if_pos rfl]
  · show (if 101 = 100 then adK else if 101 = 101 then adV else (pf 101).2) = adV
    rw [if_neg (by decide), if_pos rfl]

def lwF : List Cond := flatC (Jvm.Cond.and given_1 narrow_1)
def tmS (i : Nat) : Term := .string "WindowTables$QuestionReader" (jS_ix.getD i 0)
theorem lt_in {w : Cond} (h : w ∈ tables_1) : w ∈ lw_tbl := List.mem_append_right _ h
theorem sf_ex : ∀ i : Nat, i < 8 → Cond.exactly (tmS i) "java/lang/String" ∈ lwF := by decide +kernel
theorem sf_co : ∀ i : Nat, i < 8 → Cond.eq (.field (tmS i) "java/lang/String" "coder" "B") (.int 0) ∈ lwF := by decide +kernel
theorem sf_ar : ∀ i : Nat, i < 8 → Cond.arrayOf (.field (tmS i) "java/lang/String" "value" "[B") .byte ∈ lwF := by decide +kernel
theorem sf_le : ∀ i : Nat, i < 8 → Cond.eq (.length (.field (tmS i) "java/lang/String" "value" "[B")) (.int (Int32.ofNat (jS_len.getD i 0))) ∈ lwF := by decide +kernel
theorem sf_el0 : ∀ j : Nat, j < 3 → Cond.eq (.elem (.field (tmS 0) "java/lang/String" "value" "[B") (.int (Int32.ofNat j))) (.int ((jS_byt.getD 0 []).getD j 0)) ∈ lwF := by decide +kernel
theorem sf_el1 : ∀ j : Nat, j < 5 → Cond.eq (.elem (.field (tmS 1) "java/lang/String" "value" "[B") (.int (Int32.ofNat j))) (.int ((jS_byt.getD 1 []).getD j 0)) ∈ lwF := by decide +kernel
theorem sf_el2 : ∀ j : Nat, j < 5 → Cond.eq (.elem (.field (tmS 2) "java/lang/String" "value" "[B") (.int (Int32.ofNat j))) (.int ((jS_byt.getD 2 []).getD j 0)) ∈ lwF := by decide +kernel
theorem sf_el3 : ∀ j : Nat, j < 4 → Cond.eq (.elem (.field (tmS 3) "java/lang/String" "value" "[B") (.int (Int32.ofNat j))) (.int ((jS_byt.getD 3 []).getD j 0)) ∈ lwF := by decide +kernel
theorem sf_el4 : ∀ j : Nat, j < 5 → Cond.eq (.elem (.field (tmS 4) "java/lang/String" "value" "[B") (.int (Int32.ofNat j))) (.int ((jS_byt.getD 4 []).getD j 0)) ∈ lwF := by decide +kernel
theorem sf_el5 : ∀ j : Nat, j < 6 → Cond.eq (.elem (.field (tmS 5) "java/lang/String" "value" "[B") (.int (Int32.ofNat j))) (.int ((jS_byt.getD 5 []).getD j 0)) ∈ lwF := by decide +kernel
theorem sf_el6 : ∀ j : Nat, j < 6 → Cond.eq (.elem (.field (tmS 6) "java/lang/String" "value" "[B") (.int (Int32.ofNat j))) (.int ((jS_byt.getD 6 []).getD j 0)) ∈ lwF := by decide +kernel
theorem sf_el7 : ∀ j : Nat, j < 2 → Cond.eq (.elem (.field (tmS 7) "java/lang/String" "value" "[B") (.int (Int32.ofNat j))) (.int ((jS_byt.getD 7 []).getD j 0)) ∈ lwF := by decide +kernel
theorem sf_el : ∀ i : Nat, i < 8 → ∀ j : Nat, j < jS_len.getD i 0 → Cond.eq (.elem (.field (tmS i) "java/lang/String" "value" "[B") (.int (Int32.ofNat j))) (.int ((jS_byt.getD i []).getD j 0)) ∈ lwF := by
  intro i hi
  match i, hi with
  | 0, _ => exact sf_el0
  | 1, _ => exact sf_el1
  | 2, _ => exact sf_el2
  | 3, _ => exact sf_el3
  | 4, _ => exact sf_el4
  | 5, _ => exact sf_el5
  | 6, _ => exact sf_el6
  | 7, _ => exact sf_el7
theorem sf_ne0 : ∀ j : Nat, j < 8 → 0 < j → Cond.not (Cond.eq (tmS 0) (tmS j)) ∈ lwF := by decide +kernel
theorem sf_ne1 : ∀ j : Nat, j < 8 → 1 < j → Cond.not (Cond.eq (tmS 1) (tmS j)) ∈ lwF := by decide +kernel
theorem sf_ne2 : ∀ j : Nat, j < 8 → 2 < j → Cond.not (Cond.eq (tmS 2) (tmS j)) ∈ lwF := by decide +kernel
theorem sf_ne3 : ∀ j : Nat, j < 8 → 3 < j → Cond.not (Cond.eq (tmS 3) (tmS j)) ∈ lwF := by decide +kernel
theorem sf_ne4 : ∀ j : Nat, j < 8 → 4 < j → Cond.not (Cond.eq (tmS 4) (tmS j)) ∈ lwF := by decide +kernel
theorem sf_ne5 : ∀ j : Nat, j < 8 → 5 < j → Cond.not (Cond.eq (tmS 5) (tmS j)) ∈ lwF := by decide +kernel
theorem sf_ne6 : ∀ j : Nat, j < 8 → 6 < j → Cond.not (Cond.eq (tmS 6) (tmS j)) ∈ lwF := by decide +kernel
theorem sf_ne9 : ∀ i : Nat, i < 8 → ∀ j : Nat, j < 8 → i < j → Cond.not (Cond.eq (tmS i) (tmS j)) ∈ lwF := by
  intro i hi
  match i, hi with
  | 0, _ => exact sf_ne0
  | 1, _ => exact sf_ne1
  | 2, _ => exact sf_ne2
  | 3, _ => exact sf_ne3
  | 4, _ => exact sf_ne4
  | 5, _ => exact sf_ne5
  | 6, _ => exact sf_ne6
  | 7, _ => intro j hj hk; omega
theorem sf_ne : ∀ i : Nat, i < 8 → ∀ j : Nat, j < 8 → i ≠ j → Cond.not (Cond.eq (tmS i) (tmS j)) ∈ lwF ∨ Cond.not (Cond.eq (tmS j) (tmS i)) ∈ lwF := by
  intro i hi j hj hk
  rcases Nat.lt_or_gt_of_ne hk with z | z
  · exact Or.inl (sf_ne9 i hi j hj z)
  · exact Or.inr (sf_ne9 j hj i hi z)
theorem sf_no : ∀ i : Nat, i < 3 → ∀ j : Nat, j < 3 → i ≠ j → Cond.not (.castable (jEx.getD i "") (jEx.getD j "")) ∈ lwF := by decide +kernel
theorem sf_M : ∀ m ∈ jM, Cond.exactly (.string "WindowTables" m.1) "java/lang/String" ∈ lwF := by decide +kernel
theorem sf_st : ∀ w ∈ [Cond.isRef (.static "java/lang/Throwable" "UNASSIGNED_STACK" "[Ljava/lang/StackTraceElement;"), Cond.isRef (.static "java/lang/Throwable" "SUPPRESSED_SENTINEL" "Ljava/util/List;"), Cond.isRef (.static "jdk/internal/util/Preconditions" "SIOOBE_FORMATTER" "Ljava/util/function/BiFunction;"), Cond.eq (.static "java/lang/String" "COMPACT_STRINGS" "Z") (.int 1)], w ∈ lwF := by decide +kernel
theorem st_tb : ∀ w ∈ [Cond.laysStatic "java/lang/Throwable" "UNASSIGNED_STACK" "[Ljava/lang/StackTraceElement;", .laysStatic "java/lang/Throwable" "SUPPRESSED_SENTINEL" "Ljava/util/List;", .laysStatic "java/lang/String" "COMPACT_STRINGS" "Z", .laysStatic "jdk/internal/util/Preconditions" "SIOOBE_FORMATTER" "Ljava/util/function/BiFunction;", .initialized "java/lang/Throwable", .initialized "java/lang/String", .initialized "jdk/internal/util/Preconditions", .arrayOver (.object "WindowTables$Series"), .arrayOver (.object "WindowTables$Grid")], w ∈ tables_1 := by decide +kernel
theorem st_tw : ∀ w ∈ jTw, w ∈ tables_1 := by decide +kernel
theorem st_sr : ∀ i : Nat, i < 8 → Cond.stringRef "WindowTables$QuestionReader" (jS_ix.getD i 0) (jS_tx.getD i "") ∈ tables_1 := by decide +kernel
theorem st_sm : ∀ m ∈ jM, Cond.stringRef "WindowTables" m.1 m.2 ∈ tables_1 := by decide +kernel

theorem law_facts {s : State} {args : Array Value} (hts : ∀ w ∈ lw_tbl, w.before args s = true) (hgv : (Jvm.Cond.and given_1 narrow_1).before args s = true) : ∃ D : jd_T, jk_K D s ∧ jI D (fun q => s.heap.size ≤ q) s s.heap ∧ jT D (fun q => s.heap.size ≤ q) s s.heap ∧ jN D s := by
  have hf : ∀ c ∈ lwF, c.before args s = true := flat_of_before _ hgv
  have ht : ∀ w ∈ tables_1, w.before args s = true := fun w h => hts w (lt_in h)
  have hg : ∀ w ∈ jw_all, w.before args s = true := fun w h => hts w (List.mem_filter.mp h).1
  have hA : ∀ a : Nat, a < s.heap.size → ¬ (fun q => s.heap.size ≤ q) a := fun a h z => absurd z (Nat.not_le.mpr h)
  have tb : ∀ w ∈ [Cond.laysStatic "java/lang/Throwable" "UNASSIGNED_STACK" "[Ljava/lang/StackTraceElement;", .laysStatic "java/lang/Throwable" "SUPPRESSED_SENTINEL" "Ljava/util/List;", .laysStatic "java/lang/String" "COMPACT_STRINGS" "Z", .laysStatic "jdk/internal/util/Preconditions" "SIOOBE_FORMATTER" "Ljava/util/function/BiFunction;", .initialized "java/lang/Throwable", .initialized "java/lang/String", .initialized "jdk/internal/util/Preconditions", .arrayOver (.object "WindowTables$Series"), .arrayOver (.object "WindowTables$Grid")], w.before args s = true := fun w h => ht w (st_tb w h)
  have sf := fun w h => hf w (sf_st w h)
  obtain ⟨adK, adV, hS, hev⟩ := vk_Sof (args := args) (s := s) (N := 8) (tm := tmS) (len := jS_len) (byt := jS_byt) (A := fun q => s.heap.size ≤ q) (by decide +kernel) (fun i hi => hf _ (sf_ex i hi)) (fun i hi => hf _ (sf_co i hi)) (fun i hi => hf _ (sf_ar i hi)) (fun i hi => hf _ (sf_le i hi)) (fun i hi j hj => hf _ (sf_el i hi j hj)) (fun i j hi hj hk => by
    rcases sf_ne i hi j hj hk with z | z
    · exact Or.inl (hf _ z)
    · exact Or.inr (hf _ z)) hA
  have hex : ∀ k : Nat, ∃ c : ClassId, k < 3 → s.vm.findClass (jEx.getD k "") = some c := fun k => by
    by_cases hk : k < 3
    · have : ∀ j : Nat, j < 3 → Cond.castable (jEx.getD j "") (jEx.getD j "") ∈ jTw := by decide +kernel
      obtain ⟨c, t, h1, -, -⟩ := Cond.castable_spec (ht _ (st_tw _ (this k hk)))
      exact ⟨c, fun _ => h1⟩
    · exact ⟨0, fun h => absurd h hk⟩
  obtain ⟨ex, hexf⟩ := Classical.axiomOfChoice hex
  obtain ⟨D, hK, hD1, hD2, hD3⟩ := jk_start hg (va_AO.of (tb (.arrayOver (.object "WindowTables$Series")) (by simp))) (va_AO.of (tb (.arrayOver (.object "WindowTables$Grid")) (by simp))) adK adV ex
  refine ⟨D, hK, ⟨?_, ?_, ?_, ?_, ?_, ?_⟩, ⟨?_, ?_, ?_, ?_, ?_⟩, ?_⟩
  · exact va_Zqof (tb (.laysStatic "java/lang/Throwable" "UNASSIGNED_STACK" "[Ljava/lang/StackTraceElement;") (by simp)) (tb (.initialized "java/lang/Throwable") (by simp)) (sf (.isRef (.static "java/lang/Throwable" "UNASSIGNED_STACK" "[Ljava/lang/StackTraceElement;")) (by simp)) hA
  · exact va_Zqof (tb (.laysStatic "java/lang/Throwable" "SUPPRESSED_SENTINEL" "Ljava/util/List;") (by simp)) (tb (.initialized "java/lang/Throwable") (by simp)) (sf (.isRef (.static "java/lang/Throwable" "SUPPRESSED_SENTINEL" "Ljava/util/List;")) (by simp)) hA
  · exact va_Zof (tb (.laysStatic "java/lang/String" "COMPACT_STRINGS" "Z") (by simp)) (tb (.initialized "java/lang/String") (by simp)) (va_eqi (sf (.eq (.static "java/lang/String" "COMPACT_STRINGS" "Z") (.int 1)) (by simp))) hA
  · rw [hD2, hD3]; exact hS
  · intro i hi
    rw [hD2]
    exact vk_R.of (A := args) (ht _ (st_sr i hi)) (hev i hi)
  · exact va_Zqof (tb (.laysStatic "jdk/internal/util/Preconditions" "SIOOBE_FORMATTER" "Ljava/util/function/BiFunction;") (by simp)) (tb (.initialized "jdk/internal/util/Preconditions") (by simp)) (sf (.isRef (.static "jdk/internal/util/Preconditions" "SIOOBE_FORMATTER" "Ljava/util/function/BiFunction;")) (by simp)) hA
  · intro w hw
    exact Cond.tabsN_warm (T := s) (State.WarmedH.refl s) w (jTw_tabs w hw) (ht w (st_tw w hw))
  · exact jz_of (tb (.laysStatic "java/lang/Throwable" "UNASSIGNED_STACK" "[Ljava/lang/StackTraceElement;") (by simp)) (sf (.isRef (.static "java/lang/Throwable" "UNASSIGNED_STACK" "[Ljava/lang/StackTraceElement;")) (by simp)) hA
  · exact jz_of (tb (.laysStatic "java/lang/Throwable" "SUPPRESSED_SENTINEL" "Ljava/util/List;") (by simp)) (sf (.isRef (.static "java/lang/Throwable" "SUPPRESSED_SENTINEL" "Ljava/util/List;")) (by simp)) hA
  · intro m hm
    obtain ⟨a, c, cA, kA, q1, -⟩ := Cond.exactly_spec (args := args) (first := s) (o := none) (s := s) (idx := []) (t := .string "WindowTables" m.1) (cls := "java/lang/String") (hf _ (sf_M m hm))
    exact ⟨a, vk_R.of (A := args) (ht _ (st_sm m hm)) q1⟩
  · intro k hk
    rw [hD1]
    exact hexf k hk
  · intro i j hi hj
    rw [hD1, hD1]
    by_cases hij : i = j
    · subst hij
      rw [decide_eq_true rfl]
      have : ∀ j : Nat, j < 3 → Cond.castable (jEx.getD j "") (jEx.getD j "") ∈ jTw := by decide +kernel
      obtain ⟨c, t, h1, h2, h3⟩ := Cond.castable_spec (ht _ (st_tw _ (this i hi)))
      cases (hexf i hi).symm.trans h1
      cases (hexf i hi).symm.trans h2
      exact h3
    · rw [decide_eq_false hij]
      have hv := Cond.holds_not_iff.mp (hf _ (sf_no i hi j hj hij))
      simp only [Cond.value, hexf i hi, hexf j hj] at hv
      exact Option.some.inj hv
def gW (q : Nat) (u : (Nat → Nat) × (Nat → Nat)) (i : Nat) : Nat := if i < 19 then [q, u.1 0, u.1 2, u.1 3, u.1 4, u.1 5, u.1 6, u.1 7, u.1 8, u.1 9, u.1 11, u.1 12, u.1 13, u.1 14, u.1 15, u.1 16, u.1 17, u.1 18, u.2 0].getD i 0 else uS u.2 (3 * (i - 19))
theorem gW_hi (q : Nat) (u : (Nat → Nat) × (Nat → Nat)) (j : Nat) : gW q u (19 + j) = uS u.2 (3 * j) := by
  unfold gW; rw [if_neg (by omega), show 19 + j - 19 = j by omega]
def gM (q : Nat) (u : Nat → Nat) : Nat → Nat
  | 0 => q
  | i + 1 => u i
theorem aq_ext (D : jd_T) (t a : Nat) (n : Int) (f f' : Int → Value) (h : ∀ j : Nat, (j : Int) < n → f j = f' j) : aq D t a n f = aq D t a n f' := by
  funext x
  unfold aq
  have e : (0 ≤ n) → arrV (D.2 t) n.toNat (fun j => f (j : Int)) = arrV (D.2 t) n.toNat (fun j => f' (j : Int)) := fun h0 => by
    unfold arrV
    congr 2
    funext j
    exact h j.val (by have := j.isLt; omega)
  apply propext
  constructor
  · rintro ⟨h0, h1, h2⟩
    exact ⟨h0, h1, by rw [h2, e h0]⟩
  · rintro ⟨h0, h1, h2⟩
    exact ⟨h0, h1, by rw [h2, e h0]⟩

def aW (u : (Nat → Nat) × (Nat → Nat)) : AW := (((u.1 1, u.1 10), u.2 1), ((fun j => uS u.2 (3 * j + 1), fun j => uS u.2 (3 * j + 2)), fun _ _ => 0))
theorem sg_insE (A B : List sg_A) : ∀ h, sg_l (A ++ B) h → sg_l (A ++ (sg_e :: B)) h := by
  intro h hh
  refine (sg_l_app A _ h).mpr (sg_s_mono ((sg_l_app A B h).mp hh) (fun _ z => z) (fun f z => ?_))
  exact ⟨sg_0, f, (sg_dj_0 f).symm, by rw [sg_un_comm (sg_dj_0 f).symm, sg_un_0], rfl, z⟩
theorem wt_grd (D : jd_T) (q : Nat) (u : (Nat → Nat) × (Nat → Nat)) : sg_big (grdF D (uS u.2)) 19 = sg_big (fun j => sg_l (grdW D (gW q u) (aW u) C0w W0 j)) 19 := by
  refine sg_big_congr 19 (fun j _ => ?_)
  show grdF D (uS u.2) j = sg_l (grdW D (gW q u) (aW u) C0w W0 j)
  unfold grdF grdW
  rw [gW_hi]
  rfl
theorem wt_stk (D : jd_T) (q : Nat) (u : (Nat → Nat) × (Nat → Nat)) : aq D 5 (u.2 0) 19 (stkF (uS u.2) 19) = aq D 5 (u.2 0) 19 (fun k => .ref (gW q u (19 + W0.ev_stack k))) := by
  refine aq_ext D 5 _ 19 _ _ (fun j hj => ?_)
  show stkF (uS u.2) 19 (j : Int) = .ref (gW q u (19 + (j : Int).toNat))
  rw [gW_hi]
  unfold stkF
  rw [if_pos ⟨by omega, hj⟩]
theorem wt_row (D : jd_T) (a : Nat) (A : AW) : aq D 4 a 256 (fun _ => .null) = aq D 4 a 256 (fun k => if 0 ≤ k ∧ k < (C0w.N : Int) then .ref (A.us k.toNat 0) else .null) := by
  refine aq_ext D 4 _ 256 _ _ (fun j _ => ?_)
  show Value.null = if 0 ≤ (j : Int) ∧ (j : Int) < ((0 : Nat) : Int) then .ref (A.us (j : Int).toNat 0) else .null
  rw [if_neg (by omega)]
set_option maxHeartbeats 4000000 in
set_option maxRecDepth 100000 in
theorem wt_ent (D : jd_T) (q : Nat) (u : (Nat → Nat) × (Nat → Nat)) : ∀ h, sg_l [ob D (u.1 18) 1 [.ref (u.1 0), .ref (u.1 2), .ref (u.1 9), .ref (u.1 13), .ref (u.2 0), .int (ii 0), .ref (u.2 1), .long (ll 0), .long (ll 0), .int (ii 0)], aq D 5 (u.2 0) 19 (stkF (uS u.2) 19), al D 2 (u.2 1) 0 (fun _ => 0), sg_big (grdF D (uS u.2)) 19, ob D (u.1 13) 3 [.ref (u.1 0), .ref (u.1 2), .ref (u.1 9), .int (ii 0), .int (ii 0), .ref (u.1 14), .ref (u.1 15), .ref (u.1 16), .ref (u.1 17)], ai D 0 (u.1 14) 1536 (fun _ => 0), ai D 0 (u.1 15) 256 (fun _ => 0), ai D 0 (u.1 16) 256 (fun _ => 0), ai D 0 (u.1 17) 256 (fun _ => 0), ob D (u.1 12) 5 [.ref (u.1 0), .int (ii 0), .int (ii 0), .int (ii 0), .long (ll 0)], ob D (u.1 11) 8 [.ref (u.1 0), .ref (u.1 12), .ref (u.1 9), .int (ii 0), .int (ii 0), .int (ii 0), .int (ii 0)], ob D (u.1 9) 7 [.ref (u.1 10), .int (ii 0)], ai D 0 (u.1 10) 256 (fun _ => 0), ob D (u.1 4) 4 [.ref (u.1 5), .ref (u.1 6), .ref (u.1 7), .int (ii 0), .ref (u.1 8), .int (ii 0), .int (ii 0), .int (ii 0)], ai D 0 (u.1 5) 6 (fun _ => 0), ai D 0 (u.1 6) 6 (fun _ => 0), ai D 0 (u.1 7) 6 (fun _ => 0), ai D 1 (u.1 8) 300 (fun _ => 0), ob D (u.1 2) 10 [.ref (u.1 3), .int (ii 0), .long (ll 0), .int (ii 0), .int (ii 0), .int (ii 0)], aq D 4 (u.1 3) 256 (fun _ => .null), ob D (u.1 0) 11 [.ref (u.1 1), .int (ii 0)], ai D 1 (u.1 1) 512 (fun _ => 0), ob D q 0 [.ref (u.1 0), .ref (u.1 2), .ref (u.1 4), .ref (u.1 9), .ref (u.1 11), .ref (u.1 13), .ref (u.1 18), .int (ii 0), .int (ii 0), .int (ii 0)]] h → sg_l (wtL D (gW q u) (aW u) C0w W0) h := by
  intro h hh
  rw [wt_grd D q u, wt_stk D q u, wt_row D (u.1 3) (aW u)] at hh
  have k1 := sg_pick [22, 20, 21, 18, 19, 13, 14, 15, 16, 17, 11, 12, 10, 9, 4, 5, 6, 7, 8, 0, 1, 2, 3] (pm_of (n := 23) rfl (by decide +kernel)) rfl h hh
  have k2 := sg_insE (sg_sel _ [22, 20, 21, 18, 19]) (sg_sel _ [13, 14, 15, 16, 17, 11, 12, 10, 9, 4, 5, 6, 7, 8, 0, 1, 2, 3]) h k1
  exact k2
set_option maxHeartbeats 4000000 in
set_option maxRecDepth 100000 in
theorem law_start {X : jx_T} {D : jd_T} {b n : Nat} {xs : Nat → Int32} (W : lawW X D b n xs) (loop : ∀ (A : AW) (g gm : Nat → Nat) (o : Nat) (fo : Int → Int64), jw X (601024 - C0w.bc) (7293034 - C0w.bs) ((wtL D g A C0w W0 ++ [al D 2 o 1 fo]) ++ moL D gm M0) [(4, .int (ii (6 * ((0 : Nat) : Int)))), (0, .ref b), (1, .ref (g 0)), (2, .ref (gm 0)), (3, .ref o)] 23 []) : jw X 0 0 [] [(0, .ref b)] 0 [] := by
  obtain ⟨ok, hI, hTT, hNN, hnt, hR, hN, hX, hbl, hbA, hn0⟩ := W
  refine jr_new (fs := [.null, .null, .null, .null, .null, .null, .null, .int (ii 0), .int (ii 0), .int (ii 0)]) ok k_WT w_28 w_29 w_1 (by decide +kernel) (by rw [hR]; exact Nat.le_of_ble_eq_true rfl) (by rw [hR]; exact Nat.le_of_ble_eq_true rfl) d_La_law_0 (fun q => ?_)
  refine jr_dup rfl ok d_La_law_3 ?_
  refine jr_cIx [0] [] (fun u : (Nat → Nat) × (Nat → Nat) => [ob D (u.1 18) 1 [.ref (u.1 0), .ref (u.1 2), .ref (u.1 9), .ref (u.1 13), .ref (u.2 0), .int (ii 0), .ref (u.2 1), .long (ll 0), .long (ll 0), .int (ii 0)], aq D 5 (u.2 0) 19 (stkF (uS u.2) 19), al D 2 (u.2 1) 0 (fun _ => 0), sg_big (grdF D (uS u.2)) 19, ob D (u.1 13) 3 [.ref (u.1 0), .ref (u.1 2), .ref (u.1 9), .int (ii 0), .int (ii 0), .ref (u.1 14), .ref (u.1 15), .ref (u.1 16), .ref (u.1 17)], ai D 0 (u.1 14) 1536 (fun _ => 0), ai D 0 (u.1 15) 256 (fun _ => 0), ai D 0 (u.1 16) 256 (fun _ => 0), ai D 0 (u.1 17) 256 (fun _ => 0), ob D (u.1 12) 5 [.ref (u.1 0), .int (ii 0), .int (ii 0), .int (ii 0), .long (ll 0)], ob D (u.1 11) 8 [.ref (u.1 0), .ref (u.1 12), .ref (u.1 9), .int (ii 0), .int (ii 0), .int (ii 0), .int (ii 0)], ob D (u.1 9) 7 [.ref (u.1 10), .int (ii 0)], ai D 0 (u.1 10) 256 (fun _ => 0), ob D (u.1 4) 4 [.ref (u.1 5), .ref (u.1 6), .ref (u.1 7), .int (ii 0), .ref (u.1 8), .int (ii 0), .int (ii 0), .int (ii 0)], ai D 0 (u.1 5) 6 (fun _ => 0), ai D 0 (u.1 6) 6 (fun _ => 0), ai D 0 (u.1 7) 6 (fun _ => 0), ai D 1 (u.1 8) 300 (fun _ => 0), ob D (u.1 2) 10 [.ref (u.1 3), .int (ii 0), .long (ll 0), .int (ii 0), .int (ii 0), .int (ii 0)], aq D 4 (u.1 3) 256 (fun _ => .null), ob D (u.1 0) 11 [.ref (u.1 1), .int (ii 0)], ai D 1 (u.1 1) 512 (fun _ => 0), ob D q 0 [.ref (u.1 0), .ref (u.1 2), .ref (u.1 4), .ref (u.1 9), .ref (u.1 11), .ref (u.1 13), .ref (u.1 18), .int (ii 0), .int (ii 0), .int (ii 0)]]) 79 3819 ok hR m_La_75 (ci_WT_init (jx_l X) D q) (List.isPerm_iff.mp rfl) rfl rfl (fun _ => rfl) rfl rfl (Nat.le_of_ble_eq_true rfl) ⟨Nat.le_of_ble_eq_true rfl, Nat.le_of_ble_eq_true rfl⟩ rfl rfl ⟨Nat.le_of_ble_eq_true rfl, Nat.le_of_ble_eq_true rfl⟩ d_La_law_4 (fun u _ => ?_)
  refine jr_ent (wt_ent D q u) ?_
  refine jr_astore_n [(1, .ref q), (0, .ref b)] ok d_La_law_7 rfl (by rw [hN]; decide) rfl ?_
  refine jr_new (fs := [.int (ii 0), .null, .int (ii 0), .int (ii 0), .int (ii 0), .null, .null, .int (ii 0), .null, .null, .null, .null, .null, .int (ii 0), .int (ii 0), .long (ll 0), .int (ii 0), .int (ii 0), .null, .int (ii 0), .int (ii 0), .int (ii 0), .int (ii 0), .long (ll 0), .null, .null, .null, .null, .null, .null, .null, .null, .int (ii 0), .int (ii 0), .long (ll 0), .long (ll 0), .int (ii 0), .int (ii 0), .null, .null, .null, .null, .null, .null, .null, .int (ii 0), .int (ii 0), .int (ii 0), .int (ii 0), .int (ii 0), .int (ii 0), .int (ii 0), .null, .null, .null, .null]) ok k_Mo w_1344 w_1345 w_11 (by decide +kernel) (by rw [hR]; exact Nat.le_of_ble_eq_true rfl) (by rw [hR]; exact Nat.le_of_ble_eq_true rfl) d_La_law_8 (fun q2 => ?_)
  refine jr_dup rfl ok d_La_law_11 ?_
  refine jr_swapL ?_
  refine jr_cIx [0, 1, 2, 3, 4, 5, 6, 7, 8, 9, 10, 11, 12, 13, 14, 15, 16, 17, 18, 19, 20, 21, 22, 23, 24] [] (fun u2 : Nat → Nat => moL D (gM q2 u2) M0 ++ wtL D (gW q u) (aW u) C0w W0) 108 946396 ok hR m_La_78 (jc_frame (ci_Mo_init (jx_l X) D q2) (wtL D (gW q u) (aW u) C0w W0)) (pm_of (n := 25) rfl (by decide +kernel)) rfl rfl (fun _ => rfl) rfl rfl (Nat.le_of_ble_eq_true rfl) ⟨Nat.le_of_ble_eq_true rfl, Nat.le_of_ble_eq_true rfl⟩ rfl rfl ⟨Nat.le_of_ble_eq_true rfl, Nat.le_of_ble_eq_true rfl⟩ d_La_law_12 (fun u2 _ => ?_)
  refine jr_swapL ?_
  refine jr_astore_n [(2, .ref q2), (1, .ref q), (0, .ref b)] ok d_La_law_15 rfl (by rw [hN]; decide) rfl ?_
  refine jr_iconst ok d_La_law_16 ?_
  refine jr_newl ok hR w_235 (by decide) (by decide) (Nat.le_of_ble_eq_true rfl) (Nat.le_of_ble_eq_true rfl) d_La_law_17 (fun o => ?_)
  refine jr_ent (sg_swap2 _ _ _) ?_
  refine jr_astore_n [(3, .ref o), (2, .ref q2), (1, .ref q), (0, .ref b)] ok d_La_law_19 rfl (by rw [hN]; decide) rfl ?_
  refine jr_iconst ok d_La_law_20 ?_
  refine jr_istore [(4, .int (ii 0)), (3, .ref o), (2, .ref q2), (1, .ref q), (0, .ref b)] ok d_La_law_21 (by rw [hN]; decide) rfl ?_
  refine jr_lv [0, 4, 3, 2, 1] rfl ?_
  exact jr_widen (Nat.le_of_ble_eq_true rfl) (Nat.le_of_ble_eq_true rfl) (loop (aW u) (gW q u) (gM q2 u2) o (fun _ => 0))
/-- THE PURE GOAL: the program and the reference, call by call -/
def PG : Prop := ∃ I : Nat → CW → WS → MS → Prop, I 0 C0w W0 M0 ∧ (∀ (k : Nat) (c : CW) (S : WS) (M : MS), k < 512 → I k c S M → I (k + 1) c S M) ∧ st_feed I ∧ st_end I ∧ st_series I ∧ st_fault I ∧ st_letter I ∧ st_append I ∧ st_bulk I ∧ st_delete I ∧ st_retain I ∧ st_ask I ∧ st_names I ∧ st_text I ∧ st_isThere I ∧ st_cell I ∧ st_last I ∧ st_pack I ∧ st_count I
