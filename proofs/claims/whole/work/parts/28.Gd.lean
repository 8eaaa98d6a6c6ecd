/-- a cell's place: without names the single line goes with each one -/
def gPl (nm wn line w : Int) : Int := (if nm = 0 then 0 else line * wn) + w
def gHas (B : Int → Int) (cap p : Int) : Int := if 0 ≤ p ∧ p < cap then B p else 0
def gNum (V : Int → Int64) (B : Int → Int) (cap p : Int) : Int64 := if gHas B cap p = 1 then V p else ll 0
theorem gHas_01 {B : Int → Int} (h : ∀ j, B j = 0 ∨ B j = 1) (cap p : Int) : gHas B cap p = 0 ∨ gHas B cap p = 1 := by
  unfold gHas
  split
  · exact h p
  · exact Or.inl rfl

set_option maxHeartbeats 4000000 in
set_option maxRecDepth 100000 in
/-- Grid.placeOf -/
theorem c_Gd_placeOf (l : Launch) (D : jd_T) (a : Nat) (nb : Nat) (tb : Nat) (ln : Int) (wn : Int) (nm : Int) (x : Int) (y : Int) (hy0 : nm = 0 ∨ nm = 1) : jc_C l D y_Gd_placeOf b_Gd_placeOf 3 (some .int) { frames := 0, cells := 0, slots := 0, locals := 0 } [.ref a, .int (ii x), .int (ii y)] [ob D a 2 [.ref nb, .ref tb, .int (ii ln), .int (ii wn), .int (ii nm)]] (fun _ : Unit => (.returned (some (.int (ii (gPl nm wn x y)))), True, [ob D a 2 [.ref nb, .ref tb, .int (ii ln), .int (ii wn), .int (ii nm)]])) := by
  refine jc_of rfl (Nat.le_of_ble_eq_true rfl) ?_
  intro X hl hR hN ok hnm fin
  subst hl
  show jw X 0 0 [ob D a 2 [.ref nb, .ref tb, .int (ii ln), .int (ii wn), .int (ii nm)]] [(0, .ref a), (1, .int (ii x)), (2, .int (ii y))] 0 []
  refine jr_aload_n ok 0 d_Gd_placeOf_0 rfl rfl ?_
  refine jr_get ok 0 f_Gd_26 rfl rfl d_Gd_placeOf_1 ?_
  refine jr_if_eq 16 ok ⟨by omega, by omega⟩ d_Gd_placeOf_4 (by decide) (fun c1 => ?_) (fun c1 => ?_)
  · skip
    refine jr_iconst ok d_Gd_placeOf_16 ?_
    refine jr_iload_n ok 2 d_Gd_placeOf_17 rfl rfl ?_
    refine jr_iadd ok d_Gd_placeOf_18 ?_
    exact jr_iret ok fin (Nat.le_refl _) (Nat.le_refl _) () (congrArg (fun z => Outcome.returned (some (Value.int (ii z)))) (show gPl nm wn x y = 0 + y from (by unfold gPl; rw [if_pos c1]))) trivial sg_same d_Gd_placeOf_19
  · skip
    refine jr_iload_n ok 1 d_Gd_placeOf_7 rfl rfl ?_
    refine jr_aload_n ok 0 d_Gd_placeOf_8 rfl rfl ?_
    refine jr_get ok 0 f_Gd_23 rfl rfl d_Gd_placeOf_9 ?_
    refine jr_imul ok d_Gd_placeOf_12 ?_
    refine jr_goto 17 ok d_Gd_placeOf_13 (by decide) ?_
    refine jr_iload_n ok 2 d_Gd_placeOf_17 rfl rfl ?_
    refine jr_iadd ok d_Gd_placeOf_18 ?_
    exact jr_iret ok fin (Nat.le_refl _) (Nat.le_refl _) () (congrArg (fun z => Outcome.returned (some (Value.int (ii z)))) (show gPl nm wn x y = (x * wn) + y from (by unfold gPl; rw [if_neg c1]))) trivial sg_same d_Gd_placeOf_19

set_option maxHeartbeats 4000000 in
set_option maxRecDepth 100000 in
/-- Grid.has -/
theorem c_Gd_has (l : Launch) (D : jd_T) (a : Nat) (nb : Nat) (tb : Nat) (ln : Int) (wn : Int) (nm : Int) (cap : Int) (V : Int → Int64) (B : Int → Int) (p : Int) (hy0 : cap ≤ 16384) (hy1 : ∀ j, B j = 0 ∨ B j = 1) (hy2 : 0 ≤ cap) (hy3 : iR p) : jc_C l D y_Gd_has b_Gd_has 2 (some .boolean) { frames := 0, cells := 0, slots := 0, locals := 0 } [.ref a, .int (ii p)] [ob D a 2 [.ref nb, .ref tb, .int (ii ln), .int (ii wn), .int (ii nm)], al D 2 nb cap V, ai D 3 tb cap B] (fun _ : Unit => (.returned (some (.int (ii (gHas B cap p)))), True, [ob D a 2 [.ref nb, .ref tb, .int (ii ln), .int (ii wn), .int (ii nm)], al D 2 nb cap V, ai D 3 tb cap B])) := by
  refine jc_of rfl (Nat.le_of_ble_eq_true rfl) ?_
  intro X hl hR hN ok hnm fin
  subst hl
  show jw X 0 0 [ob D a 2 [.ref nb, .ref tb, .int (ii ln), .int (ii wn), .int (ii nm)], al D 2 nb cap V, ai D 3 tb cap B] [(0, .ref a), (1, .int (ii p))] 0 []
  refine jr_iload_n ok 1 d_Gd_has_0 rfl rfl ?_
  refine jr_if_lt 26 ok ⟨by omega, by omega⟩ d_Gd_has_1 (by decide) (fun c1 => ?_) (fun c1 => ?_)
  · skip
    refine jr_iconst ok d_Gd_has_26 ?_
    exact jr_zret ok (by decide +kernel) fin (Nat.le_refl _) (Nat.le_refl _) () (congrArg (fun z => Outcome.returned (some (Value.int (ii z)))) (show gHas B cap p = 0 from (by unfold gHas; have := hy1 p; split <;> omega))) trivial sg_same d_Gd_has_27
  · skip
    refine jr_iload_n ok 1 d_Gd_has_4 rfl rfl ?_
    refine jr_aload_n ok 0 d_Gd_has_5 rfl rfl ?_
    refine jr_get ok 0 f_Gd_15 rfl rfl d_Gd_has_6 ?_
    refine jr_alen_i ok 2 rfl rfl d_Gd_has_9 ?_
    refine jr_icmp_ge 26 ok ⟨by omega, by omega⟩ ⟨by omega, by omega⟩ d_Gd_has_10 (by decide) (fun c2 => ?_) (fun c2 => ?_)
    · skip
      refine jr_iconst ok d_Gd_has_26 ?_
      exact jr_zret ok (by decide +kernel) fin (Nat.le_refl _) (Nat.le_refl _) () (congrArg (fun z => Outcome.returned (some (Value.int (ii z)))) (show gHas B cap p = 0 from (by unfold gHas; have := hy1 p; split <;> omega))) trivial sg_same d_Gd_has_27
    · skip
      refine jr_aload_n ok 0 d_Gd_has_13 rfl rfl ?_
      refine jr_get ok 0 f_Gd_15 rfl rfl d_Gd_has_14 ?_
      refine jr_iload_n ok 1 d_Gd_has_17 rfl rfl ?_
      refine jr_zald ok 2 rfl rfl (by omega) (by omega) d_Gd_has_18 ?_
      refine jr_if_eq 26 ok ⟨by have := hy1 p; omega, by have := hy1 p; omega⟩ d_Gd_has_19 (by decide) (fun c3 => ?_) (fun c3 => ?_)
      · skip
        refine jr_iconst ok d_Gd_has_26 ?_
        exact jr_zret ok (by decide +kernel) fin (Nat.le_refl _) (Nat.le_refl _) () (congrArg (fun z => Outcome.returned (some (Value.int (ii z)))) (show gHas B cap p = 0 from (by unfold gHas; have := hy1 p; split <;> omega))) trivial sg_same d_Gd_has_27
      · skip
        refine jr_iconst ok d_Gd_has_22 ?_
        refine jr_goto 27 ok d_Gd_has_23 (by decide) ?_
        exact jr_zret ok (by decide +kernel) fin (Nat.le_refl _) (Nat.le_refl _) () (congrArg (fun z => Outcome.returned (some (Value.int (ii z)))) (show gHas B cap p = 1 from (by unfold gHas; have := hy1 p; split <;> omega))) trivial sg_same d_Gd_has_27

set_option maxHeartbeats 4000000 in
set_option maxRecDepth 100000 in
/-- Grid.numberAt -/
theorem c_Gd_numberAt (l : Launch) (D : jd_T) (a : Nat) (nb : Nat) (tb : Nat) (ln : Int) (wn : Int) (nm : Int) (cap : Int) (V : Int → Int64) (B : Int → Int) (p : Int) (hy0 : cap ≤ 16384) (hy1 : ∀ j, B j = 0 ∨ B j = 1) (hy2 : 0 ≤ cap) (hy3 : iR p) : jc_C l D y_Gd_numberAt b_Gd_numberAt 2 (some .long) { frames := 1, cells := 0, slots := 0, locals := 21 } [.ref a, .int (ii p)] [ob D a 2 [.ref nb, .ref tb, .int (ii ln), .int (ii wn), .int (ii nm)], al D 2 nb cap V, ai D 3 tb cap B] (fun _ : Unit => (.returned (some (.long (gNum V B cap p))), True, [ob D a 2 [.ref nb, .ref tb, .int (ii ln), .int (ii wn), .int (ii nm)], al D 2 nb cap V, ai D 3 tb cap B])) := by
  refine jc_of rfl (Nat.le_of_ble_eq_true rfl) ?_
  intro X hl hR hN ok hnm fin
  subst hl
  show jw X 0 0 [ob D a 2 [.ref nb, .ref tb, .int (ii ln), .int (ii wn), .int (ii nm)], al D 2 nb cap V, ai D 3 tb cap B] [(0, .ref a), (1, .int (ii p))] 0 []
  refine jr_aload_n ok 0 d_Gd_numberAt_0 rfl rfl ?_
  refine jr_iload_n ok 1 d_Gd_numberAt_1 rfl rfl ?_
  refine jr_cV1 [0, 1, 2] [] [ob D a 2 [.ref nb, .ref tb, .int (ii ln), .int (ii wn), .int (ii nm)], al D 2 nb cap V, ai D 3 tb cap B] 0 0 ok hR m_Gd_39 0 (c_Gd_has (jx_l X) D a nb tb ln wn nm cap V B p (by first | assumption | omega) (by first | assumption | omega) (by first | assumption | omega) ⟨by omega, by omega⟩) (List.isPerm_iff.mp rfl) rfl rfl rfl rfl rfl rfl rfl (Nat.le_of_ble_eq_true rfl) ⟨Nat.le_of_ble_eq_true rfl, Nat.le_of_ble_eq_true rfl⟩ rfl rfl ⟨Nat.le_of_ble_eq_true rfl, Nat.le_of_ble_eq_true rfl⟩ d_Gd_numberAt_2 (fun _ => ?_)
  refine jr_if_eq 26 ok ⟨by have := gHas_01 hy1 cap p; omega, by have := gHas_01 hy1 cap p; omega⟩ d_Gd_numberAt_5 (by decide) (fun c1 => ?_) (fun c1 => ?_)
  · skip
    refine jr_lconst (z := 0) ok d_Gd_numberAt_26 (by decide +kernel) ?_
    exact jr_lret ok fin (Nat.le_refl _) (Nat.le_refl _) () (congrArg (fun z => Outcome.returned (some (Value.long z))) (show gNum V B cap p = ll 0 from (by unfold gNum; rw [if_neg (by omega)]))) trivial sg_same d_Gd_numberAt_27
  · skip
    have hp : 0 ≤ p ∧ p < cap := by
      unfold gHas at c1
      by_cases q : 0 ≤ p ∧ p < cap
      · exact q
      · rw [if_neg q] at c1; exact absurd rfl c1
    refine jr_iload_n ok 1 d_Gd_numberAt_8 rfl rfl ?_
    refine jr_aload_n ok 0 d_Gd_numberAt_9 rfl rfl ?_
    refine jr_get ok 0 f_Gd_9 rfl rfl d_Gd_numberAt_10 ?_
    refine jr_alen_l ok 1 rfl rfl d_Gd_numberAt_13 ?_
    refine jr_icmp_ge 26 ok ⟨by omega, by omega⟩ ⟨by omega, by omega⟩ d_Gd_numberAt_14 (by decide) (fun c2 => ?_) (fun c2 => ?_)
    · skip
      exfalso; omega
    · skip
      refine jr_aload_n ok 0 d_Gd_numberAt_17 rfl rfl ?_
      refine jr_get ok 0 f_Gd_9 rfl rfl d_Gd_numberAt_18 ?_
      refine jr_iload_n ok 1 d_Gd_numberAt_21 rfl rfl ?_
      refine jr_lald ok 1 rfl rfl (by omega) (by omega) d_Gd_numberAt_22 ?_
      refine jr_goto 27 ok d_Gd_numberAt_23 (by decide) ?_
      exact jr_lret ok fin (Nat.le_refl _) (Nat.le_refl _) () (congrArg (fun z => Outcome.returned (some (Value.long z))) (show gNum V B cap p = V p from (by unfold gNum; rw [if_pos (by have := gHas_01 hy1 cap p; omega)]))) trivial sg_same d_Gd_numberAt_27

set_option maxHeartbeats 4000000 in
set_option maxRecDepth 100000 in
/-- Grid.put at a place that is there -/
theorem c_Gd_put (l : Launch) (D : jd_T) (a : Nat) (nb : Nat) (tb : Nat) (ln : Int) (wn : Int) (nm : Int) (cap : Int) (V : Int → Int64) (B : Int → Int) (p : Int) (x : Int64) (hy0 : cap ≤ 16384) (hy1 : 0 ≤ p) (hy2 : p < cap) : jc_C l D y_Gd_put b_Gd_put 4 none { frames := 0, cells := 0, slots := 0, locals := 0 } [.ref a, .int (ii p), .long x] [ob D a 2 [.ref nb, .ref tb, .int (ii ln), .int (ii wn), .int (ii nm)], al D 2 nb cap V, ai D 3 tb cap B] (fun _ : Unit => (.returned (none), True, [ob D a 2 [.ref nb, .ref tb, .int (ii ln), .int (ii wn), .int (ii nm)], al D 2 nb cap (fun j => if j = p then x else V j), ai D 3 tb cap (fun j => if j = p then 1 else B j)])) := by
  refine jc_of rfl (Nat.le_of_ble_eq_true rfl) ?_
  intro X hl hR hN ok hnm fin
  subst hl
  show jw X 0 0 [ob D a 2 [.ref nb, .ref tb, .int (ii ln), .int (ii wn), .int (ii nm)], al D 2 nb cap V, ai D 3 tb cap B] [(0, .ref a), (1, .int (ii p)), (2, .long x)] 0 []
  refine jr_iload_n ok 1 d_Gd_put_0 rfl rfl ?_
  refine jr_if_lt 36 ok ⟨by omega, by omega⟩ d_Gd_put_1 (by decide) (fun c1 => ?_) (fun c1 => ?_)
  · skip
    exfalso; omega
  · skip
    refine jr_iload_n ok 1 d_Gd_put_4 rfl rfl ?_
    refine jr_aload_n ok 0 d_Gd_put_5 rfl rfl ?_
    refine jr_get ok 0 f_Gd_9 rfl rfl d_Gd_put_6 ?_
    refine jr_alen_l ok 1 rfl rfl d_Gd_put_9 ?_
    refine jr_icmp_ge 36 ok ⟨by omega, by omega⟩ ⟨by omega, by omega⟩ d_Gd_put_10 (by decide) (fun c2 => ?_) (fun c2 => ?_)
    · skip
      exfalso; omega
    · skip
      refine jr_iload_n ok 1 d_Gd_put_13 rfl rfl ?_
      refine jr_aload_n ok 0 d_Gd_put_14 rfl rfl ?_
      refine jr_get ok 0 f_Gd_15 rfl rfl d_Gd_put_15 ?_
      refine jr_alen_i ok 2 rfl rfl d_Gd_put_18 ?_
      refine jr_icmp_ge 36 ok ⟨by omega, by omega⟩ ⟨by omega, by omega⟩ d_Gd_put_19 (by decide) (fun c3 => ?_) (fun c3 => ?_)
      · skip
        exfalso; omega
      · skip
        refine jr_aload_n ok 0 d_Gd_put_22 rfl rfl ?_
        refine jr_get ok 0 f_Gd_9 rfl rfl d_Gd_put_23 ?_
        refine jr_iload_n ok 1 d_Gd_put_26 rfl rfl ?_
        refine jr_lload_n ok 2 d_Gd_put_27 rfl rfl ?_
        refine jr_last [ob D a 2 [.ref nb, .ref tb, .int (ii ln), .int (ii wn), .int (ii nm)], al D 2 nb cap (fun j => if j = p then x else V j), ai D 3 tb cap B] ok 1 rfl rfl (by omega) (by omega) rfl d_Gd_put_28 ?_
        refine jr_aload_n ok 0 d_Gd_put_29 rfl rfl ?_
        refine jr_get ok 0 f_Gd_15 rfl rfl d_Gd_put_30 ?_
        refine jr_iload_n ok 1 d_Gd_put_33 rfl rfl ?_
        refine jr_iconst ok d_Gd_put_34 ?_
        refine jr_zast [ob D a 2 [.ref nb, .ref tb, .int (ii ln), .int (ii wn), .int (ii nm)], al D 2 nb cap (fun j => if j = p then x else V j), ai D 3 tb cap (fun j => if j = p then 1 else B j)] ok 2 rfl rfl (by omega) (by omega) (by decide +kernel) rfl d_Gd_put_35 ?_
        exact jr_vret ok fin (Nat.le_refl _) (Nat.le_refl _) () rfl trivial sg_same d_Gd_put_36

set_option maxHeartbeats 4000000 in
set_option maxRecDepth 100000 in
/-- Grid.clear at a place that is there -/
theorem c_Gd_clear (l : Launch) (D : jd_T) (a : Nat) (nb : Nat) (tb : Nat) (ln : Int) (wn : Int) (nm : Int) (cap : Int) (B : Int → Int) (p : Int) (hy0 : cap ≤ 16384) (hy1 : 0 ≤ p) (hy2 : p < cap) : jc_C l D y_Gd_clear b_Gd_clear 2 none { frames := 0, cells := 0, slots := 0, locals := 0 } [.ref a, .int (ii p)] [ob D a 2 [.ref nb, .ref tb, .int (ii ln), .int (ii wn), .int (ii nm)], ai D 3 tb cap B] (fun _ : Unit => (.returned (none), True, [ob D a 2 [.ref nb, .ref tb, .int (ii ln), .int (ii wn), .int (ii nm)], ai D 3 tb cap (fun j => if j = p then 0 else B j)])) := by
  refine jc_of rfl (Nat.le_of_ble_eq_true rfl) ?_
  intro X hl hR hN ok hnm fin
  subst hl
  show jw X 0 0 [ob D a 2 [.ref nb, .ref tb, .int (ii ln), .int (ii wn), .int (ii nm)], ai D 3 tb cap B] [(0, .ref a), (1, .int (ii p))] 0 []
  refine jr_iload_n ok 1 d_Gd_clear_0 rfl rfl ?_
  refine jr_if_lt 20 ok ⟨by omega, by omega⟩ d_Gd_clear_1 (by decide) (fun c1 => ?_) (fun c1 => ?_)
  · skip
    exfalso; omega
  · skip
    refine jr_iload_n ok 1 d_Gd_clear_4 rfl rfl ?_
    refine jr_aload_n ok 0 d_Gd_clear_5 rfl rfl ?_
    refine jr_get ok 0 f_Gd_15 rfl rfl d_Gd_clear_6 ?_
    refine jr_alen_i ok 1 rfl rfl d_Gd_clear_9 ?_
    refine jr_icmp_ge 20 ok ⟨by omega, by omega⟩ ⟨by omega, by omega⟩ d_Gd_clear_10 (by decide) (fun c2 => ?_) (fun c2 => ?_)
    · skip
      exfalso; omega
    · skip
      refine jr_aload_n ok 0 d_Gd_clear_13 rfl rfl ?_
      refine jr_get ok 0 f_Gd_15 rfl rfl d_Gd_clear_14 ?_
      refine jr_iload_n ok 1 d_Gd_clear_17 rfl rfl ?_
      refine jr_iconst ok d_Gd_clear_18 ?_
      refine jr_zast [ob D a 2 [.ref nb, .ref tb, .int (ii ln), .int (ii wn), .int (ii nm)], ai D 3 tb cap (fun j => if j = p then 0 else B j)] ok 1 rfl rfl (by omega) (by omega) (by decide +kernel) rfl d_Gd_clear_19 ?_
      exact jr_vret ok fin (Nat.le_refl _) (Nat.le_refl _) () rfl trivial sg_same d_Gd_clear_20

set_option maxHeartbeats 4000000 in
set_option maxRecDepth 100000 in
/-- Grid.keepLines -/
theorem c_Gd_keepLines (l : Launch) (D : jd_T) (a : Nat) (nb : Nat) (tb : Nat) (ln : Int) (wn : Int) (nm : Int) (k : Int)  : jc_C l D y_Gd_keepLines b_Gd_keepLines 2 none { frames := 0, cells := 0, slots := 0, locals := 0 } [.ref a, .int (ii k)] [ob D a 2 [.ref nb, .ref tb, .int (ii ln), .int (ii wn), .int (ii nm)]] (fun _ : Unit => (.returned (none), True, [ob D a 2 [.ref nb, .ref tb, .int (ii k), .int (ii wn), .int (ii nm)]])) := by
  refine jc_of rfl (Nat.le_of_ble_eq_true rfl) ?_
  intro X hl hR hN ok hnm fin
  subst hl
  show jw X 0 0 [ob D a 2 [.ref nb, .ref tb, .int (ii ln), .int (ii wn), .int (ii nm)]] [(0, .ref a), (1, .int (ii k))] 0 []
  refine jr_aload_n ok 0 d_Gd_keepLines_0 rfl rfl ?_
  refine jr_iload_n ok 1 d_Gd_keepLines_1 rfl rfl ?_
  refine jr_put [ob D a 2 [.ref nb, .ref tb, .int (ii k), .int (ii wn), .int (ii nm)]] ok 0 f_Gd_19 rfl rfl rfl (Nat.le_of_ble_eq_true rfl) rfl d_Gd_keepLines_2 ?_
  exact jr_vret ok fin (Nat.le_refl _) (Nat.le_refl _) () rfl trivial sg_same d_Gd_keepLines_5

