/-- a letter of a series, of a value -/
def lA (F : Int → Int) (ln i : Int) : Int := if 0 ≤ i ∧ i < ln then F i else -1
theorem lA_R {F : Int → Int} (ln i : Int) (h : ∀ j, -128 ≤ F j ∧ F j ≤ 127) : -128 ≤ lA F ln i ∧ lA F ln i ≤ 127 := by
  unfold lA
  split
  · exact h i
  · omega
def vLen (G E : Int → Int) (m i : Int) : Int := if 0 ≤ i ∧ i < m then E i - G i - 1 else 0
def vLet (F G E : Int → Int) (ln m i j : Int) : Int := if 0 ≤ i ∧ i < m ∧ 0 ≤ j ∧ j < vLen G E m i then lA F ln (G i + 1 + j) else -1
theorem vLen_R {G E : Int → Int} (m i : Int) (h : ∀ j, 0 ≤ G j ∧ G j ≤ 1000) (h2 : ∀ j, 0 ≤ E j ∧ E j ≤ 1000) : -2000 ≤ vLen G E m i ∧ vLen G E m i ≤ 1000 := by
  unfold vLen
  have := h i
  have := h2 i
  split <;> omega
theorem vLet_R {F G E : Int → Int} (ln m i j : Int) (h : ∀ j, -128 ≤ F j ∧ F j ≤ 127) : -128 ≤ vLet F G E ln m i j ∧ vLet F G E ln m i j ≤ 127 := by
  unfold vLet
  split
  · exact lA_R _ _ h
  · omega
/-- the same so far on -/
def eqR (P Q : Int → Int) : Nat → Int → Int
  | 0, _ => 1
  | k + 1, i => if P i = Q i then eqR P Q k (i + 1) else 0

set_option maxHeartbeats 4000000 in
set_option maxRecDepth 100000 in
/-- Series.letterAt -/
theorem c_Se_letterAt (l : Launch) (D : jd_T) (a : Nat) (lb : Nat) (sb0 : Nat) (gb : Nat) (eb : Nat) (pt : Value) (ln : Int) (F : Int → Int) (i : Int) (hy0 : 0 ≤ ln) (hy1 : ln ≤ 1000) (hy2 : iR i) (hy3 : ∀ j, -128 ≤ F j ∧ F j ≤ 127) : jc_C l D y_Se_letterAt b_Se_letterAt 2 (some .int) { frames := 0, cells := 0, slots := 0, locals := 0 } [.ref a, .int (ii i)] [ob D a 9 [.ref lb, .ref sb0, .ref gb, .ref eb, pt], ai D 1 lb ln F] (fun _ : Unit => (.returned (some (.int (ii (lA F ln i)))), -128 ≤ lA F ln i ∧ lA F ln i ≤ 127, [ob D a 9 [.ref lb, .ref sb0, .ref gb, .ref eb, pt], ai D 1 lb ln F])) := by
  refine jc_of rfl (Nat.le_of_ble_eq_true rfl) ?_
  intro X hl hR hN ok hnm fin
  subst hl
  show jw X 0 0 [ob D a 9 [.ref lb, .ref sb0, .ref gb, .ref eb, pt], ai D 1 lb ln F] [(0, .ref a), (1, .int (ii i))] 0 []
  refine jr_iload_n ok 1 d_Se_letterAt_0 rfl rfl ?_
  refine jr_if_lt 22 ok ⟨by omega, by omega⟩ d_Se_letterAt_1 (by decide) (fun c1 => ?_) (fun c1 => ?_)
  · skip
    refine jr_iconst ok d_Se_letterAt_22 ?_
    exact jr_iret ok fin (Nat.le_refl _) (Nat.le_refl _) () (congrArg (fun z => Outcome.returned (some (Value.int (ii z)))) (show (lA F ln i) = -1 from (by unfold lA; rw [if_neg (by omega)]))) (lA_R _ _ hy3) sg_same d_Se_letterAt_23
  · skip
    refine jr_iload_n ok 1 d_Se_letterAt_4 rfl rfl ?_
    refine jr_aload_n ok 0 d_Se_letterAt_5 rfl rfl ?_
    refine jr_get ok 0 f_Se_18 rfl rfl d_Se_letterAt_6 ?_
    refine jr_alen_i ok 1 rfl rfl d_Se_letterAt_9 ?_
    refine jr_icmp_ge 22 ok ⟨by omega, by omega⟩ ⟨by omega, by omega⟩ d_Se_letterAt_10 (by decide) (fun c2 => ?_) (fun c2 => ?_)
    · skip
      refine jr_iconst ok d_Se_letterAt_22 ?_
      exact jr_iret ok fin (Nat.le_refl _) (Nat.le_refl _) () (congrArg (fun z => Outcome.returned (some (Value.int (ii z)))) (show (lA F ln i) = -1 from (by unfold lA; rw [if_neg (by omega)]))) (lA_R _ _ hy3) sg_same d_Se_letterAt_23
    · skip
      refine jr_aload_n ok 0 d_Se_letterAt_13 rfl rfl ?_
      refine jr_get ok 0 f_Se_18 rfl rfl d_Se_letterAt_14 ?_
      refine jr_iload_n ok 1 d_Se_letterAt_17 rfl rfl ?_
      refine jr_bald ok 1 rfl rfl (by omega) (by omega) d_Se_letterAt_18 ?_
      refine jr_goto 23 ok d_Se_letterAt_19 (by decide) ?_
      exact jr_iret ok fin (Nat.le_refl _) (Nat.le_refl _) () (congrArg (fun z => Outcome.returned (some (Value.int (ii z)))) (show (lA F ln i) = F i from (by unfold lA; rw [if_pos (by omega)]))) (lA_R _ _ hy3) sg_same d_Se_letterAt_23

set_option maxHeartbeats 4000000 in
set_option maxRecDepth 100000 in
/-- Series.valueLength -/
theorem c_Se_valueLength (l : Launch) (D : jd_T) (a : Nat) (lb : Nat) (sb0 : Nat) (gb : Nat) (eb : Nat) (pt : Value) (m : Int) (G : Int → Int) (E : Int → Int) (i : Int) (hy0 : 0 ≤ m) (hy1 : m ≤ 6) (hy2 : iR i) (hy3 : ∀ j, 0 ≤ G j ∧ G j ≤ 1000) (hy4 : ∀ j, 0 ≤ E j ∧ E j ≤ 1000) : jc_C l D y_Se_valueLength b_Se_valueLength 2 (some .int) { frames := 0, cells := 0, slots := 0, locals := 0 } [.ref a, .int (ii i)] [ob D a 9 [.ref lb, .ref sb0, .ref gb, .ref eb, pt], ai D 0 gb m G, ai D 0 eb m E] (fun _ : Unit => (.returned (some (.int (ii (vLen G E m i)))), -2000 ≤ vLen G E m i ∧ vLen G E m i ≤ 1000, [ob D a 9 [.ref lb, .ref sb0, .ref gb, .ref eb, pt], ai D 0 gb m G, ai D 0 eb m E])) := by
  refine jc_of rfl (Nat.le_of_ble_eq_true rfl) ?_
  intro X hl hR hN ok hnm fin
  subst hl
  show jw X 0 0 [ob D a 9 [.ref lb, .ref sb0, .ref gb, .ref eb, pt], ai D 0 gb m G, ai D 0 eb m E] [(0, .ref a), (1, .int (ii i))] 0 []
  refine jr_iload_n ok 1 d_Se_valueLength_0 rfl rfl ?_
  refine jr_if_lt 22 ok ⟨by omega, by omega⟩ d_Se_valueLength_1 (by decide) (fun c1 => ?_) (fun c1 => ?_)
  · skip
    refine jr_iconst ok d_Se_valueLength_22 ?_
    exact jr_iret ok fin (Nat.le_refl _) (Nat.le_refl _) () (congrArg (fun z => Outcome.returned (some (Value.int (ii z)))) (show (vLen G E m i) = 0 from (by unfold vLen; rw [if_neg (by omega)]))) (vLen_R _ _ hy3 hy4) sg_same d_Se_valueLength_23
  · skip
    refine jr_iload_n ok 1 d_Se_valueLength_4 rfl rfl ?_
    refine jr_aload_n ok 0 d_Se_valueLength_5 rfl rfl ?_
    refine jr_get ok 0 f_Se_26 rfl rfl d_Se_valueLength_6 ?_
    refine jr_alen_i ok 1 rfl rfl d_Se_valueLength_9 ?_
    refine jr_icmp_ge 22 ok ⟨by omega, by omega⟩ ⟨by omega, by omega⟩ d_Se_valueLength_10 (by decide) (fun c2 => ?_) (fun c2 => ?_)
    · skip
      refine jr_iconst ok d_Se_valueLength_22 ?_
      exact jr_iret ok fin (Nat.le_refl _) (Nat.le_refl _) () (congrArg (fun z => Outcome.returned (some (Value.int (ii z)))) (show (vLen G E m i) = 0 from (by unfold vLen; rw [if_neg (by omega)]))) (vLen_R _ _ hy3 hy4) sg_same d_Se_valueLength_23
    · skip
      refine jr_iload_n ok 1 d_Se_valueLength_13 rfl rfl ?_
      refine jr_aload_n ok 0 d_Se_valueLength_14 rfl rfl ?_
      refine jr_get ok 0 f_Se_29 rfl rfl d_Se_valueLength_15 ?_
      refine jr_alen_i ok 2 rfl rfl d_Se_valueLength_18 ?_
      refine jr_icmp_lt 24 ok ⟨by omega, by omega⟩ ⟨by omega, by omega⟩ d_Se_valueLength_19 (by decide) (fun c3 => ?_) (fun c3 => ?_)
      · skip
        refine jr_aload_n ok 0 d_Se_valueLength_24 rfl rfl ?_
        refine jr_get ok 0 f_Se_29 rfl rfl d_Se_valueLength_25 ?_
        refine jr_iload_n ok 1 d_Se_valueLength_28 rfl rfl ?_
        refine jr_iald ok 2 rfl rfl (by omega) (by omega) d_Se_valueLength_29 ?_
        refine jr_aload_n ok 0 d_Se_valueLength_30 rfl rfl ?_
        refine jr_get ok 0 f_Se_26 rfl rfl d_Se_valueLength_31 ?_
        refine jr_iload_n ok 1 d_Se_valueLength_34 rfl rfl ?_
        refine jr_iald ok 1 rfl rfl (by omega) (by omega) d_Se_valueLength_35 ?_
        refine jr_isub ok d_Se_valueLength_36 ?_
        refine jr_iconst ok d_Se_valueLength_37 ?_
        refine jr_isub ok d_Se_valueLength_38 ?_
        exact jr_iret ok fin (Nat.le_refl _) (Nat.le_refl _) () (congrArg (fun z => Outcome.returned (some (Value.int (ii z)))) (show (vLen G E m i) = ((E i) - (G i)) - 1 from (by unfold vLen; rw [if_pos (by omega)]))) (vLen_R _ _ hy3 hy4) sg_same d_Se_valueLength_39
      · skip
        exfalso; omega

set_option maxHeartbeats 4000000 in
set_option maxRecDepth 100000 in
/-- Series.valueLetter -/
theorem c_Se_valueLetter (l : Launch) (D : jd_T) (a : Nat) (lb : Nat) (sb0 : Nat) (gb : Nat) (eb : Nat) (pt : Value) (ln : Int) (m : Int) (F : Int → Int) (G : Int → Int) (E : Int → Int) (i : Int) (j : Int) (hy0 : 0 ≤ ln) (hy1 : ln ≤ 1000) (hy2 : 0 ≤ m) (hy3 : m ≤ 6) (hy4 : iR i) (hy5 : iR j) (hy6 : ∀ j, 0 ≤ G j ∧ G j ≤ 1000) (hy7 : ∀ j, 0 ≤ E j ∧ E j ≤ 1000) (hy8 : ∀ j, -128 ≤ F j ∧ F j ≤ 127) : jc_C l D y_Se_valueLetter b_Se_valueLetter 3 (some .int) { frames := 1, cells := 0, slots := 0, locals := 21 } [.ref a, .int (ii i), .int (ii j)] [ob D a 9 [.ref lb, .ref sb0, .ref gb, .ref eb, pt], ai D 1 lb ln F, ai D 0 gb m G, ai D 0 eb m E] (fun _ : Unit => (.returned (some (.int (ii (vLet F G E ln m i j)))), -128 ≤ vLet F G E ln m i j ∧ vLet F G E ln m i j ≤ 127, [ob D a 9 [.ref lb, .ref sb0, .ref gb, .ref eb, pt], ai D 1 lb ln F, ai D 0 gb m G, ai D 0 eb m E])) := by
  refine jc_of rfl (Nat.le_of_ble_eq_true rfl) ?_
  intro X hl hR hN ok hnm fin
  subst hl
  show jw X 0 0 [ob D a 9 [.ref lb, .ref sb0, .ref gb, .ref eb, pt], ai D 1 lb ln F, ai D 0 gb m G, ai D 0 eb m E] [(0, .ref a), (1, .int (ii i)), (2, .int (ii j))] 0 []
  refine jr_iload_n ok 1 d_Se_valueLetter_0 rfl rfl ?_
  refine jr_if_lt 26 ok ⟨by omega, by omega⟩ d_Se_valueLetter_1 (by decide) (fun c1 => ?_) (fun c1 => ?_)
  · skip
    refine jr_iconst ok d_Se_valueLetter_26 ?_
    exact jr_iret ok fin (Nat.le_refl _) (Nat.le_refl _) () (congrArg (fun z => Outcome.returned (some (Value.int (ii z)))) (show (vLet F G E ln m i j) = -1 from (by unfold vLet; rw [if_neg (by omega)]))) (vLet_R _ _ _ _ hy8) sg_same d_Se_valueLetter_27
  · skip
    refine jr_iload_n ok 1 d_Se_valueLetter_4 rfl rfl ?_
    refine jr_aload_n ok 0 d_Se_valueLetter_5 rfl rfl ?_
    refine jr_get ok 0 f_Se_26 rfl rfl d_Se_valueLetter_6 ?_
    refine jr_alen_i ok 2 rfl rfl d_Se_valueLetter_9 ?_
    refine jr_icmp_ge 26 ok ⟨by omega, by omega⟩ ⟨by omega, by omega⟩ d_Se_valueLetter_10 (by decide) (fun c2 => ?_) (fun c2 => ?_)
    · skip
      refine jr_iconst ok d_Se_valueLetter_26 ?_
      exact jr_iret ok fin (Nat.le_refl _) (Nat.le_refl _) () (congrArg (fun z => Outcome.returned (some (Value.int (ii z)))) (show (vLet F G E ln m i j) = -1 from (by unfold vLet; rw [if_neg (by omega)]))) (vLet_R _ _ _ _ hy8) sg_same d_Se_valueLetter_27
    · skip
      refine jr_iload_n ok 2 d_Se_valueLetter_13 rfl rfl ?_
      refine jr_if_lt 26 ok ⟨by omega, by omega⟩ d_Se_valueLetter_14 (by decide) (fun c3 => ?_) (fun c3 => ?_)
      · skip
        refine jr_iconst ok d_Se_valueLetter_26 ?_
        exact jr_iret ok fin (Nat.le_refl _) (Nat.le_refl _) () (congrArg (fun z => Outcome.returned (some (Value.int (ii z)))) (show (vLet F G E ln m i j) = -1 from (by unfold vLet; rw [if_neg (by omega)]))) (vLet_R _ _ _ _ hy8) sg_same d_Se_valueLetter_27
      · skip
        refine jr_iload_n ok 2 d_Se_valueLetter_17 rfl rfl ?_
        refine jr_aload_n ok 0 d_Se_valueLetter_18 rfl rfl ?_
        refine jr_iload_n ok 1 d_Se_valueLetter_19 rfl rfl ?_
        refine jr_cV1 [0, 2, 3] [1] [ob D a 9 [.ref lb, .ref sb0, .ref gb, .ref eb, pt], ai D 0 gb m G, ai D 0 eb m E, ai D 1 lb ln F] 0 0 ok hR m_Se_52 0 (c_Se_valueLength (jx_l X) D a lb sb0 gb eb pt m G E i (by first | assumption | omega) (by first | assumption | omega) ⟨by omega, by omega⟩ (by first | assumption | omega) (by first | assumption | omega)) (List.isPerm_iff.mp rfl) rfl rfl rfl rfl rfl rfl rfl (Nat.le_of_ble_eq_true rfl) ⟨Nat.le_of_ble_eq_true rfl, Nat.le_of_ble_eq_true rfl⟩ rfl rfl ⟨Nat.le_of_ble_eq_true rfl, Nat.le_of_ble_eq_true rfl⟩ d_Se_valueLetter_20 (fun hx4 => ?_)
        have hx4 : -2000 ≤ vLen G E m i ∧ vLen G E m i ≤ 1000 := hx4
        refine jr_icmp_lt 28 ok ⟨by omega, by omega⟩ ⟨by omega, by omega⟩ d_Se_valueLetter_23 (by decide) (fun c5 => ?_) (fun c5 => ?_)
        · skip
          have hgi := hy6 i
          refine jr_aload_n ok 0 d_Se_valueLetter_28 rfl rfl ?_
          refine jr_aload_n ok 0 d_Se_valueLetter_29 rfl rfl ?_
          refine jr_get ok 0 f_Se_26 rfl rfl d_Se_valueLetter_30 ?_
          refine jr_iload_n ok 1 d_Se_valueLetter_33 rfl rfl ?_
          refine jr_iald ok 1 rfl rfl (by omega) (by omega) d_Se_valueLetter_34 ?_
          refine jr_iconst ok d_Se_valueLetter_35 ?_
          refine jr_iadd ok d_Se_valueLetter_36 ?_
          refine jr_iload_n ok 2 d_Se_valueLetter_37 rfl rfl ?_
          refine jr_iadd ok d_Se_valueLetter_38 ?_
          refine jr_cV1 [0, 3] [1, 2] [ob D a 9 [.ref lb, .ref sb0, .ref gb, .ref eb, pt], ai D 1 lb ln F, ai D 0 gb m G, ai D 0 eb m E] 0 0 ok hR m_Se_46 0 (c_Se_letterAt (jx_l X) D a lb sb0 gb eb pt ln F (((G i) + 1) + j) (by first | assumption | omega) (by first | assumption | omega) ⟨by omega, by omega⟩ (by first | assumption | omega)) (List.isPerm_iff.mp rfl) rfl rfl rfl rfl rfl rfl rfl (Nat.le_of_ble_eq_true rfl) ⟨Nat.le_of_ble_eq_true rfl, Nat.le_of_ble_eq_true rfl⟩ rfl rfl ⟨Nat.le_of_ble_eq_true rfl, Nat.le_of_ble_eq_true rfl⟩ d_Se_valueLetter_39 (fun hx6 => ?_)
          have hx6 : -128 ≤ lA F ln (((G i) + 1) + j) ∧ lA F ln (((G i) + 1) + j) ≤ 127 := hx6
          exact jr_iret ok fin (Nat.le_refl _) (Nat.le_refl _) () (congrArg (fun z => Outcome.returned (some (Value.int (ii z)))) (show (vLet F G E ln m i j) = lA F ln (((G i) + 1) + j) from (by unfold vLet; rw [if_pos ⟨by omega, by omega, by omega, by omega⟩]))) (vLet_R _ _ _ _ hy8) sg_same d_Se_valueLetter_42
        · skip
          refine jr_iconst ok d_Se_valueLetter_26 ?_
          exact jr_iret ok fin (Nat.le_refl _) (Nat.le_refl _) () (congrArg (fun z => Outcome.returned (some (Value.int (ii z)))) (show (vLet F G E ln m i j) = -1 from (by unfold vLet; rw [if_neg (by omega)]))) (vLet_R _ _ _ _ hy8) (sg_pick [0, 3, 1, 2] (List.isPerm_iff.mp rfl) rfl) d_Se_valueLetter_27

theorem eqR_01 (P Q : Int → Int) : ∀ (k : Nat) (i : Int), eqR P Q k i = 0 ∨ eqR P Q k i = 1
  | 0, _ => Or.inr rfl
  | k + 1, i => by
    unfold eqR
    split
    · exact eqR_01 P Q k (i + 1)
    · exact Or.inl rfl

set_option maxHeartbeats 4000000 in
set_option maxRecDepth 100000 in
/-- Series.isOnTape -/
theorem c_Se_isOnTape (l : Launch) (D : jd_T) (a : Nat) (lb : Nat) (sb0 : Nat) (gb : Nat) (eb : Nat) (pt : Value) (ln : Int) (F : Int → Int) (ta : Nat) (tb : Nat) (cap : Int) (n : Int) (f : Int → Int) (s : Int) (p : Int) (k0 : Int) (hy0 : 0 ≤ ln) (hy1 : ln ≤ 1000) (hy2 : ∀ j, -128 ≤ F j ∧ F j ≤ 127) (hy3 : 0 ≤ n) (hy4 : n ≤ cap) (hy5 : cap ≤ 1000000) (hy6 : -1000000 ≤ s ∧ s ≤ 1000000) (hy7 : -1000000 ≤ p ∧ p ≤ 1000000) (hy8 : -1000000 ≤ k0 ∧ k0 ≤ 1000000) : jc_C l D y_Se_isOnTape b_Se_isOnTape 6 (some .boolean) { frames := 1, cells := 0, slots := 0, locals := 21 } [.ref a, .int (ii s), .ref ta, .int (ii p), .int (ii k0)] [ob D a 9 [.ref lb, .ref sb0, .ref gb, .ref eb, pt], ai D 1 lb ln F, ob D ta 11 [.ref tb, .int (ii n)], ai D 1 tb cap f] (fun _ : Unit => (.returned (some (.int (ii (eqR (fun t9 => lA F ln (s + t9)) (fun t9 => bA f n (p + t9)) k0.toNat 0)))), True, [ob D a 9 [.ref lb, .ref sb0, .ref gb, .ref eb, pt], ai D 1 lb ln F, ob D ta 11 [.ref tb, .int (ii n)], ai D 1 tb cap f])) := by
  refine jc_of rfl (Nat.le_of_ble_eq_true rfl) ?_
  intro X hl hR hN ok hnm fin
  subst hl
  show jw X 0 0 [ob D a 9 [.ref lb, .ref sb0, .ref gb, .ref eb, pt], ai D 1 lb ln F, ob D ta 11 [.ref tb, .int (ii n)], ai D 1 tb cap f] [(0, .ref a), (1, .int (ii s)), (2, .ref ta), (3, .int (ii p)), (4, .int (ii k0))] 0 []
  have lp : ∀ (k : Nat) (i : Int), 0 ≤ i → i ≤ 2000000 → (k0 - i).toNat = k → eqR (fun t9 => lA F ln (s + t9)) (fun t9 => bA f n (p + t9)) k i = eqR (fun t9 => lA F ln (s + t9)) (fun t9 => bA f n (p + t9)) (k0).toNat 0 → jw X 0 0 [ob D a 9 [.ref lb, .ref sb0, .ref gb, .ref eb, pt], ai D 1 lb ln F, ob D ta 11 [.ref tb, .int (ii n)], ai D 1 tb cap f] [(5, .int (ii i)), (0, .ref a), (1, .int (ii s)), (2, .ref ta), (3, .int (ii p)), (4, .int (ii k0))] 3 [] := by
    intro k
    induction k with
    | zero =>
      intro i h1 h2 h4 h5
      refine jr_iload ok 0 d_Se_isOnTape_3 rfl ?_
      refine jr_iload ok 5 d_Se_isOnTape_5 rfl ?_
      refine jr_icmp_ge 37 ok ⟨by omega, by omega⟩ ⟨by omega, by omega⟩ d_Se_isOnTape_7 (by decide) (fun c1 => ?_) (fun c1 => ?_)
      · skip
        refine jr_iconst ok d_Se_isOnTape_37 ?_
        exact jr_zret ok (by decide +kernel) fin (Nat.le_refl _) (Nat.le_refl _) () (congrArg (fun z => Outcome.returned (some (Value.int (ii z)))) (show (eqR (fun t9 => lA F ln (s + t9)) (fun t9 => bA f n (p + t9)) k0.toNat 0) = 1 from h5.symm)) trivial sg_same d_Se_isOnTape_38
      · skip
        exfalso; omega
    | succ k ih =>
      intro i h1 h2 h4 h5
      refine jr_iload ok 0 d_Se_isOnTape_3 rfl ?_
      refine jr_iload ok 5 d_Se_isOnTape_5 rfl ?_
      refine jr_icmp_ge 37 ok ⟨by omega, by omega⟩ ⟨by omega, by omega⟩ d_Se_isOnTape_7 (by decide) (fun c2 => ?_) (fun c2 => ?_)
      · skip
        exfalso; omega
      · skip
        refine jr_aload_n ok 1 d_Se_isOnTape_10 rfl rfl ?_
        refine jr_iload_n ok 2 d_Se_isOnTape_11 rfl rfl ?_
        refine jr_iload ok 0 d_Se_isOnTape_12 rfl ?_
        refine jr_iadd ok d_Se_isOnTape_14 ?_
        refine jr_cV1 [0, 1] [2, 3] [ob D a 9 [.ref lb, .ref sb0, .ref gb, .ref eb, pt], ai D 1 lb ln F, ob D ta 11 [.ref tb, .int (ii n)], ai D 1 tb cap f] 0 0 ok hR m_Se_46 0 (c_Se_letterAt (jx_l X) D a lb sb0 gb eb pt ln F (s + i) (by first | assumption | omega) (by first | assumption | omega) ⟨by omega, by omega⟩ (by first | assumption | omega)) (List.isPerm_iff.mp rfl) rfl rfl rfl rfl rfl rfl rfl (Nat.le_of_ble_eq_true rfl) ⟨Nat.le_of_ble_eq_true rfl, Nat.le_of_ble_eq_true rfl⟩ rfl rfl ⟨Nat.le_of_ble_eq_true rfl, Nat.le_of_ble_eq_true rfl⟩ d_Se_isOnTape_15 (fun hx3 => ?_)
        have hx3 : -128 ≤ lA F ln (s + i) ∧ lA F ln (s + i) ≤ 127 := hx3
        refine jr_aload_n ok 3 d_Se_isOnTape_18 rfl rfl ?_
        refine jr_iload_n ok 4 d_Se_isOnTape_19 rfl rfl ?_
        refine jr_iload ok 0 d_Se_isOnTape_20 rfl ?_
        refine jr_iadd ok d_Se_isOnTape_22 ?_
        refine jr_cV1 [2, 3] [0, 1] [ob D ta 11 [.ref tb, .int (ii n)], ai D 1 tb cap f, ob D a 9 [.ref lb, .ref sb0, .ref gb, .ref eb, pt], ai D 1 lb ln F] 0 0 ok hR m_Se_47 2 (c_Tp_byteAt (jx_l X) D ta tb cap n f (p + i) (by first | assumption | omega) (by first | assumption | omega) (by first | assumption | omega) ⟨by omega, by omega⟩) (List.isPerm_iff.mp rfl) rfl rfl rfl rfl rfl rfl rfl (Nat.le_of_ble_eq_true rfl) ⟨Nat.le_of_ble_eq_true rfl, Nat.le_of_ble_eq_true rfl⟩ rfl rfl ⟨Nat.le_of_ble_eq_true rfl, Nat.le_of_ble_eq_true rfl⟩ d_Se_isOnTape_23 (fun _ => ?_)
        have hf4_0 := bA_R f n (p + i)
        refine jr_icmp_eq 31 ok ⟨by omega, by omega⟩ ⟨by omega, by omega⟩ d_Se_isOnTape_26 (by decide) (fun c5 => ?_) (fun c5 => ?_)
        · skip
          rw [eqR, if_pos c5] at h5
          refine jr_iinc [(5, .int (ii (i + 1))), (0, .ref a), (1, .int (ii s)), (2, .ref ta), (3, .int (ii p)), (4, .int (ii k0))] 0 ok d_Se_isOnTape_31 rfl (by rw [hN]; decide) rfl ?_
          refine jr_goto 3 ok d_Se_isOnTape_34 (by decide) ?_
          refine jr_pick (L' := [ob D a 9 [.ref lb, .ref sb0, .ref gb, .ref eb, pt], ai D 1 lb ln F, ob D ta 11 [.ref tb, .int (ii n)], ai D 1 tb cap f]) [2, 3, 0, 1] (List.isPerm_iff.mp rfl) rfl ?_
          exact jr_lv [0, 1, 2, 3, 4, 5] rfl (ih (i + 1) (by omega) (by omega) (by omega) h5)
        · skip
          rw [eqR, if_neg c5] at h5
          refine jr_iconst ok d_Se_isOnTape_29 ?_
          exact jr_zret ok (by decide +kernel) fin (Nat.le_refl _) (Nat.le_refl _) () (congrArg (fun z => Outcome.returned (some (Value.int (ii z)))) (show (eqR (fun t9 => lA F ln (s + t9)) (fun t9 => bA f n (p + t9)) k0.toNat 0) = 0 from h5.symm)) trivial (sg_pick [2, 3, 0, 1] (List.isPerm_iff.mp rfl) rfl) d_Se_isOnTape_30
  refine jr_iconst ok d_Se_isOnTape_0 ?_
  refine jr_istore [(5, .int (ii 0)), (0, .ref a), (1, .int (ii s)), (2, .ref ta), (3, .int (ii p)), (4, .int (ii k0))] ok d_Se_isOnTape_1 (by rw [hN]; decide) rfl ?_
  exact jr_lv [0, 1, 2, 3, 4, 5] rfl (lp _ 0 (by omega) (by omega) (by rw [Int.sub_zero]) rfl)

set_option maxHeartbeats 4000000 in
set_option maxRecDepth 100000 in
/-- Series.valueBegins -/
theorem c_Se_valueBegins (l : Launch) (D : jd_T) (a : Nat) (lb : Nat) (sb0 : Nat) (gb : Nat) (eb : Nat) (pt : Value) (ln : Int) (m : Int) (F : Int → Int) (G : Int → Int) (E : Int → Int) (ta : Nat) (tb : Nat) (cap : Int) (n : Int) (f : Int → Int) (x : Int) (p : Int) (k0 : Int) (hy0 : 0 ≤ ln) (hy1 : ln ≤ 1000) (hy2 : 0 ≤ m) (hy3 : m ≤ 6) (hy4 : iR x) (hy5 : ∀ j, 0 ≤ G j ∧ G j ≤ 1000) (hy6 : ∀ j, 0 ≤ E j ∧ E j ≤ 1000) (hy7 : ∀ j, -128 ≤ F j ∧ F j ≤ 127) (hy8 : 0 ≤ n) (hy9 : n ≤ cap) (hy10 : cap ≤ 1000000) (hy11 : -1000000 ≤ p ∧ p ≤ 1000000) (hy12 : -1000000 ≤ k0 ∧ k0 ≤ 1000000) : jc_C l D y_Se_valueBegins b_Se_valueBegins 6 (some .boolean) { frames := 2, cells := 0, slots := 0, locals := 43 } [.ref a, .int (ii x), .ref ta, .int (ii p), .int (ii k0)] [ob D a 9 [.ref lb, .ref sb0, .ref gb, .ref eb, pt], ai D 1 lb ln F, ai D 0 gb m G, ai D 0 eb m E, ob D ta 11 [.ref tb, .int (ii n)], ai D 1 tb cap f] (fun _ : Unit => (.returned (some (.int (ii (if vLen G E m x < k0 then 0 else eqR (fun t9 => vLet F G E ln m x t9) (fun t9 => bA f n (p + t9)) k0.toNat 0)))), True, [ob D a 9 [.ref lb, .ref sb0, .ref gb, .ref eb, pt], ai D 1 lb ln F, ai D 0 gb m G, ai D 0 eb m E, ob D ta 11 [.ref tb, .int (ii n)], ai D 1 tb cap f])) := by
  refine jc_of rfl (Nat.le_of_ble_eq_true rfl) ?_
  intro X hl hR hN ok hnm fin
  subst hl
  show jw X 0 0 [ob D a 9 [.ref lb, .ref sb0, .ref gb, .ref eb, pt], ai D 1 lb ln F, ai D 0 gb m G, ai D 0 eb m E, ob D ta 11 [.ref tb, .int (ii n)], ai D 1 tb cap f] [(0, .ref a), (1, .int (ii x)), (2, .ref ta), (3, .int (ii p)), (4, .int (ii k0))] 0 []
  by_cases hk : vLen G E m x < k0
  · skip
    refine jr_iload ok 4 d_Se_valueBegins_0 rfl ?_
    refine jr_aload_n ok 0 d_Se_valueBegins_2 rfl rfl ?_
    refine jr_iload_n ok 1 d_Se_valueBegins_3 rfl rfl ?_
    refine jr_cV1 [0, 2, 3] [1, 4, 5] [ob D a 9 [.ref lb, .ref sb0, .ref gb, .ref eb, pt], ai D 0 gb m G, ai D 0 eb m E, ai D 1 lb ln F, ob D ta 11 [.ref tb, .int (ii n)], ai D 1 tb cap f] 0 0 ok hR m_Se_52 0 (c_Se_valueLength (jx_l X) D a lb sb0 gb eb pt m G E x (by first | assumption | omega) (by first | assumption | omega) ⟨by omega, by omega⟩ (by first | assumption | omega) (by first | assumption | omega)) (List.isPerm_iff.mp rfl) rfl rfl rfl rfl rfl rfl rfl (Nat.le_of_ble_eq_true rfl) ⟨Nat.le_of_ble_eq_true rfl, Nat.le_of_ble_eq_true rfl⟩ rfl rfl ⟨Nat.le_of_ble_eq_true rfl, Nat.le_of_ble_eq_true rfl⟩ d_Se_valueBegins_4 (fun hx1 => ?_)
    have hx1 : -2000 ≤ vLen G E m x ∧ vLen G E m x ≤ 1000 := hx1
    refine jr_icmp_le 12 ok ⟨by omega, by omega⟩ ⟨by omega, by omega⟩ d_Se_valueBegins_7 (by decide) (fun c2 => ?_) (fun c2 => ?_)
    · skip
      exfalso; omega
    · skip
      refine jr_iconst ok d_Se_valueBegins_10 ?_
      exact jr_zret ok (by decide +kernel) fin (Nat.le_refl _) (Nat.le_refl _) () (congrArg (fun z => Outcome.returned (some (Value.int (ii z)))) (show (if vLen G E m x < k0 then 0 else eqR (fun t9 => vLet F G E ln m x t9) (fun t9 => bA f n (p + t9)) k0.toNat 0) = 0 from (if_pos hk))) trivial (sg_pick [0, 3, 1, 2, 4, 5] (List.isPerm_iff.mp rfl) rfl) d_Se_valueBegins_11
  have lp : ∀ (k : Nat) (i : Int), 0 ≤ i → i ≤ 2000000 → (k0 - i).toNat = k → eqR (fun t9 => vLet F G E ln m x t9) (fun t9 => bA f n (p + t9)) k i = eqR (fun t9 => vLet F G E ln m x t9) (fun t9 => bA f n (p + t9)) (k0).toNat 0 → jw X 0 0 [ob D a 9 [.ref lb, .ref sb0, .ref gb, .ref eb, pt], ai D 1 lb ln F, ai D 0 gb m G, ai D 0 eb m E, ob D ta 11 [.ref tb, .int (ii n)], ai D 1 tb cap f] [(5, .int (ii i)), (0, .ref a), (1, .int (ii x)), (2, .ref ta), (3, .int (ii p)), (4, .int (ii k0))] 15 [] := by
    intro k
    induction k with
    | zero =>
      intro i h1 h2 h4 h5
      refine jr_iload ok 0 d_Se_valueBegins_15 rfl ?_
      refine jr_iload ok 5 d_Se_valueBegins_17 rfl ?_
      refine jr_icmp_ge 48 ok ⟨by omega, by omega⟩ ⟨by omega, by omega⟩ d_Se_valueBegins_19 (by decide) (fun c3 => ?_) (fun c3 => ?_)
      · skip
        refine jr_iconst ok d_Se_valueBegins_48 ?_
        exact jr_zret ok (by decide +kernel) fin (Nat.le_refl _) (Nat.le_refl _) () (congrArg (fun z => Outcome.returned (some (Value.int (ii z)))) (show (if vLen G E m x < k0 then 0 else eqR (fun t9 => vLet F G E ln m x t9) (fun t9 => bA f n (p + t9)) k0.toNat 0) = 1 from (by rw [if_neg hk]; exact h5.symm))) trivial sg_same d_Se_valueBegins_49
      · skip
        exfalso; omega
    | succ k ih =>
      intro i h1 h2 h4 h5
      refine jr_iload ok 0 d_Se_valueBegins_15 rfl ?_
      refine jr_iload ok 5 d_Se_valueBegins_17 rfl ?_
      refine jr_icmp_ge 48 ok ⟨by omega, by omega⟩ ⟨by omega, by omega⟩ d_Se_valueBegins_19 (by decide) (fun c4 => ?_) (fun c4 => ?_)
      · skip
        exfalso; omega
      · skip
        refine jr_aload_n ok 1 d_Se_valueBegins_22 rfl rfl ?_
        refine jr_iload_n ok 2 d_Se_valueBegins_23 rfl rfl ?_
        refine jr_iload ok 0 d_Se_valueBegins_24 rfl ?_
        refine jr_cV1 [0, 1, 2, 3] [4, 5] [ob D a 9 [.ref lb, .ref sb0, .ref gb, .ref eb, pt], ai D 1 lb ln F, ai D 0 gb m G, ai D 0 eb m E, ob D ta 11 [.ref tb, .int (ii n)], ai D 1 tb cap f] 0 0 ok hR m_Se_55 0 (c_Se_valueLetter (jx_l X) D a lb sb0 gb eb pt ln m F G E x i (by first | assumption | omega) (by first | assumption | omega) (by first | assumption | omega) (by first | assumption | omega) ⟨by omega, by omega⟩ ⟨by omega, by omega⟩ (by first | assumption | omega) (by first | assumption | omega) (by first | assumption | omega)) (List.isPerm_iff.mp rfl) rfl rfl rfl rfl rfl rfl rfl (Nat.le_of_ble_eq_true rfl) ⟨Nat.le_of_ble_eq_true rfl, Nat.le_of_ble_eq_true rfl⟩ rfl rfl ⟨Nat.le_of_ble_eq_true rfl, Nat.le_of_ble_eq_true rfl⟩ d_Se_valueBegins_26 (fun hx5 => ?_)
        have hx5 : -128 ≤ vLet F G E ln m x i ∧ vLet F G E ln m x i ≤ 127 := hx5
        refine jr_aload_n ok 3 d_Se_valueBegins_29 rfl rfl ?_
        refine jr_iload_n ok 4 d_Se_valueBegins_30 rfl rfl ?_
        refine jr_iload ok 0 d_Se_valueBegins_31 rfl ?_
        refine jr_iadd ok d_Se_valueBegins_33 ?_
        refine jr_cV1 [4, 5] [0, 1, 2, 3] [ob D ta 11 [.ref tb, .int (ii n)], ai D 1 tb cap f, ob D a 9 [.ref lb, .ref sb0, .ref gb, .ref eb, pt], ai D 1 lb ln F, ai D 0 gb m G, ai D 0 eb m E] 0 0 ok hR m_Se_47 4 (c_Tp_byteAt (jx_l X) D ta tb cap n f (p + i) (by first | assumption | omega) (by first | assumption | omega) (by first | assumption | omega) ⟨by omega, by omega⟩) (List.isPerm_iff.mp rfl) rfl rfl rfl rfl rfl rfl rfl (Nat.le_of_ble_eq_true rfl) ⟨Nat.le_of_ble_eq_true rfl, Nat.le_of_ble_eq_true rfl⟩ rfl rfl ⟨Nat.le_of_ble_eq_true rfl, Nat.le_of_ble_eq_true rfl⟩ d_Se_valueBegins_34 (fun _ => ?_)
        have hf6_0 := bA_R f n (p + i)
        refine jr_icmp_eq 42 ok ⟨by omega, by omega⟩ ⟨by omega, by omega⟩ d_Se_valueBegins_37 (by decide) (fun c7 => ?_) (fun c7 => ?_)
        · skip
          rw [eqR, if_pos c7] at h5
          refine jr_iinc [(5, .int (ii (i + 1))), (0, .ref a), (1, .int (ii x)), (2, .ref ta), (3, .int (ii p)), (4, .int (ii k0))] 0 ok d_Se_valueBegins_42 rfl (by rw [hN]; decide) rfl ?_
          refine jr_goto 15 ok d_Se_valueBegins_45 (by decide) ?_
          refine jr_pick (L' := [ob D a 9 [.ref lb, .ref sb0, .ref gb, .ref eb, pt], ai D 1 lb ln F, ai D 0 gb m G, ai D 0 eb m E, ob D ta 11 [.ref tb, .int (ii n)], ai D 1 tb cap f]) [2, 3, 4, 5, 0, 1] (List.isPerm_iff.mp rfl) rfl ?_
          exact jr_lv [0, 1, 2, 3, 4, 5] rfl (ih (i + 1) (by omega) (by omega) (by omega) h5)
        · skip
          rw [eqR, if_neg c7] at h5
          refine jr_iconst ok d_Se_valueBegins_40 ?_
          exact jr_zret ok (by decide +kernel) fin (Nat.le_refl _) (Nat.le_refl _) () (congrArg (fun z => Outcome.returned (some (Value.int (ii z)))) (show (if vLen G E m x < k0 then 0 else eqR (fun t9 => vLet F G E ln m x t9) (fun t9 => bA f n (p + t9)) k0.toNat 0) = 0 from (by rw [if_neg hk]; exact h5.symm))) trivial (sg_pick [2, 3, 4, 5, 0, 1] (List.isPerm_iff.mp rfl) rfl) d_Se_valueBegins_41
  refine jr_iload ok 4 d_Se_valueBegins_0 rfl ?_
  refine jr_aload_n ok 0 d_Se_valueBegins_2 rfl rfl ?_
  refine jr_iload_n ok 1 d_Se_valueBegins_3 rfl rfl ?_
  refine jr_cV1 [0, 2, 3] [1, 4, 5] [ob D a 9 [.ref lb, .ref sb0, .ref gb, .ref eb, pt], ai D 0 gb m G, ai D 0 eb m E, ai D 1 lb ln F, ob D ta 11 [.ref tb, .int (ii n)], ai D 1 tb cap f] 0 0 ok hR m_Se_52 0 (c_Se_valueLength (jx_l X) D a lb sb0 gb eb pt m G E x (by first | assumption | omega) (by first | assumption | omega) ⟨by omega, by omega⟩ (by first | assumption | omega) (by first | assumption | omega)) (List.isPerm_iff.mp rfl) rfl rfl rfl rfl rfl rfl rfl (Nat.le_of_ble_eq_true rfl) ⟨Nat.le_of_ble_eq_true rfl, Nat.le_of_ble_eq_true rfl⟩ rfl rfl ⟨Nat.le_of_ble_eq_true rfl, Nat.le_of_ble_eq_true rfl⟩ d_Se_valueBegins_4 (fun hx8 => ?_)
  have hx8 : -2000 ≤ vLen G E m x ∧ vLen G E m x ≤ 1000 := hx8
  refine jr_icmp_le 12 ok ⟨by omega, by omega⟩ ⟨by omega, by omega⟩ d_Se_valueBegins_7 (by decide) (fun c9 => ?_) (fun c9 => ?_)
  · skip
    refine jr_iconst ok d_Se_valueBegins_12 ?_
    refine jr_istore [(5, .int (ii 0)), (0, .ref a), (1, .int (ii x)), (2, .ref ta), (3, .int (ii p)), (4, .int (ii k0))] ok d_Se_valueBegins_13 (by rw [hN]; decide) rfl ?_
    refine jr_pick (L' := [ob D a 9 [.ref lb, .ref sb0, .ref gb, .ref eb, pt], ai D 1 lb ln F, ai D 0 gb m G, ai D 0 eb m E, ob D ta 11 [.ref tb, .int (ii n)], ai D 1 tb cap f]) [0, 3, 1, 2, 4, 5] (List.isPerm_iff.mp rfl) rfl ?_
    exact jr_lv [0, 1, 2, 3, 4, 5] rfl (lp _ 0 (by omega) (by omega) (by rw [Int.sub_zero]) rfl)
  · skip
    exfalso; omega

