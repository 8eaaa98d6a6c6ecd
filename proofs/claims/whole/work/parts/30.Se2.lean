/-- the first from a place on that is hit, or -1 -/
def fdR (h : Int → Int) : Nat → Int → Int
  | 0, _ => -1
  | k + 1, i => if h i = 1 then i else fdR h k (i + 1)
theorem fdR_R (h : Int → Int) : ∀ (k : Nat) (i : Int), 0 ≤ i → -1 ≤ fdR h k i ∧ fdR h k i < i + k ∨ fdR h k i = -1
  | 0, _, _ => Or.inr rfl
  | k + 1, i, hi => by
    unfold fdR
    split
    · left; omega
    · rcases fdR_R h k (i + 1) (by omega) with q | q
      · left; omega
      · exact Or.inr q
/-- label j has the name that stands on the tape -/
def nmH (S G F : Int → Int) (ln : Int) (g : Int → Int) (p k0 j : Int) : Int := if G j - S j = k0 then eqR (fun t9 => lA F ln (S j + t9)) (fun t9 => g (p + t9)) k0.toNat 0 else 0
/-- two rows of letters, one by one -/
def cvR (P Q : Int → Int) : Nat → Int → Int
  | 0, _ => 0
  | k + 1, i => if cmpI (P i) (Q i) = 0 then cvR P Q k (i + 1) else cmpI (P i) (Q i)
theorem cvR_R (P Q : Int → Int) : ∀ (k : Nat) (i : Int), -1 ≤ cvR P Q k i ∧ cvR P Q k i ≤ 1
  | 0, _ => by unfold cvR; omega
  | k + 1, i => by
    unfold cvR
    split
    · exact cvR_R P Q k (i + 1)
    · exact cmpI_R _ _

set_option maxHeartbeats 4000000 in
set_option maxRecDepth 100000 in
/-- Series.labelNamed -/
theorem c_Se_labelNamed (l : Launch) (D : jd_T) (a : Nat) (lb : Nat) (sb0 : Nat) (gb : Nat) (eb : Nat) (pt : Value) (ln : Int) (m : Int) (F : Int → Int) (S : Int → Int) (G : Int → Int) (ta : Nat) (tb : Nat) (cap : Int) (n : Int) (f : Int → Int) (p : Int) (k0 : Int) (hy0 : 0 ≤ ln) (hy1 : ln ≤ 1000) (hy2 : 0 ≤ m) (hy3 : m ≤ 6) (hy4 : ∀ j, -128 ≤ F j ∧ F j ≤ 127) (hy5 : ∀ j, 0 ≤ S j ∧ S j ≤ 1000) (hy6 : ∀ j, 0 ≤ G j ∧ G j ≤ 1000) (hy7 : 0 ≤ n) (hy8 : n ≤ cap) (hy9 : cap ≤ 1000000) (hy10 : -1000000 ≤ p ∧ p ≤ 1000000) (hy11 : -1000000 ≤ k0 ∧ k0 ≤ 1000000) : jc_C l D y_Se_labelNamed b_Se_labelNamed 5 (some .int) { frames := 2, cells := 0, slots := 0, locals := 46 } [.ref a, .ref ta, .int (ii p), .int (ii k0)] [ob D a 9 [.ref lb, .ref sb0, .ref gb, .ref eb, pt], ai D 1 lb ln F, ai D 0 sb0 m S, ai D 0 gb m G, ob D ta 11 [.ref tb, .int (ii n)], ai D 1 tb cap f] (fun _ : Unit => (.returned (some (.int (ii (fdR (nmH S G F ln (bA f n) p k0) m.toNat 0)))), True, [ob D a 9 [.ref lb, .ref sb0, .ref gb, .ref eb, pt], ai D 1 lb ln F, ai D 0 sb0 m S, ai D 0 gb m G, ob D ta 11 [.ref tb, .int (ii n)], ai D 1 tb cap f])) := by
  refine jc_of rfl (Nat.le_of_ble_eq_true rfl) ?_
  intro X hl hR hN ok hnm fin
  subst hl
  show jw X 0 0 [ob D a 9 [.ref lb, .ref sb0, .ref gb, .ref eb, pt], ai D 1 lb ln F, ai D 0 sb0 m S, ai D 0 gb m G, ob D ta 11 [.ref tb, .int (ii n)], ai D 1 tb cap f] [(0, .ref a), (1, .ref ta), (2, .int (ii p)), (3, .int (ii k0))] 0 []
  have lp : ∀ (k : Nat) (i : Int), 0 ≤ i → i ≤ 2000000 → (m - i).toNat = k → fdR (nmH S G F ln (bA f n) p k0) k i = fdR (nmH S G F ln (bA f n) p k0) (m).toNat 0 → jw X 0 0 [ob D a 9 [.ref lb, .ref sb0, .ref gb, .ref eb, pt], ai D 1 lb ln F, ai D 0 sb0 m S, ai D 0 gb m G, ob D ta 11 [.ref tb, .int (ii n)], ai D 1 tb cap f] [(4, .int (ii i)), (0, .ref a), (1, .ref ta), (2, .int (ii p)), (3, .int (ii k0))] 3 [] := by
    intro k
    induction k with
    | zero =>
      intro i h1 h2 h4 h5
      refine jr_iload ok 0 d_Se_labelNamed_3 rfl ?_
      refine jr_aload_n ok 1 d_Se_labelNamed_5 rfl rfl ?_
      refine jr_get ok 0 f_Se_22 rfl rfl d_Se_labelNamed_6 ?_
      refine jr_alen_i ok 2 rfl rfl d_Se_labelNamed_9 ?_
      refine jr_icmp_ge 68 ok ⟨by omega, by omega⟩ ⟨by omega, by omega⟩ d_Se_labelNamed_10 (by decide) (fun c1 => ?_) (fun c1 => ?_)
      · skip
        refine jr_iconst ok d_Se_labelNamed_68 ?_
        exact jr_iret ok fin (Nat.le_refl _) (Nat.le_refl _) () (congrArg (fun z => Outcome.returned (some (Value.int (ii z)))) (show (fdR (nmH S G F ln (bA f n) p k0) m.toNat 0) = -1 from h5.symm)) trivial sg_same d_Se_labelNamed_69
      · skip
        exfalso; omega
    | succ k ih =>
      intro i h1 h2 h4 h5
      refine jr_iload ok 0 d_Se_labelNamed_3 rfl ?_
      refine jr_aload_n ok 1 d_Se_labelNamed_5 rfl rfl ?_
      refine jr_get ok 0 f_Se_22 rfl rfl d_Se_labelNamed_6 ?_
      refine jr_alen_i ok 2 rfl rfl d_Se_labelNamed_9 ?_
      refine jr_icmp_ge 68 ok ⟨by omega, by omega⟩ ⟨by omega, by omega⟩ d_Se_labelNamed_10 (by decide) (fun c2 => ?_) (fun c2 => ?_)
      · skip
        exfalso; omega
      · skip
        refine jr_iload ok 0 d_Se_labelNamed_13 rfl ?_
        refine jr_aload_n ok 1 d_Se_labelNamed_15 rfl rfl ?_
        refine jr_get ok 0 f_Se_26 rfl rfl d_Se_labelNamed_16 ?_
        refine jr_alen_i ok 3 rfl rfl d_Se_labelNamed_19 ?_
        refine jr_icmp_ge 68 ok ⟨by omega, by omega⟩ ⟨by omega, by omega⟩ d_Se_labelNamed_20 (by decide) (fun c3 => ?_) (fun c3 => ?_)
        · skip
          exfalso; omega
        · skip
          have hgi := hy6 i
          have hsi := hy5 i
          refine jr_aload_n ok 1 d_Se_labelNamed_23 rfl rfl ?_
          refine jr_get ok 0 f_Se_26 rfl rfl d_Se_labelNamed_24 ?_
          refine jr_iload ok 0 d_Se_labelNamed_27 rfl ?_
          refine jr_iald ok 3 rfl rfl (by omega) (by omega) d_Se_labelNamed_29 ?_
          refine jr_aload_n ok 1 d_Se_labelNamed_30 rfl rfl ?_
          refine jr_get ok 0 f_Se_22 rfl rfl d_Se_labelNamed_31 ?_
          refine jr_iload ok 0 d_Se_labelNamed_34 rfl ?_
          refine jr_iald ok 2 rfl rfl (by omega) (by omega) d_Se_labelNamed_36 ?_
          refine jr_isub ok d_Se_labelNamed_37 ?_
          refine jr_iload_n ok 4 d_Se_labelNamed_38 rfl rfl ?_
          refine jr_icmp_ne 62 ok ⟨by omega, by omega⟩ ⟨by omega, by omega⟩ d_Se_labelNamed_39 (by decide) (fun c4 => ?_) (fun c4 => ?_)
          · skip
            rw [fdR, if_neg (by unfold nmH; rw [if_neg c4]; decide)] at h5
            refine jr_iinc [(4, .int (ii (i + 1))), (0, .ref a), (1, .ref ta), (2, .int (ii p)), (3, .int (ii k0))] 0 ok d_Se_labelNamed_62 rfl (by rw [hN]; decide) rfl ?_
            refine jr_goto 3 ok d_Se_labelNamed_65 (by decide) ?_
            exact jr_lv [0, 1, 2, 3, 4] rfl (ih (i + 1) (by omega) (by omega) (by omega) h5)
          · skip
            have c39 := c4
            refine jr_aload_n ok 1 d_Se_labelNamed_42 rfl rfl ?_
            refine jr_aload_n ok 1 d_Se_labelNamed_43 rfl rfl ?_
            refine jr_get ok 0 f_Se_22 rfl rfl d_Se_labelNamed_44 ?_
            refine jr_iload ok 0 d_Se_labelNamed_47 rfl ?_
            refine jr_iald ok 2 rfl rfl (by omega) (by omega) d_Se_labelNamed_49 ?_
            refine jr_aload_n ok 2 d_Se_labelNamed_50 rfl rfl ?_
            refine jr_iload_n ok 3 d_Se_labelNamed_51 rfl rfl ?_
            refine jr_iload_n ok 4 d_Se_labelNamed_52 rfl rfl ?_
            refine jr_cV1 [0, 1, 4, 5] [2, 3] [ob D a 9 [.ref lb, .ref sb0, .ref gb, .ref eb, pt], ai D 1 lb ln F, ob D ta 11 [.ref tb, .int (ii n)], ai D 1 tb cap f, ai D 0 sb0 m S, ai D 0 gb m G] 0 0 ok hR m_Se_42 0 (c_Se_isOnTape (jx_l X) D a lb sb0 gb eb pt ln F ta tb cap n f (S i) p k0 (by first | assumption | omega) (by first | assumption | omega) (by first | assumption | omega) (by first | assumption | omega) (by first | assumption | omega) (by first | assumption | omega) (by first | assumption | omega) (by first | assumption | omega) (by first | assumption | omega)) (List.isPerm_iff.mp rfl) rfl rfl rfl rfl rfl rfl rfl (Nat.le_of_ble_eq_true rfl) ⟨Nat.le_of_ble_eq_true rfl, Nat.le_of_ble_eq_true rfl⟩ rfl rfl ⟨Nat.le_of_ble_eq_true rfl, Nat.le_of_ble_eq_true rfl⟩ d_Se_labelNamed_53 (fun _ => ?_)
            have hf5_0 := eqR_01 (fun t9 => lA F ln ((S i) + t9)) (fun t9 => bA f n (p + t9)) k0.toNat 0
            refine jr_if_eq 62 ok ⟨by omega, by omega⟩ d_Se_labelNamed_56 (by decide) (fun c6 => ?_) (fun c6 => ?_)
            · skip
              rw [fdR, if_neg (by unfold nmH; rw [if_pos c39, c6]; decide)] at h5
              refine jr_iinc [(4, .int (ii (i + 1))), (0, .ref a), (1, .ref ta), (2, .int (ii p)), (3, .int (ii k0))] 0 ok d_Se_labelNamed_62 rfl (by rw [hN]; decide) rfl ?_
              refine jr_goto 3 ok d_Se_labelNamed_65 (by decide) ?_
              refine jr_pick (L' := [ob D a 9 [.ref lb, .ref sb0, .ref gb, .ref eb, pt], ai D 1 lb ln F, ai D 0 sb0 m S, ai D 0 gb m G, ob D ta 11 [.ref tb, .int (ii n)], ai D 1 tb cap f]) [0, 1, 4, 5, 2, 3] (List.isPerm_iff.mp rfl) rfl ?_
              exact jr_lv [0, 1, 2, 3, 4] rfl (ih (i + 1) (by omega) (by omega) (by omega) h5)
            · skip
              rw [fdR, if_pos (by unfold nmH; rw [if_pos c39]; omega)] at h5
              refine jr_iload ok 0 d_Se_labelNamed_59 rfl ?_
              exact jr_iret ok fin (Nat.le_refl _) (Nat.le_refl _) () (congrArg (fun z => Outcome.returned (some (Value.int (ii z)))) (show (fdR (nmH S G F ln (bA f n) p k0) m.toNat 0) = i from h5.symm)) trivial (sg_pick [0, 1, 4, 5, 2, 3] (List.isPerm_iff.mp rfl) rfl) d_Se_labelNamed_61
  refine jr_iconst ok d_Se_labelNamed_0 ?_
  refine jr_istore [(4, .int (ii 0)), (0, .ref a), (1, .ref ta), (2, .int (ii p)), (3, .int (ii k0))] ok d_Se_labelNamed_1 (by rw [hN]; decide) rfl ?_
  exact jr_lv [0, 1, 2, 3, 4] rfl (lp _ 0 (by omega) (by omega) (by rw [Int.sub_zero]) rfl)

set_option maxHeartbeats 4000000 in
set_option maxRecDepth 100000 in
/-- Series.compareValue -/
theorem c_Se_compareValue (l : Launch) (D : jd_T) (a : Nat) (lb : Nat) (sb0 : Nat) (gb : Nat) (eb : Nat) (pt : Value) (ln : Int) (m : Int) (F : Int → Int) (G : Int → Int) (E : Int → Int) (a2 : Nat) (lb2 : Nat) (sb02 : Nat) (gb2 : Nat) (eb2 : Nat) (pt2 : Value) (ln2 : Int) (m2 : Int) (F2 : Int → Int) (G2 : Int → Int) (E2 : Int → Int) (x : Int) (y : Int) (hy0 : 0 ≤ ln) (hy1 : ln ≤ 1000) (hy2 : 0 ≤ m) (hy3 : m ≤ 6) (hy4 : ∀ j, 0 ≤ G j ∧ G j ≤ 1000) (hy5 : ∀ j, 0 ≤ E j ∧ E j ≤ 1000) (hy6 : ∀ j, -128 ≤ F j ∧ F j ≤ 127) (hy7 : 0 ≤ ln2) (hy8 : ln2 ≤ 1000) (hy9 : 0 ≤ m2) (hy10 : m2 ≤ 6) (hy11 : ∀ j, 0 ≤ G2 j ∧ G2 j ≤ 1000) (hy12 : ∀ j, 0 ≤ E2 j ∧ E2 j ≤ 1000) (hy13 : ∀ j, -128 ≤ F2 j ∧ F2 j ≤ 127) (hy14 : iR x) (hy15 : iR y) : jc_C l D y_Se_compareValue b_Se_compareValue 7 (some .int) { frames := 2, cells := 0, slots := 0, locals := 43 } [.ref a, .int (ii x), .ref a2, .int (ii y)] [ob D a 9 [.ref lb, .ref sb0, .ref gb, .ref eb, pt], ai D 1 lb ln F, ai D 0 gb m G, ai D 0 eb m E, ob D a2 9 [.ref lb2, .ref sb02, .ref gb2, .ref eb2, pt2], ai D 1 lb2 ln2 F2, ai D 0 gb2 m2 G2, ai D 0 eb2 m2 E2] (fun _ : Unit => (.returned (some (.int (ii (cvR (fun t9 => vLet F G E ln m x t9) (fun t9 => vLet F2 G2 E2 ln2 m2 y t9) (max (vLen G E m x) (vLen G2 E2 m2 y)).toNat 0)))), True, [ob D a 9 [.ref lb, .ref sb0, .ref gb, .ref eb, pt], ai D 1 lb ln F, ai D 0 gb m G, ai D 0 eb m E, ob D a2 9 [.ref lb2, .ref sb02, .ref gb2, .ref eb2, pt2], ai D 1 lb2 ln2 F2, ai D 0 gb2 m2 G2, ai D 0 eb2 m2 E2])) := by
  refine jc_of rfl (Nat.le_of_ble_eq_true rfl) ?_
  intro X hl hR hN ok hnm fin
  subst hl
  show jw X 0 0 [ob D a 9 [.ref lb, .ref sb0, .ref gb, .ref eb, pt], ai D 1 lb ln F, ai D 0 gb m G, ai D 0 eb m E, ob D a2 9 [.ref lb2, .ref sb02, .ref gb2, .ref eb2, pt2], ai D 1 lb2 ln2 F2, ai D 0 gb2 m2 G2, ai D 0 eb2 m2 E2] [(0, .ref a), (1, .int (ii x)), (2, .ref a2), (3, .int (ii y))] 0 []
  have hv1 := vLen_R m x hy4 hy5
  have hv2 := vLen_R m2 y hy11 hy12
  have lp : ∀ (k : Nat) (i : Int), 0 ≤ i → i ≤ 2000000 → (max (vLen G E m x) (vLen G2 E2 m2 y) - i).toNat = k → cvR (fun t9 => vLet F G E ln m x t9) (fun t9 => vLet F2 G2 E2 ln2 m2 y t9) k i = cvR (fun t9 => vLet F G E ln m x t9) (fun t9 => vLet F2 G2 E2 ln2 m2 y t9) (max (vLen G E m x) (vLen G2 E2 m2 y)).toNat 0 → jw X 0 0 [ob D a 9 [.ref lb, .ref sb0, .ref gb, .ref eb, pt], ai D 1 lb ln F, ai D 0 gb m G, ai D 0 eb m E, ob D a2 9 [.ref lb2, .ref sb02, .ref gb2, .ref eb2, pt2], ai D 1 lb2 ln2 F2, ai D 0 gb2 m2 G2, ai D 0 eb2 m2 E2] [(5, .int (ii i)), (4, .int (ii (max (vLen G E m x) (vLen G2 E2 m2 y)))), (0, .ref a), (1, .int (ii x)), (2, .ref a2), (3, .int (ii y))] 18 [] := by
    intro k
    induction k with
    | zero =>
      intro i h1 h2 h4 h5
      refine jr_iload ok 0 d_Se_compareValue_18 rfl ?_
      refine jr_iload ok 1 d_Se_compareValue_20 rfl ?_
      refine jr_icmp_ge 58 ok ⟨by omega, by omega⟩ ⟨by omega, by omega⟩ d_Se_compareValue_22 (by decide) (fun c1 => ?_) (fun c1 => ?_)
      · skip
        refine jr_iconst ok d_Se_compareValue_58 ?_
        exact jr_iret ok fin (Nat.le_refl _) (Nat.le_refl _) () (congrArg (fun z => Outcome.returned (some (Value.int (ii z)))) (show (cvR (fun t9 => vLet F G E ln m x t9) (fun t9 => vLet F2 G2 E2 ln2 m2 y t9) (max (vLen G E m x) (vLen G2 E2 m2 y)).toNat 0) = 0 from h5.symm)) trivial sg_same d_Se_compareValue_59
      · skip
        exfalso; omega
    | succ k ih =>
      intro i h1 h2 h4 h5
      refine jr_iload ok 0 d_Se_compareValue_18 rfl ?_
      refine jr_iload ok 1 d_Se_compareValue_20 rfl ?_
      refine jr_icmp_ge 58 ok ⟨by omega, by omega⟩ ⟨by omega, by omega⟩ d_Se_compareValue_22 (by decide) (fun c2 => ?_) (fun c2 => ?_)
      · skip
        exfalso; omega
      · skip
        refine jr_aload_n ok 2 d_Se_compareValue_25 rfl rfl ?_
        refine jr_iload_n ok 3 d_Se_compareValue_26 rfl rfl ?_
        refine jr_iload ok 0 d_Se_compareValue_27 rfl ?_
        refine jr_cV1 [0, 1, 2, 3] [4, 5, 6, 7] [ob D a 9 [.ref lb, .ref sb0, .ref gb, .ref eb, pt], ai D 1 lb ln F, ai D 0 gb m G, ai D 0 eb m E, ob D a2 9 [.ref lb2, .ref sb02, .ref gb2, .ref eb2, pt2], ai D 1 lb2 ln2 F2, ai D 0 gb2 m2 G2, ai D 0 eb2 m2 E2] 0 0 ok hR m_Se_55 0 (c_Se_valueLetter (jx_l X) D a lb sb0 gb eb pt ln m F G E x i (by first | assumption | omega) (by first | assumption | omega) (by first | assumption | omega) (by first | assumption | omega) ⟨by omega, by omega⟩ ⟨by omega, by omega⟩ (by first | assumption | omega) (by first | assumption | omega) (by first | assumption | omega)) (List.isPerm_iff.mp rfl) rfl rfl rfl rfl rfl rfl rfl (Nat.le_of_ble_eq_true rfl) ⟨Nat.le_of_ble_eq_true rfl, Nat.le_of_ble_eq_true rfl⟩ rfl rfl ⟨Nat.le_of_ble_eq_true rfl, Nat.le_of_ble_eq_true rfl⟩ d_Se_compareValue_29 (fun hx3 => ?_)
        have hx3 : -128 ≤ vLet F G E ln m x i ∧ vLet F G E ln m x i ≤ 127 := hx3
        refine jr_aload_n ok 4 d_Se_compareValue_32 rfl rfl ?_
        refine jr_iload_n ok 5 d_Se_compareValue_33 rfl rfl ?_
        refine jr_iload ok 0 d_Se_compareValue_34 rfl ?_
        refine jr_cV1 [4, 5, 6, 7] [0, 1, 2, 3] [ob D a2 9 [.ref lb2, .ref sb02, .ref gb2, .ref eb2, pt2], ai D 1 lb2 ln2 F2, ai D 0 gb2 m2 G2, ai D 0 eb2 m2 E2, ob D a 9 [.ref lb, .ref sb0, .ref gb, .ref eb, pt], ai D 1 lb ln F, ai D 0 gb m G, ai D 0 eb m E] 0 0 ok hR m_Se_55 4 (c_Se_valueLetter (jx_l X) D a2 lb2 sb02 gb2 eb2 pt2 ln2 m2 F2 G2 E2 y i (by first | assumption | omega) (by first | assumption | omega) (by first | assumption | omega) (by first | assumption | omega) ⟨by omega, by omega⟩ ⟨by omega, by omega⟩ (by first | assumption | omega) (by first | assumption | omega) (by first | assumption | omega)) (List.isPerm_iff.mp rfl) rfl rfl rfl rfl rfl rfl rfl (Nat.le_of_ble_eq_true rfl) ⟨Nat.le_of_ble_eq_true rfl, Nat.le_of_ble_eq_true rfl⟩ rfl rfl ⟨Nat.le_of_ble_eq_true rfl, Nat.le_of_ble_eq_true rfl⟩ d_Se_compareValue_36 (fun hx4 => ?_)
        have hx4 : -128 ≤ vLet F2 G2 E2 ln2 m2 y i ∧ vLet F2 G2 E2 ln2 m2 y i ≤ 127 := hx4
        refine jr_cS1 [] [0, 1, 2, 3, 4, 5, 6, 7] [ob D a2 9 [.ref lb2, .ref sb02, .ref gb2, .ref eb2, pt2], ai D 1 lb2 ln2 F2, ai D 0 gb2 m2 G2, ai D 0 eb2 m2 E2, ob D a 9 [.ref lb, .ref sb0, .ref gb, .ref eb, pt], ai D 1 lb ln F, ai D 0 gb m G, ai D 0 eb m E] 0 0 ok hR m_Se_64 (c_Icmp (jx_l X) D (vLet F G E ln m x i) (vLet F2 G2 E2 ln2 m2 y i) ⟨by omega, by omega⟩ ⟨by omega, by omega⟩) (List.isPerm_iff.mp rfl) rfl rfl rfl rfl rfl (Nat.le_of_ble_eq_true rfl) ⟨Nat.le_of_ble_eq_true rfl, Nat.le_of_ble_eq_true rfl⟩ rfl rfl ⟨Nat.le_of_ble_eq_true rfl, Nat.le_of_ble_eq_true rfl⟩ d_Se_compareValue_39 (fun _ => ?_)
        have hf5_0 := cmpI_R (vLet F G E ln m x i) (vLet F2 G2 E2 ln2 m2 y i)
        refine jr_istore [(6, .int (ii (cmpI (vLet F G E ln m x i) (vLet F2 G2 E2 ln2 m2 y i)))), (5, .int (ii i)), (4, .int (ii (max (vLen G E m x) (vLen G2 E2 m2 y)))), (0, .ref a), (1, .int (ii x)), (2, .ref a2), (3, .int (ii y))] ok d_Se_compareValue_42 (by rw [hN]; decide) rfl ?_
        refine jr_iload ok 0 d_Se_compareValue_44 rfl ?_
        refine jr_if_eq 52 ok ⟨by omega, by omega⟩ d_Se_compareValue_46 (by decide) (fun c6 => ?_) (fun c6 => ?_)
        · skip
          rw [cvR, if_pos c6] at h5
          refine jr_iinc [(5, .int (ii (i + 1))), (6, .int (ii (cmpI (vLet F G E ln m x i) (vLet F2 G2 E2 ln2 m2 y i)))), (4, .int (ii (max (vLen G E m x) (vLen G2 E2 m2 y)))), (0, .ref a), (1, .int (ii x)), (2, .ref a2), (3, .int (ii y))] 1 ok d_Se_compareValue_52 rfl (by rw [hN]; decide) rfl ?_
          refine jr_goto 18 ok d_Se_compareValue_55 (by decide) ?_
          refine jr_pick (L' := [ob D a 9 [.ref lb, .ref sb0, .ref gb, .ref eb, pt], ai D 1 lb ln F, ai D 0 gb m G, ai D 0 eb m E, ob D a2 9 [.ref lb2, .ref sb02, .ref gb2, .ref eb2, pt2], ai D 1 lb2 ln2 F2, ai D 0 gb2 m2 G2, ai D 0 eb2 m2 E2]) [4, 5, 6, 7, 0, 1, 2, 3] (List.isPerm_iff.mp rfl) rfl ?_
          exact jr_lv [0, 2, 3, 4, 5, 6] rfl (ih (i + 1) (by omega) (by omega) (by omega) h5)
        · skip
          rw [cvR, if_neg c6] at h5
          refine jr_iload ok 0 d_Se_compareValue_49 rfl ?_
          exact jr_iret ok fin (Nat.le_refl _) (Nat.le_refl _) () (congrArg (fun z => Outcome.returned (some (Value.int (ii z)))) (show (cvR (fun t9 => vLet F G E ln m x t9) (fun t9 => vLet F2 G2 E2 ln2 m2 y t9) (max (vLen G E m x) (vLen G2 E2 m2 y)).toNat 0) = cmpI (vLet F G E ln m x i) (vLet F2 G2 E2 ln2 m2 y i) from h5.symm)) trivial (sg_pick [4, 5, 6, 7, 0, 1, 2, 3] (List.isPerm_iff.mp rfl) rfl) d_Se_compareValue_51
  refine jr_aload_n ok 0 d_Se_compareValue_0 rfl rfl ?_
  refine jr_iload_n ok 1 d_Se_compareValue_1 rfl rfl ?_
  refine jr_cV1 [0, 2, 3] [1, 4, 5, 6, 7] [ob D a 9 [.ref lb, .ref sb0, .ref gb, .ref eb, pt], ai D 0 gb m G, ai D 0 eb m E, ai D 1 lb ln F, ob D a2 9 [.ref lb2, .ref sb02, .ref gb2, .ref eb2, pt2], ai D 1 lb2 ln2 F2, ai D 0 gb2 m2 G2, ai D 0 eb2 m2 E2] 0 0 ok hR m_Se_52 0 (c_Se_valueLength (jx_l X) D a lb sb0 gb eb pt m G E x (by first | assumption | omega) (by first | assumption | omega) ⟨by omega, by omega⟩ (by first | assumption | omega) (by first | assumption | omega)) (List.isPerm_iff.mp rfl) rfl rfl rfl rfl rfl rfl rfl (Nat.le_of_ble_eq_true rfl) ⟨Nat.le_of_ble_eq_true rfl, Nat.le_of_ble_eq_true rfl⟩ rfl rfl ⟨Nat.le_of_ble_eq_true rfl, Nat.le_of_ble_eq_true rfl⟩ d_Se_compareValue_2 (fun hx7 => ?_)
  have hx7 : -2000 ≤ vLen G E m x ∧ vLen G E m x ≤ 1000 := hx7
  refine jr_aload_n ok 2 d_Se_compareValue_5 rfl rfl ?_
  refine jr_iload_n ok 3 d_Se_compareValue_6 rfl rfl ?_
  refine jr_cV1 [4, 6, 7] [0, 1, 2, 3, 5] [ob D a2 9 [.ref lb2, .ref sb02, .ref gb2, .ref eb2, pt2], ai D 0 gb2 m2 G2, ai D 0 eb2 m2 E2, ob D a 9 [.ref lb, .ref sb0, .ref gb, .ref eb, pt], ai D 0 gb m G, ai D 0 eb m E, ai D 1 lb ln F, ai D 1 lb2 ln2 F2] 0 0 ok hR m_Se_52 4 (c_Se_valueLength (jx_l X) D a2 lb2 sb02 gb2 eb2 pt2 m2 G2 E2 y (by first | assumption | omega) (by first | assumption | omega) ⟨by omega, by omega⟩ (by first | assumption | omega) (by first | assumption | omega)) (List.isPerm_iff.mp rfl) rfl rfl rfl rfl rfl rfl rfl (Nat.le_of_ble_eq_true rfl) ⟨Nat.le_of_ble_eq_true rfl, Nat.le_of_ble_eq_true rfl⟩ rfl rfl ⟨Nat.le_of_ble_eq_true rfl, Nat.le_of_ble_eq_true rfl⟩ d_Se_compareValue_7 (fun hx8 => ?_)
  have hx8 : -2000 ≤ vLen G2 E2 m2 y ∧ vLen G2 E2 m2 y ≤ 1000 := hx8
  refine jr_imax ok w_1067 w_657 w_17 w_658 ⟨by omega, by omega⟩ ⟨by omega, by omega⟩ hR ⟨Nat.le_of_ble_eq_true rfl, Nat.le_of_ble_eq_true rfl⟩ ⟨Nat.zero_le _, Nat.zero_le _⟩ (Nat.le_of_ble_eq_true rfl) d_Se_compareValue_10 ?_
  refine jr_istore [(4, .int (ii (max (vLen G E m x) (vLen G2 E2 m2 y)))), (0, .ref a), (1, .int (ii x)), (2, .ref a2), (3, .int (ii y))] ok d_Se_compareValue_13 (by rw [hN]; decide) rfl ?_
  refine jr_iconst ok d_Se_compareValue_15 ?_
  refine jr_istore [(5, .int (ii 0)), (4, .int (ii (max (vLen G E m x) (vLen G2 E2 m2 y)))), (0, .ref a), (1, .int (ii x)), (2, .ref a2), (3, .int (ii y))] ok d_Se_compareValue_16 (by rw [hN]; decide) rfl ?_
  refine jr_pick (L' := [ob D a 9 [.ref lb, .ref sb0, .ref gb, .ref eb, pt], ai D 1 lb ln F, ai D 0 gb m G, ai D 0 eb m E, ob D a2 9 [.ref lb2, .ref sb02, .ref gb2, .ref eb2, pt2], ai D 1 lb2 ln2 F2, ai D 0 gb2 m2 G2, ai D 0 eb2 m2 E2]) [3, 6, 4, 5, 0, 7, 1, 2] (List.isPerm_iff.mp rfl) rfl ?_
  exact jr_lv [0, 1, 2, 3, 4, 5] rfl (lp _ 0 (by omega) (by omega) (by rw [Int.sub_zero]) rfl)

