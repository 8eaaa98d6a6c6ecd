theorem w_726 : (Jvm.Cond.methodLink "WindowTables$Points" (53 : Nat) ({ cls := "java/lang/System", name := "arraycopy", desc := "(Ljava/lang/Object;ILjava/lang/Object;II)V" } : Jvm.MethodName)) ∈ jw_all := jw_in4 6 rfl rfl
/-- a point's time, its value; what stands behind the last one -/
def tAt (T : Int → Int64) (n i : Int) : Int64 := if 0 ≤ i ∧ i < n then T i else ll (-1)
def vAt (V : Int → Int64) (n i : Int) : Int64 := if 0 ≤ i ∧ i < n then V i else ll 0
/-- times rise -/
def tUp (T : Int → Int64) (n : Int) : Prop := ∀ i j, 0 ≤ i → i < j → j < n → (T i).toInt < (T j).toInt
/-- the first place from a time on -/
def tFrom (T : Int → Int64) (n time r : Int) : Prop := 0 ≤ r ∧ r ≤ n ∧ (∀ j, 0 ≤ j → j < r → (T j).toInt < time) ∧ (∀ j, r ≤ j → j < n → time ≤ (T j).toInt)

set_option maxHeartbeats 4000000 in
set_option maxRecDepth 100000 in
/-- Points.timeAt -/
theorem c_Pt_timeAt (l : Launch) (D : jd_T) (a : Nat) (tb : Nat) (vb : Nat) (n : Int) (pk : Int) (last : Int) (cap : Int) (T : Int → Int64) (V : Int → Int64) (i : Int) (hy0 : 0 ≤ n) (hy1 : n ≤ cap) (hy2 : cap ≤ 1000000) (hy3 : iR i) : jc_C l D y_Pt_timeAt b_Pt_timeAt 2 (some .long) { frames := 0, cells := 0, slots := 0, locals := 0 } [.ref a, .int (ii i)] [ob D a 6 [.ref tb, .ref vb, .int (ii n), .int (ii pk), .long (ll last)], al D 2 tb cap T, al D 2 vb cap V] (fun _ : Unit => (.returned (some (.long (tAt T n i))), True, [ob D a 6 [.ref tb, .ref vb, .int (ii n), .int (ii pk), .long (ll last)], al D 2 tb cap T, al D 2 vb cap V])) := by
  refine jc_of rfl (Nat.le_of_ble_eq_true rfl) ?_
  intro X hl hR hN ok hnm fin
  subst hl
  show jw X 0 0 [ob D a 6 [.ref tb, .ref vb, .int (ii n), .int (ii pk), .long (ll last)], al D 2 tb cap T, al D 2 vb cap V] [(0, .ref a), (1, .int (ii i))] 0 []
  refine jr_iload_n ok 1 d_Pt_timeAt_0 rfl rfl ?_
  refine jr_if_lt 21 ok ⟨by omega, by omega⟩ d_Pt_timeAt_1 (by decide) (fun c1 => ?_) (fun c1 => ?_)
  · skip
    refine jr_ldc2 (z := -1) ok w_531 (by decide +kernel) d_Pt_timeAt_21 ?_
    exact jr_lret ok fin (Nat.le_refl _) (Nat.le_refl _) () (congrArg (fun z => Outcome.returned (some (Value.long z))) (show tAt T n i = ll (-1) from (by unfold tAt; rw [if_neg (by omega)]))) trivial sg_same d_Pt_timeAt_24
  · skip
    refine jr_iload_n ok 1 d_Pt_timeAt_4 rfl rfl ?_
    refine jr_aload_n ok 0 d_Pt_timeAt_5 rfl rfl ?_
    refine jr_get ok 0 f_Pt_24 rfl rfl d_Pt_timeAt_6 ?_
    refine jr_icmp_ge 21 ok ⟨by omega, by omega⟩ ⟨by omega, by omega⟩ d_Pt_timeAt_9 (by decide) (fun c2 => ?_) (fun c2 => ?_)
    · skip
      refine jr_ldc2 (z := -1) ok w_531 (by decide +kernel) d_Pt_timeAt_21 ?_
      exact jr_lret ok fin (Nat.le_refl _) (Nat.le_refl _) () (congrArg (fun z => Outcome.returned (some (Value.long z))) (show tAt T n i = ll (-1) from (by unfold tAt; rw [if_neg (by omega)]))) trivial sg_same d_Pt_timeAt_24
    · skip
      refine jr_aload_n ok 0 d_Pt_timeAt_12 rfl rfl ?_
      refine jr_get ok 0 f_Pt_9 rfl rfl d_Pt_timeAt_13 ?_
      refine jr_iload_n ok 1 d_Pt_timeAt_16 rfl rfl ?_
      refine jr_lald ok 1 rfl rfl (by omega) (by omega) d_Pt_timeAt_17 ?_
      refine jr_goto 24 ok d_Pt_timeAt_18 (by decide) ?_
      exact jr_lret ok fin (Nat.le_refl _) (Nat.le_refl _) () (congrArg (fun z => Outcome.returned (some (Value.long z))) (show tAt T n i = T i from (by unfold tAt; rw [if_pos (by omega)]))) trivial sg_same d_Pt_timeAt_24

set_option maxHeartbeats 4000000 in
set_option maxRecDepth 100000 in
/-- Points.valueAt -/
theorem c_Pt_valueAt (l : Launch) (D : jd_T) (a : Nat) (tb : Nat) (vb : Nat) (n : Int) (pk : Int) (last : Int) (cap : Int) (T : Int → Int64) (V : Int → Int64) (i : Int) (hy0 : 0 ≤ n) (hy1 : n ≤ cap) (hy2 : cap ≤ 1000000) (hy3 : iR i) : jc_C l D y_Pt_valueAt b_Pt_valueAt 2 (some .long) { frames := 0, cells := 0, slots := 0, locals := 0 } [.ref a, .int (ii i)] [ob D a 6 [.ref tb, .ref vb, .int (ii n), .int (ii pk), .long (ll last)], al D 2 tb cap T, al D 2 vb cap V] (fun _ : Unit => (.returned (some (.long (vAt V n i))), True, [ob D a 6 [.ref tb, .ref vb, .int (ii n), .int (ii pk), .long (ll last)], al D 2 tb cap T, al D 2 vb cap V])) := by
  refine jc_of rfl (Nat.le_of_ble_eq_true rfl) ?_
  intro X hl hR hN ok hnm fin
  subst hl
  show jw X 0 0 [ob D a 6 [.ref tb, .ref vb, .int (ii n), .int (ii pk), .long (ll last)], al D 2 tb cap T, al D 2 vb cap V] [(0, .ref a), (1, .int (ii i))] 0 []
  refine jr_iload_n ok 1 d_Pt_valueAt_0 rfl rfl ?_
  refine jr_if_lt 21 ok ⟨by omega, by omega⟩ d_Pt_valueAt_1 (by decide) (fun c1 => ?_) (fun c1 => ?_)
  · skip
    refine jr_lconst (z := 0) ok d_Pt_valueAt_21 (by decide +kernel) ?_
    exact jr_lret ok fin (Nat.le_refl _) (Nat.le_refl _) () (congrArg (fun z => Outcome.returned (some (Value.long z))) (show vAt V n i = ll 0 from (by unfold vAt; rw [if_neg (by omega)]))) trivial sg_same d_Pt_valueAt_22
  · skip
    refine jr_iload_n ok 1 d_Pt_valueAt_4 rfl rfl ?_
    refine jr_aload_n ok 0 d_Pt_valueAt_5 rfl rfl ?_
    refine jr_get ok 0 f_Pt_24 rfl rfl d_Pt_valueAt_6 ?_
    refine jr_icmp_ge 21 ok ⟨by omega, by omega⟩ ⟨by omega, by omega⟩ d_Pt_valueAt_9 (by decide) (fun c2 => ?_) (fun c2 => ?_)
    · skip
      refine jr_lconst (z := 0) ok d_Pt_valueAt_21 (by decide +kernel) ?_
      exact jr_lret ok fin (Nat.le_refl _) (Nat.le_refl _) () (congrArg (fun z => Outcome.returned (some (Value.long z))) (show vAt V n i = ll 0 from (by unfold vAt; rw [if_neg (by omega)]))) trivial sg_same d_Pt_valueAt_22
    · skip
      refine jr_aload_n ok 0 d_Pt_valueAt_12 rfl rfl ?_
      refine jr_get ok 0 f_Pt_15 rfl rfl d_Pt_valueAt_13 ?_
      refine jr_iload_n ok 1 d_Pt_valueAt_16 rfl rfl ?_
      refine jr_lald ok 2 rfl rfl (by omega) (by omega) d_Pt_valueAt_17 ?_
      refine jr_goto 22 ok d_Pt_valueAt_18 (by decide) ?_
      exact jr_lret ok fin (Nat.le_refl _) (Nat.le_refl _) () (congrArg (fun z => Outcome.returned (some (Value.long z))) (show vAt V n i = V i from (by unfold vAt; rw [if_pos (by omega)]))) trivial sg_same d_Pt_valueAt_22

set_option maxHeartbeats 4000000 in
set_option maxRecDepth 100000 in
/-- Points.packedAmong -/
theorem c_Pt_packedAmong (l : Launch) (D : jd_T) (a : Nat) (tb : Nat) (vb : Nat) (n : Int) (pk : Int) (last : Int) (x : Int) (y : Int) (hy0 : 0 ≤ x) (hy1 : x ≤ 1000000) (hy2 : 0 ≤ y) (hy3 : y ≤ 1000000) (hy4 : 0 ≤ pk) (hy5 : pk ≤ 1000000) : jc_C l D y_Pt_packedAmong b_Pt_packedAmong 3 (some .int) { frames := 1, cells := 0, slots := 0, locals := 30 } [.ref a, .int (ii x), .int (ii y)] [ob D a 6 [.ref tb, .ref vb, .int (ii n), .int (ii pk), .long (ll last)]] (fun _ : Unit => (.returned (some (.int (ii (max 0 (min y pk - x))))), True, [ob D a 6 [.ref tb, .ref vb, .int (ii n), .int (ii pk), .long (ll last)]])) := by
  refine jc_of rfl (Nat.le_of_ble_eq_true rfl) ?_
  intro X hl hR hN ok hnm fin
  subst hl
  show jw X 0 0 [ob D a 6 [.ref tb, .ref vb, .int (ii n), .int (ii pk), .long (ll last)]] [(0, .ref a), (1, .int (ii x)), (2, .int (ii y))] 0 []
  refine jr_iconst ok d_Pt_packedAmong_0 ?_
  refine jr_iload_n ok 2 d_Pt_packedAmong_1 rfl rfl ?_
  refine jr_aload_n ok 0 d_Pt_packedAmong_2 rfl rfl ?_
  refine jr_get ok 0 f_Pt_44 rfl rfl d_Pt_packedAmong_3 ?_
  refine jr_imin ok w_706 w_402 w_17 w_403 ⟨by omega, by omega⟩ ⟨by omega, by omega⟩ hR ⟨Nat.le_of_ble_eq_true rfl, Nat.le_of_ble_eq_true rfl⟩ ⟨Nat.zero_le _, Nat.zero_le _⟩ (Nat.le_of_ble_eq_true rfl) d_Pt_packedAmong_6 ?_
  refine jr_iload_n ok 1 d_Pt_packedAmong_9 rfl rfl ?_
  refine jr_isub ok d_Pt_packedAmong_10 ?_
  refine jr_imax ok w_656 w_657 w_17 w_658 ⟨by decide, by decide⟩ ⟨by omega, by omega⟩ hR ⟨Nat.le_of_ble_eq_true rfl, Nat.le_of_ble_eq_true rfl⟩ ⟨Nat.zero_le _, Nat.zero_le _⟩ (Nat.le_of_ble_eq_true rfl) d_Pt_packedAmong_11 ?_
  exact jr_iret ok fin (Nat.le_refl _) (Nat.le_refl _) () (congrArg (fun z => Outcome.returned (some (Value.int (ii z)))) (show max 0 (min y pk - x) = max 0 ((min y pk) - x) from (by omega))) trivial sg_same d_Pt_packedAmong_14

set_option maxHeartbeats 4000000 in
set_option maxRecDepth 100000 in
/-- Points.packAll -/
theorem c_Pt_packAll (l : Launch) (D : jd_T) (a : Nat) (tb : Nat) (vb : Nat) (n : Int) (pk : Int) (last : Int)  : jc_C l D y_Pt_packAll b_Pt_packAll 1 none { frames := 0, cells := 0, slots := 0, locals := 0 } [.ref a] [ob D a 6 [.ref tb, .ref vb, .int (ii n), .int (ii pk), .long (ll last)]] (fun _ : Unit => (.returned (none), True, [ob D a 6 [.ref tb, .ref vb, .int (ii n), .int (ii n), .long (ll last)]])) := by
  refine jc_of rfl (Nat.le_of_ble_eq_true rfl) ?_
  intro X hl hR hN ok hnm fin
  subst hl
  show jw X 0 0 [ob D a 6 [.ref tb, .ref vb, .int (ii n), .int (ii pk), .long (ll last)]] [(0, .ref a)] 0 []
  refine jr_aload_n ok 0 d_Pt_packAll_0 rfl rfl ?_
  refine jr_aload_n ok 0 d_Pt_packAll_1 rfl rfl ?_
  refine jr_get ok 0 f_Pt_24 rfl rfl d_Pt_packAll_2 ?_
  refine jr_put [ob D a 6 [.ref tb, .ref vb, .int (ii n), .int (ii n), .long (ll last)]] ok 0 f_Pt_44 rfl rfl rfl (Nat.le_of_ble_eq_true rfl) rfl d_Pt_packAll_5 ?_
  exact jr_vret ok fin (Nat.le_refl _) (Nat.le_refl _) () rfl trivial sg_same d_Pt_packAll_8

set_option maxHeartbeats 4000000 in
set_option maxRecDepth 100000 in
/-- Points.remove -/
theorem c_Pt_remove (l : Launch) (D : jd_T) (a : Nat) (tb : Nat) (vb : Nat) (n : Int) (pk : Int) (last : Int) (cap : Int) (T : Int → Int64) (V : Int → Int64) (x : Int) (y : Int) (hy0 : 0 ≤ n) (hy1 : n ≤ cap) (hy2 : cap ≤ 1000000) (hy3 : 0 ≤ x) (hy4 : x < y) (hy5 : y ≤ n) (hy6 : 0 ≤ pk) (hy7 : pk ≤ n) : jc_C l D y_Pt_remove b_Pt_remove 3 none { frames := 2, cells := 0, slots := 0, locals := 52 } [.ref a, .int (ii x), .int (ii y)] [ob D a 6 [.ref tb, .ref vb, .int (ii n), .int (ii pk), .long (ll last)], al D 2 tb cap T, al D 2 vb cap V] (fun _ : Unit => (.returned (none), True, [ob D a 6 [.ref tb, .ref vb, .int (ii (n - (y - x))), .int (ii (pk - (max 0 (min y pk - x)))), .long (ll last)], al D 2 tb cap (fun j => if x ≤ j ∧ j < x + (n - y) then T (y + (j - x)) else T j), al D 2 vb cap (fun j => if x ≤ j ∧ j < x + (n - y) then V (y + (j - x)) else V j)])) := by
  refine jc_of rfl (Nat.le_of_ble_eq_true rfl) ?_
  intro X hl hR hN ok hnm fin
  subst hl
  show jw X 0 0 [ob D a 6 [.ref tb, .ref vb, .int (ii n), .int (ii pk), .long (ll last)], al D 2 tb cap T, al D 2 vb cap V] [(0, .ref a), (1, .int (ii x)), (2, .int (ii y))] 0 []
  refine jr_iload_n ok 1 d_Pt_remove_0 rfl rfl ?_
  refine jr_if_lt 17 ok ⟨by omega, by omega⟩ d_Pt_remove_1 (by decide) (fun c1 => ?_) (fun c1 => ?_)
  · skip
    exfalso; omega
  · skip
    refine jr_iload_n ok 2 d_Pt_remove_4 rfl rfl ?_
    refine jr_iload_n ok 1 d_Pt_remove_5 rfl rfl ?_
    refine jr_icmp_le 17 ok ⟨by omega, by omega⟩ ⟨by omega, by omega⟩ d_Pt_remove_6 (by decide) (fun c2 => ?_) (fun c2 => ?_)
    · skip
      exfalso; omega
    · skip
      refine jr_iload_n ok 2 d_Pt_remove_9 rfl rfl ?_
      refine jr_aload_n ok 0 d_Pt_remove_10 rfl rfl ?_
      refine jr_get ok 0 f_Pt_24 rfl rfl d_Pt_remove_11 ?_
      refine jr_icmp_le 18 ok ⟨by omega, by omega⟩ ⟨by omega, by omega⟩ d_Pt_remove_14 (by decide) (fun c3 => ?_) (fun c3 => ?_)
      · skip
        refine jr_aload_n ok 0 d_Pt_remove_18 rfl rfl ?_
        refine jr_dup rfl ok d_Pt_remove_19 ?_
        refine jr_get ok 0 f_Pt_44 rfl rfl d_Pt_remove_20 ?_
        refine jr_aload_n ok 0 d_Pt_remove_23 rfl rfl ?_
        refine jr_iload_n ok 1 d_Pt_remove_24 rfl rfl ?_
        refine jr_iload_n ok 2 d_Pt_remove_25 rfl rfl ?_
        refine jr_cV1 [0] [1, 2] [ob D a 6 [.ref tb, .ref vb, .int (ii n), .int (ii pk), .long (ll last)], al D 2 tb cap T, al D 2 vb cap V] 0 0 ok hR m_Pt_50 0 (c_Pt_packedAmong (jx_l X) D a tb vb n pk last x y (by first | assumption | omega) (by first | assumption | omega) (by first | assumption | omega) (by first | assumption | omega) (by first | assumption | omega) (by first | assumption | omega)) (List.isPerm_iff.mp rfl) rfl rfl rfl rfl rfl rfl rfl (Nat.le_of_ble_eq_true rfl) ⟨Nat.le_of_ble_eq_true rfl, Nat.le_of_ble_eq_true rfl⟩ rfl rfl ⟨Nat.le_of_ble_eq_true rfl, Nat.le_of_ble_eq_true rfl⟩ d_Pt_remove_26 (fun _ => ?_)
        refine jr_isub ok d_Pt_remove_29 ?_
        refine jr_put [ob D a 6 [.ref tb, .ref vb, .int (ii n), .int (ii (pk - (max 0 (min y pk - x)))), .long (ll last)], al D 2 tb cap T, al D 2 vb cap V] ok 0 f_Pt_44 rfl rfl rfl (Nat.le_of_ble_eq_true rfl) rfl d_Pt_remove_30 ?_
        refine jr_aload_n ok 0 d_Pt_remove_33 rfl rfl ?_
        refine jr_get ok 0 f_Pt_9 rfl rfl d_Pt_remove_34 ?_
        refine jr_iload_n ok 2 d_Pt_remove_37 rfl rfl ?_
        refine jr_aload_n ok 0 d_Pt_remove_38 rfl rfl ?_
        refine jr_get ok 0 f_Pt_9 rfl rfl d_Pt_remove_39 ?_
        refine jr_iload_n ok 1 d_Pt_remove_42 rfl rfl ?_
        refine jr_aload_n ok 0 d_Pt_remove_43 rfl rfl ?_
        refine jr_get ok 0 f_Pt_24 rfl rfl d_Pt_remove_44 ?_
        refine jr_iload_n ok 2 d_Pt_remove_47 rfl rfl ?_
        refine jr_isub ok d_Pt_remove_48 ?_
        refine jr_copy1l [ob D a 6 [.ref tb, .ref vb, .int (ii n), .int (ii (pk - (max 0 (min y pk - x)))), .long (ll last)], al D 2 tb cap (fun j => if x ≤ j ∧ j < x + (n - y) then T (y + (j - x)) else T j), al D 2 vb cap V] ok hR w_726 w_406 w_405 w_18 1 rfl rfl rfl (by omega) (by omega) (by omega) (by omega) (by omega) (fun _ _ _ => rfl) ⟨Nat.le_of_ble_eq_true rfl, Nat.le_of_ble_eq_true rfl⟩ (Nat.le_of_ble_eq_true rfl) rfl d_Pt_remove_49 ?_
        refine jr_aload_n ok 0 d_Pt_remove_52 rfl rfl ?_
        refine jr_get ok 0 f_Pt_15 rfl rfl d_Pt_remove_53 ?_
        refine jr_iload_n ok 2 d_Pt_remove_56 rfl rfl ?_
        refine jr_aload_n ok 0 d_Pt_remove_57 rfl rfl ?_
        refine jr_get ok 0 f_Pt_15 rfl rfl d_Pt_remove_58 ?_
        refine jr_iload_n ok 1 d_Pt_remove_61 rfl rfl ?_
        refine jr_aload_n ok 0 d_Pt_remove_62 rfl rfl ?_
        refine jr_get ok 0 f_Pt_24 rfl rfl d_Pt_remove_63 ?_
        refine jr_iload_n ok 2 d_Pt_remove_66 rfl rfl ?_
        refine jr_isub ok d_Pt_remove_67 ?_
        refine jr_copy1l [ob D a 6 [.ref tb, .ref vb, .int (ii n), .int (ii (pk - (max 0 (min y pk - x)))), .long (ll last)], al D 2 tb cap (fun j => if x ≤ j ∧ j < x + (n - y) then T (y + (j - x)) else T j), al D 2 vb cap (fun j => if x ≤ j ∧ j < x + (n - y) then V (y + (j - x)) else V j)] ok hR w_726 w_406 w_405 w_18 2 rfl rfl rfl (by omega) (by omega) (by omega) (by omega) (by omega) (fun _ _ _ => rfl) ⟨Nat.le_of_ble_eq_true rfl, Nat.le_of_ble_eq_true rfl⟩ (Nat.le_of_ble_eq_true rfl) rfl d_Pt_remove_68 ?_
        refine jr_aload_n ok 0 d_Pt_remove_71 rfl rfl ?_
        refine jr_dup rfl ok d_Pt_remove_72 ?_
        refine jr_get ok 0 f_Pt_24 rfl rfl d_Pt_remove_73 ?_
        refine jr_iload_n ok 2 d_Pt_remove_76 rfl rfl ?_
        refine jr_iload_n ok 1 d_Pt_remove_77 rfl rfl ?_
        refine jr_isub ok d_Pt_remove_78 ?_
        refine jr_isub ok d_Pt_remove_79 ?_
        refine jr_put [ob D a 6 [.ref tb, .ref vb, .int (ii (n - (y - x))), .int (ii (pk - (max 0 (min y pk - x)))), .long (ll last)], al D 2 tb cap (fun j => if x ≤ j ∧ j < x + (n - y) then T (y + (j - x)) else T j), al D 2 vb cap (fun j => if x ≤ j ∧ j < x + (n - y) then V (y + (j - x)) else V j)] ok 0 f_Pt_24 rfl rfl rfl (Nat.le_of_ble_eq_true rfl) rfl d_Pt_remove_80 ?_
        exact jr_vret ok fin (Nat.le_refl _) (Nat.le_refl _) () rfl trivial sg_same d_Pt_remove_83
      · skip
        exfalso; omega

set_option maxHeartbeats 4000000 in
set_option maxRecDepth 100000 in
/-- Points.firstFrom -/
theorem c_Pt_firstFrom (l : Launch) (D : jd_T) (a : Nat) (tb : Nat) (vb : Nat) (n : Int) (pk : Int) (last : Int) (cap : Int) (T : Int → Int64) (V : Int → Int64) (time : Int) (hy0 : 0 ≤ n) (hy1 : n ≤ cap) (hy2 : cap ≤ 1000000) (hy3 : lR time) (hy4 : tUp T n) : jc_C l D y_Pt_firstFrom b_Pt_firstFrom 7 (some .int) { frames := 1, cells := 0, slots := 0, locals := 21 } [.ref a, .long (ll time)] [ob D a 6 [.ref tb, .ref vb, .int (ii n), .int (ii pk), .long (ll last)], al D 2 tb cap T, al D 2 vb cap V] (fun r : Int => (.returned (some (.int (ii r))), tFrom T n time r, [ob D a 6 [.ref tb, .ref vb, .int (ii n), .int (ii pk), .long (ll last)], al D 2 tb cap T, al D 2 vb cap V])) := by
  refine jc_of rfl (Nat.le_of_ble_eq_true rfl) ?_
  intro X hl hR hN ok hnm fin
  subst hl
  show jw X 0 0 [ob D a 6 [.ref tb, .ref vb, .int (ii n), .int (ii pk), .long (ll last)], al D 2 tb cap T, al D 2 vb cap V] [(0, .ref a), (1, .long (ll time))] 0 []
  have lp : ∀ (m k : Nat) (lo hi : Int), k + m = 32 → 0 ≤ lo → lo ≤ hi → hi ≤ n → hi - lo < 2 ^ m → (∀ j, 0 ≤ j → j < lo → (T j).toInt < time) → (∀ j, hi ≤ j → j < n → time ≤ (T j).toInt) → jw X 0 0 [ob D a 6 [.ref tb, .ref vb, .int (ii n), .int (ii pk), .long (ll last)], al D 2 tb cap T, al D 2 vb cap V] [(5, .int (ii (k : Int))), (4, .int (ii hi)), (3, .int (ii lo)), (0, .ref a), (1, .long (ll time))] 11 [] := by
    intro m
    induction m with
    | zero =>
      intro k lo hi hk h1 h2 h3 h4 h5 h6
      have h4 : hi - lo < 1 := h4
      refine jr_iload ok 0 d_Pt_firstFrom_11 rfl ?_
      refine jr_bipush ok d_Pt_firstFrom_13 (by decide +kernel) ?_
      refine jr_icmp_ge 61 ok ⟨by omega, by omega⟩ ⟨by decide, by decide⟩ d_Pt_firstFrom_15 (by decide) (fun c1 => ?_) (fun c1 => ?_)
      · skip
        refine jr_iload_n ok 2 d_Pt_firstFrom_61 rfl rfl ?_
        exact jr_iret ok fin (Nat.le_refl _) (Nat.le_refl _) lo rfl ⟨h1, by omega, h5, fun j q1 q2 => h6 j (by omega) q2⟩ sg_same d_Pt_firstFrom_62
      · skip
        exfalso; omega
    | succ m ih =>
      intro k lo hi hk h1 h2 h3 h4 h5 h6
      have h4 : hi - lo < 2 * 2 ^ m := by have := Nat.pow_succ (n := 2) (m := m); omega
      refine jr_iload ok 0 d_Pt_firstFrom_11 rfl ?_
      refine jr_bipush ok d_Pt_firstFrom_13 (by decide +kernel) ?_
      refine jr_icmp_ge 61 ok ⟨by omega, by omega⟩ ⟨by decide, by decide⟩ d_Pt_firstFrom_15 (by decide) (fun c2 => ?_) (fun c2 => ?_)
      · skip
        exfalso; omega
      · skip
        refine jr_iload_n ok 2 d_Pt_firstFrom_18 rfl rfl ?_
        refine jr_iload ok 1 d_Pt_firstFrom_19 rfl ?_
        refine jr_icmp_ge 61 ok ⟨by omega, by omega⟩ ⟨by omega, by omega⟩ d_Pt_firstFrom_21 (by decide) (fun c3 => ?_) (fun c3 => ?_)
        · skip
          refine jr_iload_n ok 2 d_Pt_firstFrom_61 rfl rfl ?_
          exact jr_iret ok fin (Nat.le_refl _) (Nat.le_refl _) lo rfl ⟨h1, by omega, h5, fun j q1 q2 => h6 j (by omega) q2⟩ sg_same d_Pt_firstFrom_62
        · skip
          refine jr_iload_n ok 2 d_Pt_firstFrom_24 rfl rfl ?_
          refine jr_iload ok 1 d_Pt_firstFrom_25 rfl ?_
          refine jr_iadd ok d_Pt_firstFrom_27 ?_
          refine jr_iconst ok d_Pt_firstFrom_28 ?_
          refine jr_idiv (z := (lo + hi) / 2) ok d_Pt_firstFrom_29 (by rw [← ii_0, ii_eq ⟨by decide, by decide⟩ ⟨by decide, by decide⟩]; decide) (ii_div ⟨by omega, by omega⟩ ⟨by decide, by decide⟩ (by omega) (by decide)) ?_
          refine jr_istore [(6, .int (ii ((lo + hi) / 2))), (5, .int (ii (k : Int))), (4, .int (ii hi)), (3, .int (ii lo)), (0, .ref a), (1, .long (ll time))] ok d_Pt_firstFrom_30 (by rw [hN]; decide) rfl ?_
          refine jr_aload_n ok 4 d_Pt_firstFrom_32 rfl rfl ?_
          refine jr_iload ok 0 d_Pt_firstFrom_33 rfl ?_
          refine jr_cV1 [0, 1, 2] [] [ob D a 6 [.ref tb, .ref vb, .int (ii n), .int (ii pk), .long (ll last)], al D 2 tb cap T, al D 2 vb cap V] 0 0 ok hR m_Pt_40 0 (c_Pt_timeAt (jx_l X) D a tb vb n pk last cap T V ((lo + hi) / 2) (by first | assumption | omega) (by first | assumption | omega) (by first | assumption | omega) ⟨by omega, by omega⟩) (List.isPerm_iff.mp rfl) rfl rfl rfl rfl rfl rfl rfl (Nat.le_of_ble_eq_true rfl) ⟨Nat.le_of_ble_eq_true rfl, Nat.le_of_ble_eq_true rfl⟩ rfl rfl ⟨Nat.le_of_ble_eq_true rfl, Nat.le_of_ble_eq_true rfl⟩ d_Pt_firstFrom_35 (fun _ => ?_)
          refine jr_lload_n ok 5 d_Pt_firstFrom_38 rfl rfl ?_
          refine jr_lcmp_xl ok ⟨by omega, by omega⟩ d_Pt_firstFrom_39 ?_
          refine jr_if_ge 51 ok (lc_R _ _) d_Pt_firstFrom_40 (by decide) (fun c4 => ?_) (fun c4 => ?_)
          · have c4 : time ≤ ((tAt T n ((lo + hi) / 2)).toInt) := (by split at c4 <;> first | omega | (split at c4 <;> omega))
            have e9 : (tAt T n ((lo + hi) / 2)) = T ((lo + hi) / 2) := by unfold tAt; rw [if_pos (by omega)]
            rw [e9] at c4
            refine jr_iload ok 0 d_Pt_firstFrom_51 rfl ?_
            refine jr_istore [(4, .int (ii ((lo + hi) / 2))), (6, .int (ii ((lo + hi) / 2))), (5, .int (ii (k : Int))), (3, .int (ii lo)), (0, .ref a), (1, .long (ll time))] ok d_Pt_firstFrom_53 (by rw [hN]; decide) rfl ?_
            refine jr_iinc [(5, .int (ii ((k : Int) + 1))), (4, .int (ii ((lo + hi) / 2))), (6, .int (ii ((lo + hi) / 2))), (3, .int (ii lo)), (0, .ref a), (1, .long (ll time))] 2 ok d_Pt_firstFrom_55 rfl (by rw [hN]; decide) rfl ?_
            refine jr_goto 11 ok d_Pt_firstFrom_58 (by decide) ?_
            refine jr_lv [0, 1, 3, 4, 5] rfl (ih (k + 1) lo ((lo + hi) / 2) (by omega) (by omega) (by omega) (by omega) (by omega) h5 ?_)
            intro j q1 q2
            rcases (show j = (lo + hi) / 2 ∨ (lo + hi) / 2 < j by omega) with e | e
            · rw [e]; omega
            · have := hy4 ((lo + hi) / 2) j (by omega) e q2; omega
          · have c4 : ¬ time ≤ ((tAt T n ((lo + hi) / 2)).toInt) := (by split at c4 <;> first | omega | (split at c4 <;> omega))
            have e9 : (tAt T n ((lo + hi) / 2)) = T ((lo + hi) / 2) := by unfold tAt; rw [if_pos (by omega)]
            rw [e9] at c4
            refine jr_iload ok 0 d_Pt_firstFrom_43 rfl ?_
            refine jr_iconst ok d_Pt_firstFrom_45 ?_
            refine jr_iadd ok d_Pt_firstFrom_46 ?_
            refine jr_istore_n [(3, .int (ii (((lo + hi) / 2) + 1))), (6, .int (ii ((lo + hi) / 2))), (5, .int (ii (k : Int))), (4, .int (ii hi)), (0, .ref a), (1, .long (ll time))] ok d_Pt_firstFrom_47 rfl (by rw [hN]; decide) rfl ?_
            refine jr_goto 55 ok d_Pt_firstFrom_48 (by decide) ?_
            refine jr_iinc [(5, .int (ii ((k : Int) + 1))), (3, .int (ii (((lo + hi) / 2) + 1))), (6, .int (ii ((lo + hi) / 2))), (4, .int (ii hi)), (0, .ref a), (1, .long (ll time))] 2 ok d_Pt_firstFrom_55 rfl (by rw [hN]; decide) rfl ?_
            refine jr_goto 11 ok d_Pt_firstFrom_58 (by decide) ?_
            refine jr_lv [0, 3, 1, 4, 5] rfl (ih (k + 1) (((lo + hi) / 2) + 1) hi (by omega) (by omega) (by omega) (by omega) (by omega) ?_ h6)
            intro j q1 q2
            rcases (show j = (lo + hi) / 2 ∨ j < (lo + hi) / 2 by omega) with e | e
            · rw [e]; omega
            · have := hy4 j ((lo + hi) / 2) q1 e (by omega); omega
  refine jr_iconst ok d_Pt_firstFrom_0 ?_
  refine jr_istore_n [(3, .int (ii 0)), (0, .ref a), (1, .long (ll time))] ok d_Pt_firstFrom_1 rfl (by rw [hN]; decide) rfl ?_
  refine jr_aload_n ok 1 d_Pt_firstFrom_2 rfl rfl ?_
  refine jr_get ok 0 f_Pt_24 rfl rfl d_Pt_firstFrom_3 ?_
  refine jr_istore [(4, .int (ii n)), (3, .int (ii 0)), (0, .ref a), (1, .long (ll time))] ok d_Pt_firstFrom_6 (by rw [hN]; decide) rfl ?_
  refine jr_iconst ok d_Pt_firstFrom_8 ?_
  refine jr_istore [(5, .int (ii 0)), (4, .int (ii n)), (3, .int (ii 0)), (0, .ref a), (1, .long (ll time))] ok d_Pt_firstFrom_9 (by rw [hN]; decide) rfl ?_
  exact lp 32 0 0 n rfl (by omega) (by omega) (by omega) (by omega) (fun j q1 q2 => by omega) (fun j q1 q2 => by omega)

