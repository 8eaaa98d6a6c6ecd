set_option maxHeartbeats 4000000 in
set_option maxRecDepth 100000 in
/-- Points.add where there is room -/
theorem c_Pt_add0 (l : Launch) (D : jd_T) (a : Nat) (tb : Nat) (vb : Nat) (n : Int) (pk : Int) (last : Int) (cap : Int) (T : Int → Int64) (V : Int → Int64) (time : Int) (val : Int64) (hy0 : 0 ≤ n) (hy1 : n ≤ cap) (hy2 : cap ≤ 1000000) (hy3 : n < cap) : jc_C l D y_Pt_add b_Pt_add 6 none { frames := 0, cells := 0, slots := 0, locals := 0 } [.ref a, .long (ll time), .long val] [ob D a 6 [.ref tb, .ref vb, .int (ii n), .int (ii pk), .long (ll last)], al D 2 tb cap T, al D 2 vb cap V] (fun _ : Unit => (.returned (none), True, [ob D a 6 [.ref tb, .ref vb, .int (ii (n + 1)), .int (ii pk), .long (ll time)], al D 2 tb cap (fun j => if j = n then (ll time) else T j), al D 2 vb cap (fun j => if j = n then val else V j)])) := by
  refine jc_of rfl (Nat.le_of_ble_eq_true rfl) ?_
  intro X hl hR hN ok hnm fin
  subst hl
  show jw X 0 0 [ob D a 6 [.ref tb, .ref vb, .int (ii n), .int (ii pk), .long (ll last)], al D 2 tb cap T, al D 2 vb cap V] [(0, .ref a), (1, .long (ll time)), (3, .long val)] 0 []
  refine jr_aload_n ok 0 d_Pt_add_0 rfl rfl ?_
  refine jr_get ok 0 f_Pt_24 rfl rfl d_Pt_add_1 ?_
  refine jr_aload_n ok 0 d_Pt_add_4 rfl rfl ?_
  refine jr_get ok 0 f_Pt_9 rfl rfl d_Pt_add_5 ?_
  refine jr_alen_l ok 1 rfl rfl d_Pt_add_8 ?_
  refine jr_icmp_ge 24 ok ⟨by omega, by omega⟩ ⟨by omega, by omega⟩ d_Pt_add_9 (by decide) (fun c1 => ?_) (fun c1 => ?_)
  · skip
    exfalso; omega
  · skip
    refine jr_aload_n ok 0 d_Pt_add_12 rfl rfl ?_
    refine jr_get ok 0 f_Pt_24 rfl rfl d_Pt_add_13 ?_
    refine jr_aload_n ok 0 d_Pt_add_16 rfl rfl ?_
    refine jr_get ok 0 f_Pt_15 rfl rfl d_Pt_add_17 ?_
    refine jr_alen_l ok 2 rfl rfl d_Pt_add_20 ?_
    refine jr_icmp_lt 62 ok ⟨by omega, by omega⟩ ⟨by omega, by omega⟩ d_Pt_add_21 (by decide) (fun c2 => ?_) (fun c2 => ?_)
    · skip
      refine jr_aload_n ok 0 d_Pt_add_62 rfl rfl ?_
      refine jr_get ok 0 f_Pt_9 rfl rfl d_Pt_add_63 ?_
      refine jr_aload_n ok 0 d_Pt_add_66 rfl rfl ?_
      refine jr_get ok 0 f_Pt_24 rfl rfl d_Pt_add_67 ?_
      refine jr_lload_n ok 1 d_Pt_add_70 rfl rfl ?_
      refine jr_last [ob D a 6 [.ref tb, .ref vb, .int (ii n), .int (ii pk), .long (ll last)], al D 2 tb cap (fun j => if j = n then (ll time) else T j), al D 2 vb cap V] ok 1 rfl rfl (by omega) (by omega) rfl d_Pt_add_71 ?_
      refine jr_aload_n ok 0 d_Pt_add_72 rfl rfl ?_
      refine jr_get ok 0 f_Pt_15 rfl rfl d_Pt_add_73 ?_
      refine jr_aload_n ok 0 d_Pt_add_76 rfl rfl ?_
      refine jr_get ok 0 f_Pt_24 rfl rfl d_Pt_add_77 ?_
      refine jr_lload_n ok 2 d_Pt_add_80 rfl rfl ?_
      refine jr_last [ob D a 6 [.ref tb, .ref vb, .int (ii n), .int (ii pk), .long (ll last)], al D 2 tb cap (fun j => if j = n then (ll time) else T j), al D 2 vb cap (fun j => if j = n then val else V j)] ok 2 rfl rfl (by omega) (by omega) rfl d_Pt_add_81 ?_
      refine jr_aload_n ok 0 d_Pt_add_82 rfl rfl ?_
      refine jr_dup rfl ok d_Pt_add_83 ?_
      refine jr_get ok 0 f_Pt_24 rfl rfl d_Pt_add_84 ?_
      refine jr_iconst ok d_Pt_add_87 ?_
      refine jr_iadd ok d_Pt_add_88 ?_
      refine jr_put [ob D a 6 [.ref tb, .ref vb, .int (ii (n + 1)), .int (ii pk), .long (ll last)], al D 2 tb cap (fun j => if j = n then (ll time) else T j), al D 2 vb cap (fun j => if j = n then val else V j)] ok 0 f_Pt_24 rfl rfl rfl (Nat.le_of_ble_eq_true rfl) rfl d_Pt_add_89 ?_
      refine jr_aload_n ok 0 d_Pt_add_92 rfl rfl ?_
      refine jr_lload_n ok 1 d_Pt_add_93 rfl rfl ?_
      refine jr_put [ob D a 6 [.ref tb, .ref vb, .int (ii (n + 1)), .int (ii pk), .long (ll time)], al D 2 tb cap (fun j => if j = n then (ll time) else T j), al D 2 vb cap (fun j => if j = n then val else V j)] ok 0 f_Pt_20 rfl rfl rfl (Nat.le_of_ble_eq_true rfl) rfl d_Pt_add_94 ?_
      exact jr_vret ok fin (Nat.le_refl _) (Nat.le_refl _) () rfl trivial sg_same d_Pt_add_97
    · skip
      exfalso; omega

set_option maxHeartbeats 4000000 in
set_option maxRecDepth 100000 in
/-- Points.add where the rows grow -/
theorem c_Pt_add1 (l : Launch) (D : jd_T) (a : Nat) (tb : Nat) (vb : Nat) (n : Int) (pk : Int) (last : Int) (cap : Int) (T : Int → Int64) (V : Int → Int64) (time : Int) (val : Int64) (hy0 : 0 ≤ n) (hy1 : n ≤ cap) (hy2 : cap ≤ 1000000) (hy3 : n = cap) : jc_C l D y_Pt_add b_Pt_add 6 none { frames := 2, cells := 2, slots := 2 * (max 4 (2 * n)).toNat, locals := 62 } [.ref a, .long (ll time), .long val] [ob D a 6 [.ref tb, .ref vb, .int (ii n), .int (ii pk), .long (ll last)], al D 2 tb cap T, al D 2 vb cap V] (fun u : Nat × Nat × (Int → Int64) × (Int → Int64) => (.returned (none), (∀ j, 0 ≤ j → j < n → u.2.2.1 j = T j ∧ u.2.2.2 j = V j) ∧ u.2.2.1 n = ll time ∧ u.2.2.2 n = val, [ob D a 6 [.ref u.1, .ref u.2.1, .int (ii (n + 1)), .int (ii pk), .long (ll time)], al D 2 u.1 (max 4 (2 * n)) u.2.2.1, al D 2 u.2.1 (max 4 (2 * n)) u.2.2.2])) := by
  refine jc_of rfl (Nat.le_of_ble_eq_true rfl) ?_
  intro X hl hR hN ok hnm fin
  subst hl
  show jw X 0 0 [ob D a 6 [.ref tb, .ref vb, .int (ii n), .int (ii pk), .long (ll last)], al D 2 tb cap T, al D 2 vb cap V] [(0, .ref a), (1, .long (ll time)), (3, .long val)] 0 []
  refine jr_aload_n ok 0 d_Pt_add_0 rfl rfl ?_
  refine jr_get ok 0 f_Pt_24 rfl rfl d_Pt_add_1 ?_
  refine jr_aload_n ok 0 d_Pt_add_4 rfl rfl ?_
  refine jr_get ok 0 f_Pt_9 rfl rfl d_Pt_add_5 ?_
  refine jr_alen_l ok 1 rfl rfl d_Pt_add_8 ?_
  refine jr_icmp_ge 24 ok ⟨by omega, by omega⟩ ⟨by omega, by omega⟩ d_Pt_add_9 (by decide) (fun c1 => ?_) (fun c1 => ?_)
  · skip
    refine jr_iconst ok d_Pt_add_24 ?_
    refine jr_iconst ok d_Pt_add_25 ?_
    refine jr_aload_n ok 0 d_Pt_add_26 rfl rfl ?_
    refine jr_get ok 0 f_Pt_24 rfl rfl d_Pt_add_27 ?_
    refine jr_imul ok d_Pt_add_30 ?_
    refine jr_imax ok w_656 w_657 w_17 w_658 ⟨by decide, by decide⟩ ⟨by omega, by omega⟩ hR ⟨Nat.le_of_ble_eq_true rfl, Nat.le_of_ble_eq_true rfl⟩ ⟨Nat.zero_le _, Nat.zero_le _⟩ (Nat.le_of_ble_eq_true rfl) d_Pt_add_31 ?_
    refine jr_istore [(5, .int (ii (max 4 (2 * n)))), (0, .ref a), (1, .long (ll time)), (3, .long val)] ok d_Pt_add_34 (by rw [hN]; decide) rfl ?_
    refine jr_aload_n ok 1 d_Pt_add_36 rfl rfl ?_
    refine jr_aload_n ok 1 d_Pt_add_37 rfl rfl ?_
    refine jr_get ok 0 f_Pt_9 rfl rfl d_Pt_add_38 ?_
    refine jr_iload ok 0 d_Pt_add_41 rfl ?_
    refine jr_cS1x [1] [0, 2] (fun u : Nat => [al D 2 tb cap T, al D 2 u (max 4 (2 * n)) (fun j => if 0 ≤ j ∧ j < 0 + (min cap (max 4 (2 * n))) then T (0 + (j - 0)) else (fun _ => 0) j), ob D a 6 [.ref tb, .ref vb, .int (ii n), .int (ii pk), .long (ll last)], al D 2 vb cap V]) 1 ((max 4 (2 * n)).toNat) ok hR m_Pt_34 (c_copyL (jx_l X) D tb cap (max 4 (2 * n)) T (by first | assumption | omega) (by first | assumption | omega) (by first | assumption | omega) (by first | assumption | omega) (by first | assumption | omega)) (List.isPerm_iff.mp rfl) rfl rfl (fun _ => rfl) rfl rfl (Nat.le_of_ble_eq_true rfl) ⟨Nat.le_of_ble_eq_true rfl, Nat.le_of_ble_eq_true rfl⟩ rfl (Nat.zero_add _) ⟨Nat.le_of_ble_eq_true rfl, by show (max 4 (2 * n)).toNat ≤ (2 * (max 4 (2 * n)).toNat); omega⟩ d_Pt_add_43 (fun q2 hx2 => ?_)
    show jw X 1 ((max 4 (2 * n)).toNat) [al D 2 tb cap T, al D 2 q2 (max 4 (2 * n)) (fun j => if 0 ≤ j ∧ j < 0 + (min cap (max 4 (2 * n))) then T (0 + (j - 0)) else (fun _ => 0) j), ob D a 6 [.ref tb, .ref vb, .int (ii n), .int (ii pk), .long (ll last)], al D 2 vb cap V] [(5, .int (ii (max 4 (2 * n)))), (0, .ref a), (1, .long (ll time)), (3, .long val)] 46 [.ref q2, .ref a]
    refine jr_put [al D 2 tb cap T, al D 2 q2 (max 4 (2 * n)) (fun j => if 0 ≤ j ∧ j < 0 + (min cap (max 4 (2 * n))) then T (0 + (j - 0)) else (fun _ => 0) j), ob D a 6 [.ref q2, .ref vb, .int (ii n), .int (ii pk), .long (ll last)], al D 2 vb cap V] ok 2 f_Pt_9 rfl rfl rfl (Nat.le_of_ble_eq_true rfl) rfl d_Pt_add_46 ?_
    refine jr_aload_n ok 1 d_Pt_add_49 rfl rfl ?_
    refine jr_aload_n ok 1 d_Pt_add_50 rfl rfl ?_
    refine jr_get ok 2 f_Pt_15 rfl rfl d_Pt_add_51 ?_
    refine jr_iload ok 0 d_Pt_add_54 rfl ?_
    refine jr_cS1x [3] [0, 1, 2] (fun u : Nat => [al D 2 vb cap V, al D 2 u (max 4 (2 * n)) (fun j => if 0 ≤ j ∧ j < 0 + (min cap (max 4 (2 * n))) then V (0 + (j - 0)) else (fun _ => 0) j), al D 2 tb cap T, al D 2 q2 (max 4 (2 * n)) (fun j => if 0 ≤ j ∧ j < 0 + (min cap (max 4 (2 * n))) then T (0 + (j - 0)) else (fun _ => 0) j), ob D a 6 [.ref q2, .ref vb, .int (ii n), .int (ii pk), .long (ll last)]]) (1 + 1) ((max 4 (2 * n)).toNat + ((max 4 (2 * n)).toNat)) ok hR m_Pt_34 (c_copyL (jx_l X) D vb cap (max 4 (2 * n)) V (by first | assumption | omega) (by first | assumption | omega) (by first | assumption | omega) (by first | assumption | omega) (by first | assumption | omega)) (List.isPerm_iff.mp rfl) rfl rfl (fun _ => rfl) rfl rfl (Nat.le_of_ble_eq_true rfl) ⟨Nat.le_of_ble_eq_true rfl, Nat.le_of_ble_eq_true rfl⟩ rfl rfl ⟨Nat.le_of_ble_eq_true rfl, by show (max 4 (2 * n)).toNat + (max 4 (2 * n)).toNat ≤ (2 * (max 4 (2 * n)).toNat); omega⟩ d_Pt_add_56 (fun q3 hx3 => ?_)
    show jw X (1 + 1) ((max 4 (2 * n)).toNat + ((max 4 (2 * n)).toNat)) [al D 2 vb cap V, al D 2 q3 (max 4 (2 * n)) (fun j => if 0 ≤ j ∧ j < 0 + (min cap (max 4 (2 * n))) then V (0 + (j - 0)) else (fun _ => 0) j), al D 2 tb cap T, al D 2 q2 (max 4 (2 * n)) (fun j => if 0 ≤ j ∧ j < 0 + (min cap (max 4 (2 * n))) then T (0 + (j - 0)) else (fun _ => 0) j), ob D a 6 [.ref q2, .ref vb, .int (ii n), .int (ii pk), .long (ll last)]] [(5, .int (ii (max 4 (2 * n)))), (0, .ref a), (1, .long (ll time)), (3, .long val)] 59 [.ref q3, .ref a]
    refine jr_put [al D 2 vb cap V, al D 2 q3 (max 4 (2 * n)) (fun j => if 0 ≤ j ∧ j < 0 + (min cap (max 4 (2 * n))) then V (0 + (j - 0)) else (fun _ => 0) j), al D 2 tb cap T, al D 2 q2 (max 4 (2 * n)) (fun j => if 0 ≤ j ∧ j < 0 + (min cap (max 4 (2 * n))) then T (0 + (j - 0)) else (fun _ => 0) j), ob D a 6 [.ref q2, .ref q3, .int (ii n), .int (ii pk), .long (ll last)]] ok 4 f_Pt_15 rfl rfl rfl (Nat.le_of_ble_eq_true rfl) rfl d_Pt_add_59 ?_
    refine jr_aload_n ok 1 d_Pt_add_62 rfl rfl ?_
    refine jr_get ok 4 f_Pt_9 rfl rfl d_Pt_add_63 ?_
    refine jr_aload_n ok 1 d_Pt_add_66 rfl rfl ?_
    refine jr_get ok 4 f_Pt_24 rfl rfl d_Pt_add_67 ?_
    refine jr_lload_n ok 2 d_Pt_add_70 rfl rfl ?_
    refine jr_last [al D 2 vb cap V, al D 2 q3 (max 4 (2 * n)) (fun j => if 0 ≤ j ∧ j < 0 + (min cap (max 4 (2 * n))) then V (0 + (j - 0)) else (fun _ => 0) j), al D 2 tb cap T, al D 2 q2 (max 4 (2 * n)) (fun j => if j = n then (ll time) else (fun j => if 0 ≤ j ∧ j < 0 + (min cap (max 4 (2 * n))) then T (0 + (j - 0)) else (fun _ => 0) j) j), ob D a 6 [.ref q2, .ref q3, .int (ii n), .int (ii pk), .long (ll last)]] ok 3 rfl rfl (by omega) (by omega) rfl d_Pt_add_71 ?_
    refine jr_aload_n ok 1 d_Pt_add_72 rfl rfl ?_
    refine jr_get ok 4 f_Pt_15 rfl rfl d_Pt_add_73 ?_
    refine jr_aload_n ok 1 d_Pt_add_76 rfl rfl ?_
    refine jr_get ok 4 f_Pt_24 rfl rfl d_Pt_add_77 ?_
    refine jr_lload_n ok 3 d_Pt_add_80 rfl rfl ?_
    refine jr_last [al D 2 vb cap V, al D 2 q3 (max 4 (2 * n)) (fun j => if j = n then val else (fun j => if 0 ≤ j ∧ j < 0 + (min cap (max 4 (2 * n))) then V (0 + (j - 0)) else (fun _ => 0) j) j), al D 2 tb cap T, al D 2 q2 (max 4 (2 * n)) (fun j => if j = n then (ll time) else (fun j => if 0 ≤ j ∧ j < 0 + (min cap (max 4 (2 * n))) then T (0 + (j - 0)) else (fun _ => 0) j) j), ob D a 6 [.ref q2, .ref q3, .int (ii n), .int (ii pk), .long (ll last)]] ok 1 rfl rfl (by omega) (by omega) rfl d_Pt_add_81 ?_
    refine jr_aload_n ok 1 d_Pt_add_82 rfl rfl ?_
    refine jr_dup rfl ok d_Pt_add_83 ?_
    refine jr_get ok 4 f_Pt_24 rfl rfl d_Pt_add_84 ?_
    refine jr_iconst ok d_Pt_add_87 ?_
    refine jr_iadd ok d_Pt_add_88 ?_
    refine jr_put [al D 2 vb cap V, al D 2 q3 (max 4 (2 * n)) (fun j => if j = n then val else (fun j => if 0 ≤ j ∧ j < 0 + (min cap (max 4 (2 * n))) then V (0 + (j - 0)) else (fun _ => 0) j) j), al D 2 tb cap T, al D 2 q2 (max 4 (2 * n)) (fun j => if j = n then (ll time) else (fun j => if 0 ≤ j ∧ j < 0 + (min cap (max 4 (2 * n))) then T (0 + (j - 0)) else (fun _ => 0) j) j), ob D a 6 [.ref q2, .ref q3, .int (ii (n + 1)), .int (ii pk), .long (ll last)]] ok 4 f_Pt_24 rfl rfl rfl (Nat.le_of_ble_eq_true rfl) rfl d_Pt_add_89 ?_
    refine jr_aload_n ok 1 d_Pt_add_92 rfl rfl ?_
    refine jr_lload_n ok 2 d_Pt_add_93 rfl rfl ?_
    refine jr_put [al D 2 vb cap V, al D 2 q3 (max 4 (2 * n)) (fun j => if j = n then val else (fun j => if 0 ≤ j ∧ j < 0 + (min cap (max 4 (2 * n))) then V (0 + (j - 0)) else (fun _ => 0) j) j), al D 2 tb cap T, al D 2 q2 (max 4 (2 * n)) (fun j => if j = n then (ll time) else (fun j => if 0 ≤ j ∧ j < 0 + (min cap (max 4 (2 * n))) then T (0 + (j - 0)) else (fun _ => 0) j) j), ob D a 6 [.ref q2, .ref q3, .int (ii (n + 1)), .int (ii pk), .long (ll time)]] ok 4 f_Pt_20 rfl rfl rfl (Nat.le_of_ble_eq_true rfl) rfl d_Pt_add_94 ?_
    refine jr_drop (L' := [al D 2 vb cap V, al D 2 q3 (max 4 (2 * n)) (fun j => if j = n then val else (fun j => if 0 ≤ j ∧ j < 0 + (min cap (max 4 (2 * n))) then V (0 + (j - 0)) else (fun _ => 0) j) j), al D 2 q2 (max 4 (2 * n)) (fun j => if j = n then (ll time) else (fun j => if 0 ≤ j ∧ j < 0 + (min cap (max 4 (2 * n))) then T (0 + (j - 0)) else (fun _ => 0) j) j), ob D a 6 [.ref q2, .ref q3, .int (ii (n + 1)), .int (ii pk), .long (ll time)]]) 2 rfl ?_
    refine jr_drop (L' := [al D 2 q3 (max 4 (2 * n)) (fun j => if j = n then val else (fun j => if 0 ≤ j ∧ j < 0 + (min cap (max 4 (2 * n))) then V (0 + (j - 0)) else (fun _ => 0) j) j), al D 2 q2 (max 4 (2 * n)) (fun j => if j = n then (ll time) else (fun j => if 0 ≤ j ∧ j < 0 + (min cap (max 4 (2 * n))) then T (0 + (j - 0)) else (fun _ => 0) j) j), ob D a 6 [.ref q2, .ref q3, .int (ii (n + 1)), .int (ii pk), .long (ll time)]]) 0 rfl ?_
    exact jr_vret ok fin (Nat.le_refl _) (by show (max 4 (2 * n)).toNat + (max 4 (2 * n)).toNat ≤ (2 * (max 4 (2 * n)).toNat); omega) ⟨q2, q3, fun j => if j = n then (ll time) else (fun j => if 0 ≤ j ∧ j < 0 + (min cap (max 4 (2 * n))) then T (0 + (j - 0)) else (fun _ => 0) j) j, fun j => if j = n then val else (fun j => if 0 ≤ j ∧ j < 0 + (min cap (max 4 (2 * n))) then V (0 + (j - 0)) else (fun _ => 0) j) j⟩ rfl ⟨fun j q1 q2 => ⟨by show (if j = n then _ else _) = _; rw [if_neg (by omega), if_pos (by omega)]; congr 1; omega, by show (if j = n then _ else _) = _; rw [if_neg (by omega), if_pos (by omega)]; congr 1; omega⟩, if_pos rfl, if_pos rfl⟩ (sg_pick [2, 1, 0] (List.isPerm_iff.mp rfl) rfl) d_Pt_add_97
  · skip
    exfalso; omega

