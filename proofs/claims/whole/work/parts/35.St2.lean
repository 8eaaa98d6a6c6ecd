set_option maxHeartbeats 4000000 in
set_option maxRecDepth 100000 in
/-- Store.letGo of some points -/
theorem c_St_letGo1 (l : Launch) (D : jd_T) (a : Nat) (ra : Nat) (cnt : Int) (hz : Int) (hd : Int) (pc0 : Int) (sc : Int) (pa : Nat) (tb : Nat) (vb : Nat) (n : Int) (pk : Int) (last : Int) (cap : Int) (T : Int → Int64) (V : Int → Int64) (x : Int) (y : Int) (hy0 : 0 ≤ n) (hy1 : n ≤ cap) (hy2 : cap ≤ 1000000) (hy3 : 0 ≤ x) (hy4 : x < y) (hy5 : y ≤ n) (hy6 : 0 ≤ pk) (hy7 : pk ≤ n) : jc_C l D y_St_letGo b_St_letGo 4 (some .int) { frames := 3, cells := 0, slots := 0, locals := 74 } [.ref a, .ref pa, .int (ii x), .int (ii y)] [ob D a 10 [.ref ra, .int (ii cnt), .long (ll hz), .int (ii hd), .int (ii pc0), .int (ii sc)], ob D pa 6 [.ref tb, .ref vb, .int (ii n), .int (ii pk), .long (ll last)], al D 2 tb cap T, al D 2 vb cap V] (fun _ : Unit => (.returned (some (.int (ii (y - x)))), True, [ob D a 10 [.ref ra, .int (ii cnt), .long (ll hz), .int (ii (hd - (y - x - max 0 (min y pk - x)))), .int (ii pc0), .int (ii sc)], ob D pa 6 [.ref tb, .ref vb, .int (ii (n - (y - x))), .int (ii (pk - (max 0 (min y pk - x)))), .long (ll last)], al D 2 tb cap (fun j => if x ≤ j ∧ j < x + (n - y) then T (y + (j - x)) else T j), al D 2 vb cap (fun j => if x ≤ j ∧ j < x + (n - y) then V (y + (j - x)) else V j)])) := by
  refine jc_of rfl (Nat.le_of_ble_eq_true rfl) ?_
  intro X hl hR hN ok hnm fin
  subst hl
  show jw X 0 0 [ob D a 10 [.ref ra, .int (ii cnt), .long (ll hz), .int (ii hd), .int (ii pc0), .int (ii sc)], ob D pa 6 [.ref tb, .ref vb, .int (ii n), .int (ii pk), .long (ll last)], al D 2 tb cap T, al D 2 vb cap V] [(0, .ref a), (1, .ref pa), (2, .int (ii x)), (3, .int (ii y))] 0 []
  refine jr_iload_n ok 3 d_St_letGo_0 rfl rfl ?_
  refine jr_iload_n ok 2 d_St_letGo_1 rfl rfl ?_
  refine jr_icmp_gt 7 ok ⟨by omega, by omega⟩ ⟨by omega, by omega⟩ d_St_letGo_2 (by decide) (fun c1 => ?_) (fun c1 => ?_)
  · skip
    refine jr_aload_n ok 0 d_St_letGo_7 rfl rfl ?_
    refine jr_dup rfl ok d_St_letGo_8 ?_
    refine jr_get ok 0 f_St_37 rfl rfl d_St_letGo_9 ?_
    refine jr_iload_n ok 3 d_St_letGo_12 rfl rfl ?_
    refine jr_iload_n ok 2 d_St_letGo_13 rfl rfl ?_
    refine jr_isub ok d_St_letGo_14 ?_
    refine jr_aload_n ok 1 d_St_letGo_15 rfl rfl ?_
    refine jr_iload_n ok 2 d_St_letGo_16 rfl rfl ?_
    refine jr_iload_n ok 3 d_St_letGo_17 rfl rfl ?_
    refine jr_cV1 [1] [0, 2, 3] [ob D pa 6 [.ref tb, .ref vb, .int (ii n), .int (ii pk), .long (ll last)], ob D a 10 [.ref ra, .int (ii cnt), .long (ll hz), .int (ii hd), .int (ii pc0), .int (ii sc)], al D 2 tb cap T, al D 2 vb cap V] 0 0 ok hR m_St_69 1 (c_Pt_packedAmong (jx_l X) D pa tb vb n pk last x y (by first | assumption | omega) (by first | assumption | omega) (by first | assumption | omega) (by first | assumption | omega) (by first | assumption | omega) (by first | assumption | omega)) (List.isPerm_iff.mp rfl) rfl rfl rfl rfl rfl rfl rfl (Nat.le_of_ble_eq_true rfl) ⟨Nat.le_of_ble_eq_true rfl, Nat.le_of_ble_eq_true rfl⟩ rfl rfl ⟨Nat.le_of_ble_eq_true rfl, Nat.le_of_ble_eq_true rfl⟩ d_St_letGo_18 (fun _ => ?_)
    refine jr_isub ok d_St_letGo_21 ?_
    refine jr_isub ok d_St_letGo_22 ?_
    refine jr_put [ob D pa 6 [.ref tb, .ref vb, .int (ii n), .int (ii pk), .long (ll last)], ob D a 10 [.ref ra, .int (ii cnt), .long (ll hz), .int (ii (hd - ((y - x) - (max 0 (min y pk - x))))), .int (ii pc0), .int (ii sc)], al D 2 tb cap T, al D 2 vb cap V] ok 1 f_St_37 rfl rfl rfl (Nat.le_of_ble_eq_true rfl) rfl d_St_letGo_23 ?_
    refine jr_aload_n ok 1 d_St_letGo_26 rfl rfl ?_
    refine jr_iload_n ok 2 d_St_letGo_27 rfl rfl ?_
    refine jr_iload_n ok 3 d_St_letGo_28 rfl rfl ?_
    refine jr_cV0 [0, 2, 3] [1] [ob D pa 6 [.ref tb, .ref vb, .int (ii (n - (y - x))), .int (ii (pk - (max 0 (min y pk - x)))), .long (ll last)], al D 2 tb cap (fun j => if x ≤ j ∧ j < x + (n - y) then T (y + (j - x)) else T j), al D 2 vb cap (fun j => if x ≤ j ∧ j < x + (n - y) then V (y + (j - x)) else V j), ob D a 10 [.ref ra, .int (ii cnt), .long (ll hz), .int (ii (hd - ((y - x) - (max 0 (min y pk - x))))), .int (ii pc0), .int (ii sc)]] 0 0 ok hR m_St_73 0 (c_Pt_remove (jx_l X) D pa tb vb n pk last cap T V x y (by first | assumption | omega) (by first | assumption | omega) (by first | assumption | omega) (by first | assumption | omega) (by first | assumption | omega) (by first | assumption | omega) (by first | assumption | omega) (by first | assumption | omega)) (List.isPerm_iff.mp rfl) rfl rfl rfl rfl rfl rfl rfl (Nat.le_of_ble_eq_true rfl) ⟨Nat.le_of_ble_eq_true rfl, Nat.le_of_ble_eq_true rfl⟩ rfl rfl ⟨Nat.le_of_ble_eq_true rfl, Nat.le_of_ble_eq_true rfl⟩ d_St_letGo_29 (fun _ => ?_)
    refine jr_iload_n ok 3 d_St_letGo_32 rfl rfl ?_
    refine jr_iload_n ok 2 d_St_letGo_33 rfl rfl ?_
    refine jr_isub ok d_St_letGo_34 ?_
    exact jr_iret ok fin (Nat.le_refl _) (Nat.le_refl _) () rfl trivial (sg_pick [3, 0, 1, 2] (List.isPerm_iff.mp rfl) rfl) d_St_letGo_35
  · skip
    exfalso; omega

set_option maxHeartbeats 4000000 in
set_option maxRecDepth 100000 in
/-- Store.letGo of none -/
theorem c_St_letGo0 (l : Launch) (D : jd_T) (a : Nat) (ra : Nat) (cnt : Int) (hz : Int) (hd : Int) (pc0 : Int) (sc : Int) (pa : Nat) (x : Int) (y : Int) (hy0 : iR x) (hy1 : iR y) (hy2 : y ≤ x) : jc_C l D y_St_letGo b_St_letGo 4 (some .int) { frames := 0, cells := 0, slots := 0, locals := 0 } [.ref a, .ref pa, .int (ii x), .int (ii y)] [ob D a 10 [.ref ra, .int (ii cnt), .long (ll hz), .int (ii hd), .int (ii pc0), .int (ii sc)]] (fun _ : Unit => (.returned (some (.int (ii 0))), True, [ob D a 10 [.ref ra, .int (ii cnt), .long (ll hz), .int (ii hd), .int (ii pc0), .int (ii sc)]])) := by
  refine jc_of rfl (Nat.le_of_ble_eq_true rfl) ?_
  intro X hl hR hN ok hnm fin
  subst hl
  show jw X 0 0 [ob D a 10 [.ref ra, .int (ii cnt), .long (ll hz), .int (ii hd), .int (ii pc0), .int (ii sc)]] [(0, .ref a), (1, .ref pa), (2, .int (ii x)), (3, .int (ii y))] 0 []
  refine jr_iload_n ok 3 d_St_letGo_0 rfl rfl ?_
  refine jr_iload_n ok 2 d_St_letGo_1 rfl rfl ?_
  refine jr_icmp_gt 7 ok ⟨by omega, by omega⟩ ⟨by omega, by omega⟩ d_St_letGo_2 (by decide) (fun c1 => ?_) (fun c1 => ?_)
  · skip
    exfalso; omega
  · skip
    refine jr_iconst ok d_St_letGo_5 ?_
    exact jr_iret ok fin (Nat.le_refl _) (Nat.le_refl _) () rfl trivial sg_same d_St_letGo_6

set_option maxHeartbeats 4000000 in
set_option maxRecDepth 100000 in
/-- Store.putPoint where there is room -/
theorem c_St_putPoint0 (l : Launch) (D : jd_T) (a : Nat) (ra : Nat) (cnt : Int) (hz : Int) (hd : Int) (pc0 : Int) (sc : Int) (pa : Nat) (tb : Nat) (vb : Nat) (n : Int) (pk : Int) (last : Int) (cap : Int) (T : Int → Int64) (V : Int → Int64) (time : Int) (val : Int64) (hy0 : 0 ≤ n) (hy1 : n ≤ cap) (hy2 : cap ≤ 1000000) (hy3 : n < cap) : jc_C l D y_St_putPoint b_St_putPoint 6 none { frames := 1, cells := 0, slots := 0, locals := 25 } [.ref a, .ref pa, .long (ll time), .long val] [ob D a 10 [.ref ra, .int (ii cnt), .long (ll hz), .int (ii hd), .int (ii pc0), .int (ii sc)], ob D pa 6 [.ref tb, .ref vb, .int (ii n), .int (ii pk), .long (ll last)], al D 2 tb cap T, al D 2 vb cap V] (fun _ : Unit => (.returned (none), True, [ob D a 10 [.ref ra, .int (ii cnt), .long (ll hz), .int (ii (hd + 1)), .int (ii pc0), .int (ii sc)], ob D pa 6 [.ref tb, .ref vb, .int (ii (n + 1)), .int (ii pk), .long (ll time)], al D 2 tb cap (fun j => if j = n then (ll time) else T j), al D 2 vb cap (fun j => if j = n then val else V j)])) := by
  refine jc_of rfl (Nat.le_of_ble_eq_true rfl) ?_
  intro X hl hR hN ok hnm fin
  subst hl
  show jw X 0 0 [ob D a 10 [.ref ra, .int (ii cnt), .long (ll hz), .int (ii hd), .int (ii pc0), .int (ii sc)], ob D pa 6 [.ref tb, .ref vb, .int (ii n), .int (ii pk), .long (ll last)], al D 2 tb cap T, al D 2 vb cap V] [(0, .ref a), (1, .ref pa), (2, .long (ll time)), (4, .long val)] 0 []
  refine jr_aload_n ok 1 d_St_putPoint_0 rfl rfl ?_
  refine jr_lload_n ok 2 d_St_putPoint_1 rfl rfl ?_
  refine jr_lload ok 3 d_St_putPoint_2 rfl ?_
  refine jr_cV0 [1, 2, 3] [0] [ob D pa 6 [.ref tb, .ref vb, .int (ii (n + 1)), .int (ii pk), .long (ll time)], al D 2 tb cap (fun j => if j = n then (ll time) else T j), al D 2 vb cap (fun j => if j = n then val else V j), ob D a 10 [.ref ra, .int (ii cnt), .long (ll hz), .int (ii hd), .int (ii pc0), .int (ii sc)]] 0 0 ok hR m_St_65 1 (c_Pt_add0 (jx_l X) D pa tb vb n pk last cap T V time val (by first | assumption | omega) (by first | assumption | omega) (by first | assumption | omega) (by first | assumption | omega)) (List.isPerm_iff.mp rfl) rfl rfl rfl rfl rfl rfl rfl (Nat.le_of_ble_eq_true rfl) ⟨Nat.le_of_ble_eq_true rfl, Nat.le_of_ble_eq_true rfl⟩ rfl rfl ⟨Nat.le_of_ble_eq_true rfl, Nat.le_of_ble_eq_true rfl⟩ d_St_putPoint_4 (fun _ => ?_)
  refine jr_aload_n ok 0 d_St_putPoint_7 rfl rfl ?_
  refine jr_dup rfl ok d_St_putPoint_8 ?_
  refine jr_get ok 3 f_St_37 rfl rfl d_St_putPoint_9 ?_
  refine jr_iconst ok d_St_putPoint_12 ?_
  refine jr_iadd ok d_St_putPoint_13 ?_
  refine jr_put [ob D pa 6 [.ref tb, .ref vb, .int (ii (n + 1)), .int (ii pk), .long (ll time)], al D 2 tb cap (fun j => if j = n then (ll time) else T j), al D 2 vb cap (fun j => if j = n then val else V j), ob D a 10 [.ref ra, .int (ii cnt), .long (ll hz), .int (ii (hd + 1)), .int (ii pc0), .int (ii sc)]] ok 3 f_St_37 rfl rfl rfl (Nat.le_of_ble_eq_true rfl) rfl d_St_putPoint_14 ?_
  exact jr_vret ok fin (Nat.le_refl _) (Nat.le_refl _) () rfl trivial (sg_pick [3, 0, 1, 2] (List.isPerm_iff.mp rfl) rfl) d_St_putPoint_17

set_option maxHeartbeats 4000000 in
set_option maxRecDepth 100000 in
/-- Store.putPoint where the rows grow -/
theorem c_St_putPoint1 (l : Launch) (D : jd_T) (a : Nat) (ra : Nat) (cnt : Int) (hz : Int) (hd : Int) (pc0 : Int) (sc : Int) (pa : Nat) (tb : Nat) (vb : Nat) (n : Int) (pk : Int) (last : Int) (cap : Int) (T : Int → Int64) (V : Int → Int64) (time : Int) (val : Int64) (hy0 : 0 ≤ n) (hy1 : n ≤ cap) (hy2 : cap ≤ 1000000) (hy3 : n = cap) : jc_C l D y_St_putPoint b_St_putPoint 6 none { frames := 3, cells := 2, slots := 2 * (max 4 (2 * n)).toNat, locals := 87 } [.ref a, .ref pa, .long (ll time), .long val] [ob D a 10 [.ref ra, .int (ii cnt), .long (ll hz), .int (ii hd), .int (ii pc0), .int (ii sc)], ob D pa 6 [.ref tb, .ref vb, .int (ii n), .int (ii pk), .long (ll last)], al D 2 tb cap T, al D 2 vb cap V] (fun u : Nat × Nat × (Int → Int64) × (Int → Int64) => (.returned (none), (∀ j, 0 ≤ j → j < n → u.2.2.1 j = T j ∧ u.2.2.2 j = V j) ∧ u.2.2.1 n = ll time ∧ u.2.2.2 n = val, [ob D a 10 [.ref ra, .int (ii cnt), .long (ll hz), .int (ii (hd + 1)), .int (ii pc0), .int (ii sc)], ob D pa 6 [.ref u.1, .ref u.2.1, .int (ii (n + 1)), .int (ii pk), .long (ll time)], al D 2 u.1 (max 4 (2 * n)) u.2.2.1, al D 2 u.2.1 (max 4 (2 * n)) u.2.2.2])) := by
  refine jc_of rfl (Nat.le_of_ble_eq_true rfl) ?_
  intro X hl hR hN ok hnm fin
  subst hl
  show jw X 0 0 [ob D a 10 [.ref ra, .int (ii cnt), .long (ll hz), .int (ii hd), .int (ii pc0), .int (ii sc)], ob D pa 6 [.ref tb, .ref vb, .int (ii n), .int (ii pk), .long (ll last)], al D 2 tb cap T, al D 2 vb cap V] [(0, .ref a), (1, .ref pa), (2, .long (ll time)), (4, .long val)] 0 []
  refine jr_aload_n ok 1 d_St_putPoint_0 rfl rfl ?_
  refine jr_lload_n ok 2 d_St_putPoint_1 rfl rfl ?_
  refine jr_lload ok 3 d_St_putPoint_2 rfl ?_
  refine jr_cV0x [1, 2, 3] [0] (fun u : Nat × Nat × (Int → Int64) × (Int → Int64) => [ob D pa 6 [.ref u.1, .ref u.2.1, .int (ii (n + 1)), .int (ii pk), .long (ll time)], al D 2 u.1 (max 4 (2 * n)) u.2.2.1, al D 2 u.2.1 (max 4 (2 * n)) u.2.2.2, ob D a 10 [.ref ra, .int (ii cnt), .long (ll hz), .int (ii hd), .int (ii pc0), .int (ii sc)]]) 2 (2 * (max 4 (2 * n)).toNat) ok hR m_St_65 1 (c_Pt_add1 (jx_l X) D pa tb vb n pk last cap T V time val (by first | assumption | omega) (by first | assumption | omega) (by first | assumption | omega) (by first | assumption | omega)) (List.isPerm_iff.mp rfl) rfl rfl (fun _ => rfl) rfl rfl rfl rfl (Nat.le_of_ble_eq_true rfl) ⟨Nat.le_of_ble_eq_true rfl, Nat.le_of_ble_eq_true rfl⟩ rfl (Nat.zero_add _) ⟨Nat.le_of_ble_eq_true rfl, Nat.le_refl _⟩ d_St_putPoint_4 (fun ⟨tb21, vb21, T21, V21⟩ hx1 => ?_)
  have hx1 : (∀ j, 0 ≤ j → j < n → T21 j = T j ∧ V21 j = V j) ∧ T21 n = ll time ∧ V21 n = val := hx1
  show jw X 2 (2 * (max 4 (2 * n)).toNat) [ob D pa 6 [.ref tb21, .ref vb21, .int (ii (n + 1)), .int (ii pk), .long (ll time)], al D 2 tb21 (max 4 (2 * n)) T21, al D 2 vb21 (max 4 (2 * n)) V21, ob D a 10 [.ref ra, .int (ii cnt), .long (ll hz), .int (ii hd), .int (ii pc0), .int (ii sc)]] [(0, .ref a), (1, .ref pa), (2, .long (ll time)), (4, .long val)] 7 []
  refine jr_aload_n ok 0 d_St_putPoint_7 rfl rfl ?_
  refine jr_dup rfl ok d_St_putPoint_8 ?_
  refine jr_get ok 3 f_St_37 rfl rfl d_St_putPoint_9 ?_
  refine jr_iconst ok d_St_putPoint_12 ?_
  refine jr_iadd ok d_St_putPoint_13 ?_
  refine jr_put [ob D pa 6 [.ref tb21, .ref vb21, .int (ii (n + 1)), .int (ii pk), .long (ll time)], al D 2 tb21 (max 4 (2 * n)) T21, al D 2 vb21 (max 4 (2 * n)) V21, ob D a 10 [.ref ra, .int (ii cnt), .long (ll hz), .int (ii (hd + 1)), .int (ii pc0), .int (ii sc)]] ok 3 f_St_37 rfl rfl rfl (Nat.le_of_ble_eq_true rfl) rfl d_St_putPoint_14 ?_
  exact jr_vret ok fin (Nat.le_refl _) (Nat.le_refl _) ⟨tb21, vb21, T21, V21⟩ rfl hx1 (sg_pick [3, 0, 1, 2] (List.isPerm_iff.mp rfl) rfl) d_St_putPoint_17

/-- how many points are seen in the first series -/
def sumN (Z : Nat → ZS) : Nat → Int
  | 0 => 0
  | k + 1 => sumN Z k + zN (Z k)
def pkd (z : ZS) : ZS := (z.1, (zLn z, zM z, zN z, zN z, zLast z, zCap z), z.2.2)
def pkdTo (Z : Nat → ZS) (m : Nat) : Nat → ZS := fun j => if j < m then pkd (Z j) else Z j
theorem pkdTo_0 (Z : Nat → ZS) : pkdTo Z 0 = Z := by
  funext j
  unfold pkdTo
  rw [if_neg (by omega)]
theorem pkdTo_step (Z : Nat → ZS) (m : Nat) : (fun j => if j = m then pkd (Z m) else pkdTo Z m j) = pkdTo Z (m + 1) := by
  funext j
  unfold pkdTo
  by_cases q : j = m
  · subst q; rw [if_pos rfl, if_pos (by omega)]
  · rw [if_neg q]
    by_cases q2 : j < m
    · rw [if_pos q2, if_pos (by omega)]
    · rw [if_neg q2, if_neg (by omega)]

set_option maxHeartbeats 4000000 in
set_option maxRecDepth 100000 in
/-- Store.seenPoints -/
theorem c_St_seenPoints (l : Launch) (D : jd_T) (a : Nat) (ra : Nat) (hz : Int) (hd : Int) (pc0 : Int) (sc : Int) (rf : Int → Value) (Z : Nat → ZS) (N : Nat) (hy0 : N ≤ 256) (hy1 : ∀ m : Nat, m < N → rf (m : Int) = .ref (zA (Z m))) : jc_C l D y_St_seenPoints b_St_seenPoints 4 (some .int) { frames := 1, cells := 0, slots := 0, locals := 21 } [.ref a] [ob D a 10 [.ref ra, .int (ii (N : Int)), .long (ll hz), .int (ii hd), .int (ii pc0), .int (ii sc)], aq D 4 ra 256 rf, poolA D Z N] (fun _ : Unit => (.returned (some (.int (ii (sumN Z N)))), True, [ob D a 10 [.ref ra, .int (ii (N : Int)), .long (ll hz), .int (ii hd), .int (ii pc0), .int (ii sc)], aq D 4 ra 256 rf, poolA D Z N])) := by
  refine jc_of rfl (Nat.le_of_ble_eq_true rfl) ?_
  intro X hl hR hN ok hnm fin
  subst hl
  show jw X 0 0 [ob D a 10 [.ref ra, .int (ii (N : Int)), .long (ll hz), .int (ii hd), .int (ii pc0), .int (ii sc)], aq D 4 ra 256 rf, poolA D Z N] [(0, .ref a)] 0 []
  have lp : ∀ (k m : Nat), m + k = N → jw X 0 0 [ob D a 10 [.ref ra, .int (ii (N : Int)), .long (ll hz), .int (ii hd), .int (ii pc0), .int (ii sc)], aq D 4 ra 256 rf, poolA D Z N] [(2, .int (ii (m : Int))), (1, .int (ii (sumN Z m))), (0, .ref a)] 4 [] := by
    intro k
    induction k with
    | zero =>
      intro m hm
      have e9 : m = N := by omega
      subst e9
      refine jr_iload_n ok 0 d_St_seenPoints_4 rfl rfl ?_
      refine jr_aload_n ok 2 d_St_seenPoints_5 rfl rfl ?_
      refine jr_get ok 0 f_St_17 rfl rfl d_St_seenPoints_6 ?_
      refine jr_icmp_ge 42 ok ⟨by omega, by omega⟩ ⟨by omega, by omega⟩ d_St_seenPoints_9 (by decide) (fun c1 => ?_) (fun c1 => ?_)
      · skip
        refine jr_iload_n ok 1 d_St_seenPoints_42 rfl rfl ?_
        exact jr_iret ok fin (Nat.le_refl _) (Nat.le_refl _) () rfl trivial sg_same d_St_seenPoints_43
      · skip
        exfalso; omega
    | succ k ih =>
      intro m hm
      refine jr_iload_n ok 0 d_St_seenPoints_4 rfl rfl ?_
      refine jr_aload_n ok 2 d_St_seenPoints_5 rfl rfl ?_
      refine jr_get ok 0 f_St_17 rfl rfl d_St_seenPoints_6 ?_
      refine jr_icmp_ge 42 ok ⟨by omega, by omega⟩ ⟨by omega, by omega⟩ d_St_seenPoints_9 (by decide) (fun c2 => ?_) (fun c2 => ?_)
      · skip
        exfalso; omega
      · skip
        refine jr_aload_n ok 2 d_St_seenPoints_12 rfl rfl ?_
        refine jr_iload_n ok 0 d_St_seenPoints_13 rfl rfl ?_
        refine jr_cV1 [0, 1] [2] [ob D a 10 [.ref ra, .int (ii (N : Int)), .long (ll hz), .int (ii hd), .int (ii pc0), .int (ii sc)], aq D 4 ra 256 rf, poolA D Z N] 0 0 ok hR m_St_21 0 (c_St_find1 (jx_l X) D a ra (N : Int) hz hd pc0 sc rf (m : Int) (zA (Z m)) (by omega) (by omega) (by omega) (by omega) (hy1 m (by omega))) (List.isPerm_iff.mp rfl) rfl rfl rfl rfl rfl rfl rfl (Nat.le_of_ble_eq_true rfl) ⟨Nat.le_of_ble_eq_true rfl, Nat.le_of_ble_eq_true rfl⟩ rfl rfl ⟨Nat.le_of_ble_eq_true rfl, Nat.le_of_ble_eq_true rfl⟩ d_St_seenPoints_14 (fun _ => ?_)
        refine jr_astore_n [(3, .ref (zA (Z m))), (2, .int (ii (m : Int))), (1, .int (ii (sumN Z m))), (0, .ref a)] ok d_St_seenPoints_17 rfl (by rw [hN]; decide) rfl ?_
        refine jr_take (i := m) 2 rfl (by omega) ?_
        show jw X 0 0 [ob D (zA (Z m)) 9 [.ref (zLb (Z m)), .ref (zSb (Z m)), .ref (zGb (Z m)), .ref (zEb (Z m)), .ref (zPa (Z m))], ai D 1 (zLb (Z m)) (zLn (Z m)) (zF (Z m)), ai D 0 (zSb (Z m)) (zM (Z m)) (zS (Z m)), ai D 0 (zGb (Z m)) (zM (Z m)) (zG (Z m)), ai D 0 (zEb (Z m)) (zM (Z m)) (zE (Z m)), ob D (zPa (Z m)) 6 [.ref (zTb (Z m)), .ref (zVb (Z m)), .int (ii (zN (Z m))), .int (ii (zPk (Z m))), .long (ll (zLast (Z m)))], al D 2 (zTb (Z m)) (zCap (Z m)) (zT (Z m)), al D 2 (zVb (Z m)) (zCap (Z m)) (zV (Z m)), ob D a 10 [.ref ra, .int (ii (N : Int)), .long (ll hz), .int (ii hd), .int (ii pc0), .int (ii sc)], aq D 4 ra 256 rf, holeA D Z N m] [(3, .ref (zA (Z m))), (2, .int (ii (m : Int))), (1, .int (ii (sumN Z m))), (0, .ref a)] 18 []
        refine jr_iload_n ok 2 d_St_seenPoints_18 rfl rfl ?_
        refine jr_aload_n ok 0 d_St_seenPoints_19 rfl rfl ?_
        refine jr_ifnonnull_r 27 ok d_St_seenPoints_20 (by decide) ?_
        refine jr_aload_n ok 0 d_St_seenPoints_27 rfl rfl ?_
        refine jr_cV1 [0] [1, 2, 3, 4, 5, 6, 7, 8, 9, 10] [ob D (zA (Z m)) 9 [(.ref (zLb (Z m))), (.ref (zSb (Z m))), (.ref (zGb (Z m))), (.ref (zEb (Z m))), .ref (zPa (Z m))], ai D 1 (zLb (Z m)) (zLn (Z m)) (zF (Z m)), ai D 0 (zSb (Z m)) (zM (Z m)) (zS (Z m)), ai D 0 (zGb (Z m)) (zM (Z m)) (zG (Z m)), ai D 0 (zEb (Z m)) (zM (Z m)) (zE (Z m)), ob D (zPa (Z m)) 6 [.ref (zTb (Z m)), .ref (zVb (Z m)), .int (ii (zN (Z m))), .int (ii (zPk (Z m))), .long (ll (zLast (Z m)))], al D 2 (zTb (Z m)) (zCap (Z m)) (zT (Z m)), al D 2 (zVb (Z m)) (zCap (Z m)) (zV (Z m)), ob D a 10 [.ref ra, .int (ii (N : Int)), .long (ll hz), .int (ii hd), .int (ii pc0), .int (ii sc)], aq D 4 ra 256 rf, holeA D Z N m] 0 0 ok hR m_St_46 0 (c_Se_points (jx_l X) D (zA (Z m)) (zPa (Z m)) (.ref (zLb (Z m))) (.ref (zSb (Z m))) (.ref (zGb (Z m))) (.ref (zEb (Z m)))) (List.isPerm_iff.mp rfl) rfl rfl rfl rfl rfl rfl rfl (Nat.le_of_ble_eq_true rfl) ⟨Nat.le_of_ble_eq_true rfl, Nat.le_of_ble_eq_true rfl⟩ rfl rfl ⟨Nat.le_of_ble_eq_true rfl, Nat.le_of_ble_eq_true rfl⟩ d_St_seenPoints_28 (fun _ => ?_)
        refine jr_cV1 [5] [0, 1, 2, 3, 4, 6, 7, 8, 9, 10] [ob D (zPa (Z m)) 6 [(.ref (zTb (Z m))), (.ref (zVb (Z m))), .int (ii (zN (Z m))), .int (ii (zPk (Z m))), .long (ll (zLast (Z m)))], ob D (zA (Z m)) 9 [(.ref (zLb (Z m))), (.ref (zSb (Z m))), (.ref (zGb (Z m))), (.ref (zEb (Z m))), .ref (zPa (Z m))], ai D 1 (zLb (Z m)) (zLn (Z m)) (zF (Z m)), ai D 0 (zSb (Z m)) (zM (Z m)) (zS (Z m)), ai D 0 (zGb (Z m)) (zM (Z m)) (zG (Z m)), ai D 0 (zEb (Z m)) (zM (Z m)) (zE (Z m)), al D 2 (zTb (Z m)) (zCap (Z m)) (zT (Z m)), al D 2 (zVb (Z m)) (zCap (Z m)) (zV (Z m)), ob D a 10 [.ref ra, .int (ii (N : Int)), .long (ll hz), .int (ii hd), .int (ii pc0), .int (ii sc)], aq D 4 ra 256 rf, holeA D Z N m] 0 0 ok hR m_St_50 5 (c_Pt_size (jx_l X) D (zPa (Z m)) (.ref (zTb (Z m))) (.ref (zVb (Z m))) (zN (Z m)) (zPk (Z m)) (ll (zLast (Z m)))) (List.isPerm_iff.mp rfl) rfl rfl rfl rfl rfl rfl rfl (Nat.le_of_ble_eq_true rfl) ⟨Nat.le_of_ble_eq_true rfl, Nat.le_of_ble_eq_true rfl⟩ rfl rfl ⟨Nat.le_of_ble_eq_true rfl, Nat.le_of_ble_eq_true rfl⟩ d_St_seenPoints_31 (fun _ => ?_)
        refine jr_iadd ok d_St_seenPoints_34 ?_
        refine jr_istore_n [(1, .int (ii ((sumN Z m) + (zN (Z m))))), (3, .ref (zA (Z m))), (2, .int (ii (m : Int))), (0, .ref a)] ok d_St_seenPoints_35 rfl (by rw [hN]; decide) rfl ?_
        refine jr_iinc [(2, .int (ii ((m : Int) + 1))), (1, .int (ii ((sumN Z m) + (zN (Z m))))), (3, .ref (zA (Z m))), (0, .ref a)] 2 ok d_St_seenPoints_36 rfl (by rw [hN]; decide) rfl ?_
        refine jr_goto 4 ok d_St_seenPoints_39 (by decide) ?_
        refine jr_pick (L' := [ob D (zA (Z m)) 9 [.ref (zLb (Z m)), .ref (zSb (Z m)), .ref (zGb (Z m)), .ref (zEb (Z m)), .ref (zPa (Z m))], ai D 1 (zLb (Z m)) (zLn (Z m)) (zF (Z m)), ai D 0 (zSb (Z m)) (zM (Z m)) (zS (Z m)), ai D 0 (zGb (Z m)) (zM (Z m)) (zG (Z m)), ai D 0 (zEb (Z m)) (zM (Z m)) (zE (Z m)), ob D (zPa (Z m)) 6 [.ref (zTb (Z m)), .ref (zVb (Z m)), .int (ii (zN (Z m))), .int (ii (zPk (Z m))), .long (ll (zLast (Z m)))], al D 2 (zTb (Z m)) (zCap (Z m)) (zT (Z m)), al D 2 (zVb (Z m)) (zCap (Z m)) (zV (Z m)), ob D a 10 [.ref ra, .int (ii (N : Int)), .long (ll hz), .int (ii hd), .int (ii pc0), .int (ii sc)], aq D 4 ra 256 rf, holeA D Z N m]) [1, 2, 3, 4, 5, 0, 6, 7, 8, 9, 10] (List.isPerm_iff.mp rfl) rfl ?_
        refine jr_back (Lr := [ob D a 10 [.ref ra, .int (ii (N : Int)), .long (ll hz), .int (ii hd), .int (ii pc0), .int (ii sc)], aq D 4 ra 256 rf, holeA D Z N m]) 2 rfl rfl (by omega) ?_
        exact jr_lv [0, 1, 3] rfl (ih (m + 1) (by omega))
  refine jr_iconst ok d_St_seenPoints_0 ?_
  refine jr_istore_n [(1, .int (ii 0)), (0, .ref a)] ok d_St_seenPoints_1 rfl (by rw [hN]; decide) rfl ?_
  refine jr_iconst ok d_St_seenPoints_2 ?_
  refine jr_istore_n [(2, .int (ii 0)), (1, .int (ii 0)), (0, .ref a)] ok d_St_seenPoints_3 rfl (by rw [hN]; decide) rfl ?_
  exact jr_lv [0, 1, 2] rfl (lp N 0 (by omega))

