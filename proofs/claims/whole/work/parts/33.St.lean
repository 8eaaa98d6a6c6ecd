def bI (p : Prop) [Decidable p] : Int := if p then 1 else 0
theorem bI_01 (p : Prop) [Decidable p] : bI p = 0 ∨ bI p = 1 := by
  unfold bI
  split
  · exact Or.inr rfl
  · exact Or.inl rfl

set_option maxHeartbeats 4000000 in
set_option maxRecDepth 100000 in
/-- Store.isFull -/
theorem c_St_isFull (l : Launch) (D : jd_T) (a : Nat) (ra : Nat) (cnt : Int) (hz : Int) (hd : Int) (pc0 : Int) (sc : Int) (rf : Int → Value) (hy0 : 0 ≤ cnt) (hy1 : cnt ≤ 256) : jc_C l D y_St_isFull b_St_isFull 1 (some .boolean) { frames := 0, cells := 0, slots := 0, locals := 0 } [.ref a] [ob D a 10 [.ref ra, .int (ii cnt), .long (ll hz), .int (ii hd), .int (ii pc0), .int (ii sc)], aq D 4 ra 256 rf] (fun _ : Unit => (.returned (some (.int (ii (bI (256 ≤ cnt))))), True, [ob D a 10 [.ref ra, .int (ii cnt), .long (ll hz), .int (ii hd), .int (ii pc0), .int (ii sc)], aq D 4 ra 256 rf])) := by
  refine jc_of rfl (Nat.le_of_ble_eq_true rfl) ?_
  intro X hl hR hN ok hnm fin
  subst hl
  show jw X 0 0 [ob D a 10 [.ref ra, .int (ii cnt), .long (ll hz), .int (ii hd), .int (ii pc0), .int (ii sc)], aq D 4 ra 256 rf] [(0, .ref a)] 0 []
  refine jr_aload_n ok 0 d_St_isFull_0 rfl rfl ?_
  refine jr_get ok 0 f_St_17 rfl rfl d_St_isFull_1 ?_
  refine jr_aload_n ok 0 d_St_isFull_4 rfl rfl ?_
  refine jr_get ok 0 f_St_11 rfl rfl d_St_isFull_5 ?_
  refine jr_alen_q ok 1 rfl rfl d_St_isFull_8 ?_
  refine jr_icmp_lt 16 ok ⟨by omega, by omega⟩ ⟨by decide, by decide⟩ d_St_isFull_9 (by decide) (fun c1 => ?_) (fun c1 => ?_)
  · skip
    refine jr_iconst ok d_St_isFull_16 ?_
    exact jr_zret ok (by decide +kernel) fin (Nat.le_refl _) (Nat.le_refl _) () (congrArg (fun z => Outcome.returned (some (Value.int (ii z)))) (show (bI (256 ≤ cnt)) = 0 from (by unfold bI; rw [if_neg (by omega)]))) trivial sg_same d_St_isFull_17
  · skip
    refine jr_iconst ok d_St_isFull_12 ?_
    refine jr_goto 17 ok d_St_isFull_13 (by decide) ?_
    exact jr_zret ok (by decide +kernel) fin (Nat.le_refl _) (Nat.le_refl _) () (congrArg (fun z => Outcome.returned (some (Value.int (ii z)))) (show (bI (256 ≤ cnt)) = 1 from (by unfold bI; rw [if_pos (by omega)]))) trivial sg_same d_St_isFull_17

set_option maxHeartbeats 4000000 in
set_option maxRecDepth 100000 in
/-- Store.headIsFull -/
theorem c_St_headIsFull (l : Launch) (D : jd_T) (a : Nat) (ra : Nat) (cnt : Int) (hz : Int) (hd : Int) (pc0 : Int) (sc : Int) (hy0 : iR hd) : jc_C l D y_St_headIsFull b_St_headIsFull 1 (some .boolean) { frames := 0, cells := 0, slots := 0, locals := 0 } [.ref a] [ob D a 10 [.ref ra, .int (ii cnt), .long (ll hz), .int (ii hd), .int (ii pc0), .int (ii sc)]] (fun _ : Unit => (.returned (some (.int (ii (bI (4096 ≤ hd))))), True, [ob D a 10 [.ref ra, .int (ii cnt), .long (ll hz), .int (ii hd), .int (ii pc0), .int (ii sc)]])) := by
  refine jc_of rfl (Nat.le_of_ble_eq_true rfl) ?_
  intro X hl hR hN ok hnm fin
  subst hl
  show jw X 0 0 [ob D a 10 [.ref ra, .int (ii cnt), .long (ll hz), .int (ii hd), .int (ii pc0), .int (ii sc)]] [(0, .ref a)] 0 []
  refine jr_aload_n ok 0 d_St_headIsFull_0 rfl rfl ?_
  refine jr_get ok 0 f_St_37 rfl rfl d_St_headIsFull_1 ?_
  refine jr_sipush ok d_St_headIsFull_4 (by decide +kernel) ?_
  refine jr_icmp_lt 14 ok ⟨by omega, by omega⟩ ⟨by decide, by decide⟩ d_St_headIsFull_7 (by decide) (fun c1 => ?_) (fun c1 => ?_)
  · skip
    refine jr_iconst ok d_St_headIsFull_14 ?_
    exact jr_zret ok (by decide +kernel) fin (Nat.le_refl _) (Nat.le_refl _) () (congrArg (fun z => Outcome.returned (some (Value.int (ii z)))) (show (bI (4096 ≤ hd)) = 0 from (by unfold bI; rw [if_neg (by omega)]))) trivial sg_same d_St_headIsFull_15
  · skip
    refine jr_iconst ok d_St_headIsFull_10 ?_
    refine jr_goto 15 ok d_St_headIsFull_11 (by decide) ?_
    exact jr_zret ok (by decide +kernel) fin (Nat.le_refl _) (Nat.le_refl _) () (congrArg (fun z => Outcome.returned (some (Value.int (ii z)))) (show (bI (4096 ≤ hd)) = 1 from (by unfold bI; rw [if_pos (by omega)]))) trivial sg_same d_St_headIsFull_15

set_option maxHeartbeats 4000000 in
set_option maxRecDepth 100000 in
/-- Store.addScar -/
theorem c_St_addScar (l : Launch) (D : jd_T) (a : Nat) (ra : Nat) (cnt : Int) (hz : Int) (hd : Int) (pc0 : Int) (sc : Int)  : jc_C l D y_St_addScar b_St_addScar 1 none { frames := 0, cells := 0, slots := 0, locals := 0 } [.ref a] [ob D a 10 [.ref ra, .int (ii cnt), .long (ll hz), .int (ii hd), .int (ii pc0), .int (ii sc)]] (fun _ : Unit => (.returned (none), True, [ob D a 10 [.ref ra, .int (ii cnt), .long (ll hz), .int (ii hd), .int (ii pc0), .int (ii (sc + 1))]])) := by
  refine jc_of rfl (Nat.le_of_ble_eq_true rfl) ?_
  intro X hl hR hN ok hnm fin
  subst hl
  show jw X 0 0 [ob D a 10 [.ref ra, .int (ii cnt), .long (ll hz), .int (ii hd), .int (ii pc0), .int (ii sc)]] [(0, .ref a)] 0 []
  refine jr_aload_n ok 0 d_St_addScar_0 rfl rfl ?_
  refine jr_dup rfl ok d_St_addScar_1 ?_
  refine jr_get ok 0 f_St_43 rfl rfl d_St_addScar_2 ?_
  refine jr_iconst ok d_St_addScar_5 ?_
  refine jr_iadd ok d_St_addScar_6 ?_
  refine jr_put [ob D a 10 [.ref ra, .int (ii cnt), .long (ll hz), .int (ii hd), .int (ii pc0), .int (ii (sc + 1))]] ok 0 f_St_43 rfl rfl rfl (Nat.le_of_ble_eq_true rfl) rfl d_St_addScar_7 ?_
  exact jr_vret ok fin (Nat.le_refl _) (Nat.le_refl _) () rfl trivial sg_same d_St_addScar_10

set_option maxHeartbeats 4000000 in
set_option maxRecDepth 100000 in
/-- Store.isTime -/
theorem c_St_isTime (l : Launch) (D : jd_T) (a : Nat) (ra : Nat) (cnt : Int) (hz : Int) (hd : Int) (pc0 : Int) (sc : Int) (t : Int) (hy0 : lR t) : jc_C l D y_St_isTime b_St_isTime 3 (some .boolean) { frames := 0, cells := 0, slots := 0, locals := 0 } [.ref a, .long (ll t)] [ob D a 10 [.ref ra, .int (ii cnt), .long (ll hz), .int (ii hd), .int (ii pc0), .int (ii sc)]] (fun _ : Unit => (.returned (some (.int (ii (bI (0 ≤ t ∧ t ≤ 1099511627775))))), True, [ob D a 10 [.ref ra, .int (ii cnt), .long (ll hz), .int (ii hd), .int (ii pc0), .int (ii sc)]])) := by
  refine jc_of rfl (Nat.le_of_ble_eq_true rfl) ?_
  intro X hl hR hN ok hnm fin
  subst hl
  show jw X 0 0 [ob D a 10 [.ref ra, .int (ii cnt), .long (ll hz), .int (ii hd), .int (ii pc0), .int (ii sc)]] [(0, .ref a), (1, .long (ll t))] 0 []
  refine jr_lload_n ok 1 d_St_isTime_0 rfl rfl ?_
  refine jr_lconst (z := 0) ok d_St_isTime_1 (by decide +kernel) ?_
  refine jr_lcmp ok ⟨by omega, by omega⟩ ⟨by omega, by omega⟩ d_St_isTime_2 ?_
  refine jr_if_lt 18 ok (lc_R _ _) d_St_isTime_3 (by decide) (fun c1 => ?_) (fun c1 => ?_)
  · have c1 : t < 0 := (by split at c1 <;> first | omega | (split at c1 <;> omega))
    refine jr_iconst ok d_St_isTime_18 ?_
    exact jr_zret ok (by decide +kernel) fin (Nat.le_refl _) (Nat.le_refl _) () (congrArg (fun z => Outcome.returned (some (Value.int (ii z)))) (show (bI (0 ≤ t ∧ t ≤ 1099511627775)) = 0 from (by unfold bI; rw [if_neg (by omega)]))) trivial sg_same d_St_isTime_19
  · have c1 : ¬ t < 0 := (by split at c1 <;> first | omega | (split at c1 <;> omega))
    refine jr_lload_n ok 1 d_St_isTime_6 rfl rfl ?_
    refine jr_ldc2 (z := 1099511627775) ok w_637 (by decide +kernel) d_St_isTime_7 ?_
    refine jr_lcmp ok ⟨by omega, by omega⟩ ⟨by omega, by omega⟩ d_St_isTime_10 ?_
    refine jr_if_gt 18 ok (lc_R _ _) d_St_isTime_11 (by decide) (fun c2 => ?_) (fun c2 => ?_)
    · have c2 : 1099511627775 < t := (by split at c2 <;> first | omega | (split at c2 <;> omega))
      refine jr_iconst ok d_St_isTime_18 ?_
      exact jr_zret ok (by decide +kernel) fin (Nat.le_refl _) (Nat.le_refl _) () (congrArg (fun z => Outcome.returned (some (Value.int (ii z)))) (show (bI (0 ≤ t ∧ t ≤ 1099511627775)) = 0 from (by unfold bI; rw [if_neg (by omega)]))) trivial sg_same d_St_isTime_19
    · have c2 : ¬ 1099511627775 < t := (by split at c2 <;> first | omega | (split at c2 <;> omega))
      refine jr_iconst ok d_St_isTime_14 ?_
      refine jr_goto 19 ok d_St_isTime_15 (by decide) ?_
      exact jr_zret ok (by decide +kernel) fin (Nat.le_refl _) (Nat.le_refl _) () (congrArg (fun z => Outcome.returned (some (Value.int (ii z)))) (show (bI (0 ≤ t ∧ t ≤ 1099511627775)) = 1 from (by unfold bI; rw [if_pos (by omega)]))) trivial sg_same d_St_isTime_19

set_option maxHeartbeats 4000000 in
set_option maxRecDepth 100000 in
/-- Store.mayCome -/
theorem c_St_mayCome (l : Launch) (D : jd_T) (a : Nat) (ra : Nat) (cnt : Int) (hz : Int) (hd : Int) (pc0 : Int) (sc : Int) (pa : Nat) (tb : Nat) (vb : Nat) (n : Int) (pk : Int) (last : Int) (t : Int) (hy0 : lR t) (hy1 : lR last) (hy2 : lR hz) : jc_C l D y_St_mayCome b_St_mayCome 4 (some .boolean) { frames := 1, cells := 0, slots := 0, locals := 22 } [.ref a, .ref pa, .long (ll t)] [ob D a 10 [.ref ra, .int (ii cnt), .long (ll hz), .int (ii hd), .int (ii pc0), .int (ii sc)], ob D pa 6 [.ref tb, .ref vb, .int (ii n), .int (ii pk), .long (ll last)]] (fun _ : Unit => (.returned (some (.int (ii (bI (0 ≤ t ∧ t ≤ 1099511627775 ∧ last < t ∧ hz ≤ t))))), True, [ob D a 10 [.ref ra, .int (ii cnt), .long (ll hz), .int (ii hd), .int (ii pc0), .int (ii sc)], ob D pa 6 [.ref tb, .ref vb, .int (ii n), .int (ii pk), .long (ll last)]])) := by
  refine jc_of rfl (Nat.le_of_ble_eq_true rfl) ?_
  intro X hl hR hN ok hnm fin
  subst hl
  show jw X 0 0 [ob D a 10 [.ref ra, .int (ii cnt), .long (ll hz), .int (ii hd), .int (ii pc0), .int (ii sc)], ob D pa 6 [.ref tb, .ref vb, .int (ii n), .int (ii pk), .long (ll last)]] [(0, .ref a), (1, .ref pa), (2, .long (ll t))] 0 []
  refine jr_aload_n ok 0 d_St_mayCome_0 rfl rfl ?_
  refine jr_lload_n ok 2 d_St_mayCome_1 rfl rfl ?_
  refine jr_cV1 [0] [1] [ob D a 10 [.ref ra, .int (ii cnt), .long (ll hz), .int (ii hd), .int (ii pc0), .int (ii sc)], ob D pa 6 [.ref tb, .ref vb, .int (ii n), .int (ii pk), .long (ll last)]] 0 0 ok hR m_St_57 0 (c_St_isTime (jx_l X) D a ra cnt hz hd pc0 sc t ⟨by omega, by omega⟩) (List.isPerm_iff.mp rfl) rfl rfl rfl rfl rfl rfl rfl (Nat.le_of_ble_eq_true rfl) ⟨Nat.le_of_ble_eq_true rfl, Nat.le_of_ble_eq_true rfl⟩ rfl rfl ⟨Nat.le_of_ble_eq_true rfl, Nat.le_of_ble_eq_true rfl⟩ d_St_mayCome_2 (fun _ => ?_)
  have hf1_0 := bI_01 (0 ≤ t ∧ t ≤ 1099511627775)
  refine jr_if_eq 30 ok ⟨by omega, by omega⟩ d_St_mayCome_5 (by decide) (fun c2 => ?_) (fun c2 => ?_)
  · skip
    have hb8 : ¬ (0 ≤ t ∧ t ≤ 1099511627775) := fun q => by rw [show bI (0 ≤ t ∧ t ≤ 1099511627775) = 1 from if_pos q] at c2; exact absurd c2 (by decide)
    refine jr_iconst ok d_St_mayCome_30 ?_
    exact jr_zret ok (by decide +kernel) fin (Nat.le_refl _) (Nat.le_refl _) () (congrArg (fun z => Outcome.returned (some (Value.int (ii z)))) (show (bI (0 ≤ t ∧ t ≤ 1099511627775 ∧ last < t ∧ hz ≤ t)) = 0 from (by unfold bI; rw [if_neg (by omega)]))) trivial sg_same d_St_mayCome_31
  · skip
    have hb8 : 0 ≤ t ∧ t ≤ 1099511627775 := Classical.byContradiction fun q => c2 (if_neg q)
    refine jr_lload_n ok 2 d_St_mayCome_8 rfl rfl ?_
    refine jr_aload_n ok 1 d_St_mayCome_9 rfl rfl ?_
    refine jr_cV1 [1] [0] [ob D pa 6 [(.ref tb), (.ref vb), .int (ii n), .int (ii pk), .long (ll last)], ob D a 10 [.ref ra, .int (ii cnt), .long (ll hz), .int (ii hd), .int (ii pc0), .int (ii sc)]] 0 0 ok hR m_St_61 1 (c_Pt_lastTime (jx_l X) D pa (.ref tb) (.ref vb) n pk (ll last)) (List.isPerm_iff.mp rfl) rfl rfl rfl rfl rfl rfl rfl (Nat.le_of_ble_eq_true rfl) ⟨Nat.le_of_ble_eq_true rfl, Nat.le_of_ble_eq_true rfl⟩ rfl rfl ⟨Nat.le_of_ble_eq_true rfl, Nat.le_of_ble_eq_true rfl⟩ d_St_mayCome_10 (fun _ => ?_)
    refine jr_lcmp ok ⟨by omega, by omega⟩ ⟨by omega, by omega⟩ d_St_mayCome_13 ?_
    refine jr_if_le 30 ok (lc_R _ _) d_St_mayCome_14 (by decide) (fun c4 => ?_) (fun c4 => ?_)
    · have c4 : t ≤ last := (by split at c4 <;> first | omega | (split at c4 <;> omega))
      refine jr_iconst ok d_St_mayCome_30 ?_
      exact jr_zret ok (by decide +kernel) fin (Nat.le_refl _) (Nat.le_refl _) () (congrArg (fun z => Outcome.returned (some (Value.int (ii z)))) (show (bI (0 ≤ t ∧ t ≤ 1099511627775 ∧ last < t ∧ hz ≤ t)) = 0 from (by unfold bI; rw [if_neg (by omega)]))) trivial (sg_pick [1, 0] (List.isPerm_iff.mp rfl) rfl) d_St_mayCome_31
    · have c4 : ¬ t ≤ last := (by split at c4 <;> first | omega | (split at c4 <;> omega))
      refine jr_lload_n ok 2 d_St_mayCome_17 rfl rfl ?_
      refine jr_aload_n ok 0 d_St_mayCome_18 rfl rfl ?_
      refine jr_get ok 1 f_St_33 rfl rfl d_St_mayCome_19 ?_
      refine jr_lcmp ok ⟨by omega, by omega⟩ ⟨by omega, by omega⟩ d_St_mayCome_22 ?_
      refine jr_if_lt 30 ok (lc_R _ _) d_St_mayCome_23 (by decide) (fun c5 => ?_) (fun c5 => ?_)
      · have c5 : t < hz := (by split at c5 <;> first | omega | (split at c5 <;> omega))
        refine jr_iconst ok d_St_mayCome_30 ?_
        exact jr_zret ok (by decide +kernel) fin (Nat.le_refl _) (Nat.le_refl _) () (congrArg (fun z => Outcome.returned (some (Value.int (ii z)))) (show (bI (0 ≤ t ∧ t ≤ 1099511627775 ∧ last < t ∧ hz ≤ t)) = 0 from (by unfold bI; rw [if_neg (by omega)]))) trivial (sg_pick [1, 0] (List.isPerm_iff.mp rfl) rfl) d_St_mayCome_31
      · have c5 : ¬ t < hz := (by split at c5 <;> first | omega | (split at c5 <;> omega))
        refine jr_iconst ok d_St_mayCome_26 ?_
        refine jr_goto 31 ok d_St_mayCome_27 (by decide) ?_
        exact jr_zret ok (by decide +kernel) fin (Nat.le_refl _) (Nat.le_refl _) () (congrArg (fun z => Outcome.returned (some (Value.int (ii z)))) (show (bI (0 ≤ t ∧ t ≤ 1099511627775 ∧ last < t ∧ hz ≤ t)) = 1 from (by unfold bI; rw [if_pos (by omega)]))) trivial (sg_pick [1, 0] (List.isPerm_iff.mp rfl) rfl) d_St_mayCome_31

set_option maxHeartbeats 4000000 in
set_option maxRecDepth 100000 in
/-- Store.find of a series that is there -/
theorem c_St_find1 (l : Launch) (D : jd_T) (a : Nat) (ra : Nat) (cnt : Int) (hz : Int) (hd : Int) (pc0 : Int) (sc : Int) (rf : Int → Value) (i : Int) (r : Nat) (hy0 : 0 ≤ cnt) (hy1 : cnt ≤ 256) (hy2 : 0 ≤ i) (hy3 : i < cnt) (hy4 : rf i = .ref r) : jc_C l D y_St_find b_St_find 2 (some (.object "WindowTables$Series")) { frames := 0, cells := 0, slots := 0, locals := 0 } [.ref a, .int (ii i)] [ob D a 10 [.ref ra, .int (ii cnt), .long (ll hz), .int (ii hd), .int (ii pc0), .int (ii sc)], aq D 4 ra 256 rf] (fun _ : Unit => (.returned (some (.ref r)), True, [ob D a 10 [.ref ra, .int (ii cnt), .long (ll hz), .int (ii hd), .int (ii pc0), .int (ii sc)], aq D 4 ra 256 rf])) := by
  refine jc_of rfl (Nat.le_of_ble_eq_true rfl) ?_
  intro X hl hR hN ok hnm fin
  subst hl
  show jw X 0 0 [ob D a 10 [.ref ra, .int (ii cnt), .long (ll hz), .int (ii hd), .int (ii pc0), .int (ii sc)], aq D 4 ra 256 rf] [(0, .ref a), (1, .int (ii i))] 0 []
  refine jr_iload_n ok 1 d_St_find_0 rfl rfl ?_
  refine jr_if_lt 21 ok ⟨by omega, by omega⟩ d_St_find_1 (by decide) (fun c1 => ?_) (fun c1 => ?_)
  · skip
    exfalso; omega
  · skip
    refine jr_iload_n ok 1 d_St_find_4 rfl rfl ?_
    refine jr_aload_n ok 0 d_St_find_5 rfl rfl ?_
    refine jr_get ok 0 f_St_17 rfl rfl d_St_find_6 ?_
    refine jr_icmp_ge 21 ok ⟨by omega, by omega⟩ ⟨by omega, by omega⟩ d_St_find_9 (by decide) (fun c2 => ?_) (fun c2 => ?_)
    · skip
      exfalso; omega
    · skip
      refine jr_aload_n ok 0 d_St_find_12 rfl rfl ?_
      refine jr_get ok 0 f_St_11 rfl rfl d_St_find_13 ?_
      refine jr_iload_n ok 1 d_St_find_16 rfl rfl ?_
      refine jr_aald ok 1 rfl rfl rfl (by omega) (by omega) d_St_find_17 ?_
      rw [hy4]
      refine jr_goto 22 ok d_St_find_18 (by decide) ?_
      exact jr_aret ok (Or.inr ⟨_, rfl⟩) fin (Nat.le_refl _) (Nat.le_refl _) () rfl trivial sg_same d_St_find_22

set_option maxHeartbeats 4000000 in
set_option maxRecDepth 100000 in
/-- Store.find of none -/
theorem c_St_find0 (l : Launch) (D : jd_T) (a : Nat) (ra : Nat) (cnt : Int) (hz : Int) (hd : Int) (pc0 : Int) (sc : Int) (rf : Int → Value) (i : Int) (hy0 : 0 ≤ cnt) (hy1 : cnt ≤ 256) (hy2 : iR i) (hy3 : i < 0 ∨ cnt ≤ i) : jc_C l D y_St_find b_St_find 2 (some (.object "WindowTables$Series")) { frames := 0, cells := 0, slots := 0, locals := 0 } [.ref a, .int (ii i)] [ob D a 10 [.ref ra, .int (ii cnt), .long (ll hz), .int (ii hd), .int (ii pc0), .int (ii sc)], aq D 4 ra 256 rf] (fun _ : Unit => (.returned (some (.null)), True, [ob D a 10 [.ref ra, .int (ii cnt), .long (ll hz), .int (ii hd), .int (ii pc0), .int (ii sc)], aq D 4 ra 256 rf])) := by
  refine jc_of rfl (Nat.le_of_ble_eq_true rfl) ?_
  intro X hl hR hN ok hnm fin
  subst hl
  show jw X 0 0 [ob D a 10 [.ref ra, .int (ii cnt), .long (ll hz), .int (ii hd), .int (ii pc0), .int (ii sc)], aq D 4 ra 256 rf] [(0, .ref a), (1, .int (ii i))] 0 []
  refine jr_iload_n ok 1 d_St_find_0 rfl rfl ?_
  refine jr_if_lt 21 ok ⟨by omega, by omega⟩ d_St_find_1 (by decide) (fun c1 => ?_) (fun c1 => ?_)
  · skip
    refine jr_null ok d_St_find_21 ?_
    exact jr_aret ok (Or.inl rfl) fin (Nat.le_refl _) (Nat.le_refl _) () rfl trivial sg_same d_St_find_22
  · skip
    refine jr_iload_n ok 1 d_St_find_4 rfl rfl ?_
    refine jr_aload_n ok 0 d_St_find_5 rfl rfl ?_
    refine jr_get ok 0 f_St_17 rfl rfl d_St_find_6 ?_
    refine jr_icmp_ge 21 ok ⟨by omega, by omega⟩ ⟨by omega, by omega⟩ d_St_find_9 (by decide) (fun c2 => ?_) (fun c2 => ?_)
    · skip
      refine jr_null ok d_St_find_21 ?_
      exact jr_aret ok (Or.inl rfl) fin (Nat.le_refl _) (Nat.le_refl _) () rfl trivial sg_same d_St_find_22
    · skip
      exfalso; omega

set_option maxHeartbeats 4000000 in
set_option maxRecDepth 100000 in
/-- Store() -/
theorem c_St_init (l : Launch) (D : jd_T) (a : Nat)  : jc_C l D y_St_init b_St_init 1 none { frames := 1, cells := 1, slots := 256, locals := 20 } [.ref a] [ob D a 10 [.null, .int (ii 0), .long (ll 0), .int (ii 0), .int (ii 0), .int (ii 0)]] (fun ra : Nat => (.returned (none), True, [ob D a 10 [.ref ra, .int (ii 0), .long (ll 0), .int (ii 0), .int (ii 0), .int (ii 0)], aq D 4 ra 256 (fun _ => .null)])) := by
  refine jc_of rfl (Nat.le_of_ble_eq_true rfl) ?_
  intro X hl hR hN ok hnm fin
  subst hl
  show jw X 0 0 [ob D a 10 [.null, .int (ii 0), .long (ll 0), .int (ii 0), .int (ii 0), .int (ii 0)]] [(0, .ref a)] 0 []
  refine jr_aload_n ok 0 d_St_init_0 rfl rfl ?_
  refine jr_objInit ok w_55 w_34 w_35 d_St_init_1 (Nat.le_of_ble_eq_true rfl) (by rw [hR]; exact Nat.le_of_ble_eq_true rfl) (by rw [hR]; exact Nat.le_of_ble_eq_true rfl) ?_
  refine jr_aload_n ok 0 d_St_init_4 rfl rfl ?_
  refine jr_sipush ok d_St_init_5 (by decide +kernel) ?_
  refine jr_newq (t := 4) ok hR rfl w_56 ok.2.2.2.2.2.2.2.1.2.1 (by decide) (by decide) (Nat.le_of_ble_eq_true rfl) (Nat.le_of_ble_eq_true rfl) d_St_init_8 (fun q1 => ?_)
  show jw X 1 256 [ob D a 10 [.null, .int (ii 0), .long (ll 0), .int (ii 0), .int (ii 0), .int (ii 0)], aq D 4 q1 256 (fun _ => .null)] [(0, .ref a)] 11 [.ref q1, .ref a]
  refine jr_putF [ob D a 10 [.ref q1, .int (ii 0), .long (ll 0), .int (ii 0), .int (ii 0), .int (ii 0)], aq D 4 q1 256 (fun _ => .null)] ok hnm 0 f_St_11 (fun C T N h => by cases h; rfl) rfl rfl rfl (Nat.le_of_ble_eq_true rfl) rfl d_St_init_11 ?_
  exact jr_vret ok fin (Nat.le_refl _) (Nat.le_refl _) q1 rfl trivial sg_same d_St_init_14

