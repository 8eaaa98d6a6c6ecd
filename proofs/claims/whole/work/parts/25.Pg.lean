/-- an order of the program, 0 outside -/
def oA (f : Int → Int) (n i : Int) : Int := if 0 ≤ i ∧ i < n then f i else 0

set_option maxHeartbeats 4000000 in
set_option maxRecDepth 100000 in
/-- Program.clear -/
theorem c_Pg_clear (l : Launch) (D : jd_T) (a : Nat) (b : Nat) (n : Int)  : jc_C l D y_Pg_clear b_Pg_clear 1 none { frames := 0, cells := 0, slots := 0, locals := 0 } [.ref a] [ob D a 7 [.ref b, .int (ii n)]] (fun _ : Unit => (.returned (none), True, [ob D a 7 [.ref b, .int (ii 0)]])) := by
  refine jc_of rfl (Nat.le_of_ble_eq_true rfl) ?_
  intro X hl hR hN ok hnm fin
  subst hl
  show jw X 0 0 [ob D a 7 [.ref b, .int (ii n)]] [(0, .ref a)] 0 []
  refine jr_aload_n ok 0 d_Pg_clear_0 rfl rfl ?_
  refine jr_iconst ok d_Pg_clear_1 ?_
  refine jr_put [ob D a 7 [.ref b, .int (ii 0)]] ok 0 f_Pg_15 rfl rfl rfl (Nat.le_of_ble_eq_true rfl) rfl d_Pg_clear_2 ?_
  exact jr_vret ok fin (Nat.le_refl _) (Nat.le_refl _) () rfl trivial sg_same d_Pg_clear_5

set_option maxHeartbeats 4000000 in
set_option maxRecDepth 100000 in
/-- Program.get -/
theorem c_Pg_get (l : Launch) (D : jd_T) (a : Nat) (b : Nat) (cap : Int) (n : Int) (f : Int → Int) (i : Int) (hy0 : 0 ≤ n) (hy1 : n ≤ cap) (hy2 : cap ≤ 1000000) (hy3 : iR i) : jc_C l D y_Pg_get b_Pg_get 2 (some .int) { frames := 0, cells := 0, slots := 0, locals := 0 } [.ref a, .int (ii i)] [ob D a 7 [.ref b, .int (ii n)], ai D 0 b cap f] (fun _ : Unit => (.returned (some (.int (ii (oA f n i)))), True, [ob D a 7 [.ref b, .int (ii n)], ai D 0 b cap f])) := by
  refine jc_of rfl (Nat.le_of_ble_eq_true rfl) ?_
  intro X hl hR hN ok hnm fin
  subst hl
  show jw X 0 0 [ob D a 7 [.ref b, .int (ii n)], ai D 0 b cap f] [(0, .ref a), (1, .int (ii i))] 0 []
  refine jr_iload_n ok 1 d_Pg_get_0 rfl rfl ?_
  refine jr_if_lt 21 ok ⟨by omega, by omega⟩ d_Pg_get_1 (by decide) (fun c1 => ?_) (fun c1 => ?_)
  · skip
    refine jr_iconst ok d_Pg_get_21 ?_
    exact jr_iret ok fin (Nat.le_refl _) (Nat.le_refl _) () (congrArg (fun z => Outcome.returned (some (Value.int (ii z)))) (show oA f n i = 0 from (by unfold oA; rw [if_neg (by omega)]))) trivial sg_same d_Pg_get_22
  · skip
    refine jr_iload_n ok 1 d_Pg_get_4 rfl rfl ?_
    refine jr_aload_n ok 0 d_Pg_get_5 rfl rfl ?_
    refine jr_get ok 0 f_Pg_15 rfl rfl d_Pg_get_6 ?_
    refine jr_icmp_ge 21 ok ⟨by omega, by omega⟩ ⟨by omega, by omega⟩ d_Pg_get_9 (by decide) (fun c2 => ?_) (fun c2 => ?_)
    · skip
      refine jr_iconst ok d_Pg_get_21 ?_
      exact jr_iret ok fin (Nat.le_refl _) (Nat.le_refl _) () (congrArg (fun z => Outcome.returned (some (Value.int (ii z)))) (show oA f n i = 0 from (by unfold oA; rw [if_neg (by omega)]))) trivial sg_same d_Pg_get_22
    · skip
      refine jr_aload_n ok 0 d_Pg_get_12 rfl rfl ?_
      refine jr_get ok 0 f_Pg_9 rfl rfl d_Pg_get_13 ?_
      refine jr_iload_n ok 1 d_Pg_get_16 rfl rfl ?_
      refine jr_iald ok 1 rfl rfl (by omega) (by omega) d_Pg_get_17 ?_
      refine jr_goto 22 ok d_Pg_get_18 (by decide) ?_
      exact jr_iret ok fin (Nat.le_refl _) (Nat.le_refl _) () (congrArg (fun z => Outcome.returned (some (Value.int (ii z)))) (show oA f n i = f i from (by unfold oA; rw [if_pos (by omega)]))) trivial sg_same d_Pg_get_22

set_option maxHeartbeats 4000000 in
set_option maxRecDepth 100000 in
/-- Program.countUp, the place being there -/
theorem c_Pg_countUp (l : Launch) (D : jd_T) (a : Nat) (b : Nat) (cap : Int) (n : Int) (f : Int → Int) (i : Int) (hy0 : 0 ≤ n) (hy1 : n ≤ cap) (hy2 : cap ≤ 1000000) (hy3 : 0 ≤ i) (hy4 : i < n) : jc_C l D y_Pg_countUp b_Pg_countUp 2 none { frames := 0, cells := 0, slots := 0, locals := 0 } [.ref a, .int (ii i)] [ob D a 7 [.ref b, .int (ii n)], ai D 0 b cap f] (fun _ : Unit => (.returned (none), True, [ob D a 7 [.ref b, .int (ii n)], ai D 0 b cap (fun j => if j = i then (f i + 1) else f j)])) := by
  refine jc_of rfl (Nat.le_of_ble_eq_true rfl) ?_
  intro X hl hR hN ok hnm fin
  subst hl
  show jw X 0 0 [ob D a 7 [.ref b, .int (ii n)], ai D 0 b cap f] [(0, .ref a), (1, .int (ii i))] 0 []
  refine jr_iload_n ok 1 d_Pg_countUp_0 rfl rfl ?_
  refine jr_if_lt 22 ok ⟨by omega, by omega⟩ d_Pg_countUp_1 (by decide) (fun c1 => ?_) (fun c1 => ?_)
  · skip
    exfalso; omega
  · skip
    refine jr_iload_n ok 1 d_Pg_countUp_4 rfl rfl ?_
    refine jr_aload_n ok 0 d_Pg_countUp_5 rfl rfl ?_
    refine jr_get ok 0 f_Pg_15 rfl rfl d_Pg_countUp_6 ?_
    refine jr_icmp_ge 22 ok ⟨by omega, by omega⟩ ⟨by omega, by omega⟩ d_Pg_countUp_9 (by decide) (fun c2 => ?_) (fun c2 => ?_)
    · skip
      exfalso; omega
    · skip
      refine jr_aload_n ok 0 d_Pg_countUp_12 rfl rfl ?_
      refine jr_get ok 0 f_Pg_9 rfl rfl d_Pg_countUp_13 ?_
      refine jr_iload_n ok 1 d_Pg_countUp_16 rfl rfl ?_
      refine jr_dup2 rfl rfl ok d_Pg_countUp_17 ?_
      refine jr_iald ok 1 rfl rfl (by omega) (by omega) d_Pg_countUp_18 ?_
      refine jr_iconst ok d_Pg_countUp_19 ?_
      refine jr_iadd ok d_Pg_countUp_20 ?_
      refine jr_iast [ob D a 7 [.ref b, .int (ii n)], ai D 0 b cap (fun j => if j = i then ((f i) + 1) else f j)] ok 1 rfl rfl (by omega) (by omega) rfl d_Pg_countUp_21 ?_
      exact jr_vret ok fin (Nat.le_refl _) (Nat.le_refl _) () rfl trivial sg_same d_Pg_countUp_22

set_option maxHeartbeats 4000000 in
set_option maxRecDepth 100000 in
/-- Program.addName -/
theorem c_Pg_addName (l : Launch) (D : jd_T) (a : Nat) (b : Nat) (cap : Int) (n : Int) (f : Int → Int) (i : Int) (hy0 : 0 ≤ n) (hy1 : n ≤ cap) (hy2 : cap ≤ 1000000) (hy3 : 0 ≤ i + 2) (hy4 : i + 2 < n) (hy5 : iR i) : jc_C l D y_Pg_addName b_Pg_addName 2 none { frames := 1, cells := 0, slots := 0, locals := 21 } [.ref a, .int (ii i)] [ob D a 7 [.ref b, .int (ii n)], ai D 0 b cap f] (fun _ : Unit => (.returned (none), True, [ob D a 7 [.ref b, .int (ii n)], ai D 0 b cap (fun j => if j = (i + 2) then (f (i + 2) + 1) else f j)])) := by
  refine jc_of rfl (Nat.le_of_ble_eq_true rfl) ?_
  intro X hl hR hN ok hnm fin
  subst hl
  show jw X 0 0 [ob D a 7 [.ref b, .int (ii n)], ai D 0 b cap f] [(0, .ref a), (1, .int (ii i))] 0 []
  refine jr_aload_n ok 0 d_Pg_addName_0 rfl rfl ?_
  refine jr_iload_n ok 1 d_Pg_addName_1 rfl rfl ?_
  refine jr_iconst ok d_Pg_addName_2 ?_
  refine jr_iadd ok d_Pg_addName_3 ?_
  refine jr_cV0 [0, 1] [] [ob D a 7 [.ref b, .int (ii n)], ai D 0 b cap (fun j => if j = (i + 2) then (f (i + 2) + 1) else f j)] 0 0 ok hR m_Pg_35 0 (c_Pg_countUp (jx_l X) D a b cap n f (i + 2) (by first | assumption | omega) (by first | assumption | omega) (by first | assumption | omega) (by first | assumption | omega) (by first | assumption | omega)) (List.isPerm_iff.mp rfl) rfl rfl rfl rfl rfl rfl rfl (Nat.le_of_ble_eq_true rfl) ⟨Nat.le_of_ble_eq_true rfl, Nat.le_of_ble_eq_true rfl⟩ rfl rfl ⟨Nat.le_of_ble_eq_true rfl, Nat.le_of_ble_eq_true rfl⟩ d_Pg_addName_4 (fun _ => ?_)
  exact jr_vret ok fin (Nat.le_refl _) (Nat.le_refl _) () rfl trivial sg_same d_Pg_addName_7

set_option maxHeartbeats 4000000 in
set_option maxRecDepth 100000 in
/-- Program.addMatch -/
theorem c_Pg_addMatch (l : Launch) (D : jd_T) (a : Nat) (b : Nat) (cap : Int) (n : Int) (f : Int → Int) (i : Int) (hy0 : 0 ≤ n) (hy1 : n ≤ cap) (hy2 : cap ≤ 1000000) (hy3 : 0 ≤ i + 3) (hy4 : i + 3 < n) (hy5 : iR i) : jc_C l D y_Pg_addMatch b_Pg_addMatch 2 none { frames := 1, cells := 0, slots := 0, locals := 21 } [.ref a, .int (ii i)] [ob D a 7 [.ref b, .int (ii n)], ai D 0 b cap f] (fun _ : Unit => (.returned (none), True, [ob D a 7 [.ref b, .int (ii n)], ai D 0 b cap (fun j => if j = (i + 3) then (f (i + 3) + 1) else f j)])) := by
  refine jc_of rfl (Nat.le_of_ble_eq_true rfl) ?_
  intro X hl hR hN ok hnm fin
  subst hl
  show jw X 0 0 [ob D a 7 [.ref b, .int (ii n)], ai D 0 b cap f] [(0, .ref a), (1, .int (ii i))] 0 []
  refine jr_aload_n ok 0 d_Pg_addMatch_0 rfl rfl ?_
  refine jr_iload_n ok 1 d_Pg_addMatch_1 rfl rfl ?_
  refine jr_iconst ok d_Pg_addMatch_2 ?_
  refine jr_iadd ok d_Pg_addMatch_3 ?_
  refine jr_cV0 [0, 1] [] [ob D a 7 [.ref b, .int (ii n)], ai D 0 b cap (fun j => if j = (i + 3) then (f (i + 3) + 1) else f j)] 0 0 ok hR m_Pg_35 0 (c_Pg_countUp (jx_l X) D a b cap n f (i + 3) (by first | assumption | omega) (by first | assumption | omega) (by first | assumption | omega) (by first | assumption | omega) (by first | assumption | omega)) (List.isPerm_iff.mp rfl) rfl rfl rfl rfl rfl rfl rfl (Nat.le_of_ble_eq_true rfl) ⟨Nat.le_of_ble_eq_true rfl, Nat.le_of_ble_eq_true rfl⟩ rfl rfl ⟨Nat.le_of_ble_eq_true rfl, Nat.le_of_ble_eq_true rfl⟩ d_Pg_addMatch_4 (fun _ => ?_)
  exact jr_vret ok fin (Nat.le_refl _) (Nat.le_refl _) () rfl trivial sg_same d_Pg_addMatch_7

set_option maxHeartbeats 4000000 in
set_option maxRecDepth 100000 in
/-- Program.add -/
theorem g_Pg_add (l : Launch) (D : jd_T) (a : Nat) (b : Nat) (cap : Int) (n : Int) (f : Int → Int) (M : Int) (z : Int) (hy0 : 0 ≤ n) (hy1 : n ≤ cap) (hy2 : cap ≤ 1000000) (hy3 : 256 ≤ cap) (hy4 : cap ≤ M) (hy5 : M ≤ 1000000) (hy6 : 2 * (n + 1) ≤ M) : jg_C l D y_Pg_add b_Pg_add 2 none { frames := 2, cells := (M - cap).toNat, slots := (2 * M - 2 * cap).toNat, locals := 62 } [.ref a, .int (ii z)] [ob D a 7 [.ref b, .int (ii n)], ai D 0 b cap f] (fun u : Nat × Int × (Int → Int) => (.returned (none), (∀ j, 0 ≤ j → j < n → u.2.2 j = f j) ∧ u.2.2 n = z ∧ cap ≤ u.2.1 ∧ n + 1 ≤ u.2.1 ∧ u.2.1 ≤ M, [ob D a 7 [.ref u.1, .int (ii (n + 1))], ai D 0 u.1 u.2.1 u.2.2], (u.2.1 - cap).toNat, (2 * u.2.1 - 2 * cap).toNat)) := by
  refine jg_of rfl (Nat.le_of_ble_eq_true rfl) ?_
  intro X hl hR hN ok hnm fin
  subst hl
  show jw X 0 0 [ob D a 7 [.ref b, .int (ii n)], ai D 0 b cap f] [(0, .ref a), (1, .int (ii z))] 0 []
  refine jr_aload_n ok 0 d_Pg_add_0 rfl rfl ?_
  refine jr_get ok 0 f_Pg_15 rfl rfl d_Pg_add_1 ?_
  refine jr_aload_n ok 0 d_Pg_add_4 rfl rfl ?_
  refine jr_get ok 0 f_Pg_9 rfl rfl d_Pg_add_5 ?_
  refine jr_alen_i ok 1 rfl rfl d_Pg_add_8 ?_
  refine jr_icmp_lt 30 ok ⟨by omega, by omega⟩ ⟨by omega, by omega⟩ d_Pg_add_9 (by decide) (fun c1 => ?_) (fun c1 => ?_)
  · skip
    
    refine jr_aload_n ok 0 d_Pg_add_30 rfl rfl ?_
    refine jr_get ok 0 f_Pg_9 rfl rfl d_Pg_add_31 ?_
    refine jr_aload_n ok 0 d_Pg_add_34 rfl rfl ?_
    refine jr_get ok 0 f_Pg_15 rfl rfl d_Pg_add_35 ?_
    refine jr_iload_n ok 1 d_Pg_add_38 rfl rfl ?_
    refine jr_iast [ob D a 7 [.ref b, .int (ii n)], ai D 0 b cap (fun j => if j = n then z else f j)] ok 1 rfl rfl (by omega) (by omega) rfl d_Pg_add_39 ?_
    refine jr_aload_n ok 0 d_Pg_add_40 rfl rfl ?_
    refine jr_dup rfl ok d_Pg_add_41 ?_
    refine jr_get ok 0 f_Pg_15 rfl rfl d_Pg_add_42 ?_
    refine jr_iconst ok d_Pg_add_45 ?_
    refine jr_iadd ok d_Pg_add_46 ?_
    refine jr_put [ob D a 7 [.ref b, .int (ii (n + 1))], ai D 0 b cap (fun j => if j = n then z else f j)] ok 0 f_Pg_15 rfl rfl rfl (Nat.le_of_ble_eq_true rfl) rfl d_Pg_add_47 ?_
    exact jr_vret ok (jg_at fin ⟨b, cap, fun j => if j = n then z else f j⟩) (by show 0 ≤ (cap - cap).toNat; omega) (by show 0 ≤ (2 * cap - 2 * cap).toNat; omega) () rfl ⟨fun j q1 q2 => by show (if j = n then _ else _) = _; rw [if_neg (by omega)], if_pos rfl, by show cap ≤ cap; omega, by show n + 1 ≤ cap; omega, by show cap ≤ M; omega⟩ sg_same d_Pg_add_50
  · skip
    refine jr_aload_n ok 0 d_Pg_add_12 rfl rfl ?_
    refine jr_aload_n ok 0 d_Pg_add_13 rfl rfl ?_
    refine jr_get ok 0 f_Pg_9 rfl rfl d_Pg_add_14 ?_
    refine jr_iconst ok d_Pg_add_17 ?_
    refine jr_aload_n ok 0 d_Pg_add_18 rfl rfl ?_
    refine jr_get ok 0 f_Pg_9 rfl rfl d_Pg_add_19 ?_
    refine jr_alen_i ok 1 rfl rfl d_Pg_add_22 ?_
    refine jr_imul ok d_Pg_add_23 ?_
    refine jr_cS1x [1] [0] (fun u : Nat => [ai D 0 b cap f, ai D 0 u (2 * cap) (fun j => if 0 ≤ j ∧ j < 0 + (min cap (2 * cap)) then f (0 + (j - 0)) else (fun _ => 0) j), ob D a 7 [.ref b, .int (ii n)]]) 1 ((2 * cap).toNat) ok hR m_Pg_19 (c_copyI (jx_l X) D b cap (2 * cap) f (by first | assumption | omega) (by first | assumption | omega) (by first | assumption | omega) (by first | assumption | omega) (by first | assumption | omega)) (List.isPerm_iff.mp rfl) rfl rfl (fun _ => rfl) rfl rfl (Nat.le_of_ble_eq_true rfl) ⟨Nat.le_of_ble_eq_true rfl, Nat.le_of_ble_eq_true rfl⟩ rfl (Nat.zero_add _) ⟨by show 1 ≤ (M - cap).toNat; omega, by show (2 * cap).toNat ≤ (2 * M - 2 * cap).toNat; omega⟩ d_Pg_add_24 (fun q2 hx2 => ?_)
    show jw X 1 ((2 * cap).toNat) [ai D 0 b cap f, ai D 0 q2 (2 * cap) (fun j => if 0 ≤ j ∧ j < 0 + (min cap (2 * cap)) then f (0 + (j - 0)) else (fun _ => 0) j), ob D a 7 [.ref b, .int (ii n)]] [(0, .ref a), (1, .int (ii z))] 27 [.ref q2, .ref a]
    refine jr_put [ai D 0 b cap f, ai D 0 q2 (2 * cap) (fun j => if 0 ≤ j ∧ j < 0 + (min cap (2 * cap)) then f (0 + (j - 0)) else (fun _ => 0) j), ob D a 7 [.ref q2, .int (ii n)]] ok 2 f_Pg_9 rfl rfl rfl (Nat.le_of_ble_eq_true rfl) rfl d_Pg_add_27 ?_
    refine jr_drop (L' := [ai D 0 q2 (2 * cap) (fun j => if 0 ≤ j ∧ j < 0 + (min cap (2 * cap)) then f (0 + (j - 0)) else (fun _ => 0) j), ob D a 7 [.ref q2, .int (ii n)]]) 0 rfl ?_
    refine jr_aload_n ok 0 d_Pg_add_30 rfl rfl ?_
    refine jr_get ok 1 f_Pg_9 rfl rfl d_Pg_add_31 ?_
    refine jr_aload_n ok 0 d_Pg_add_34 rfl rfl ?_
    refine jr_get ok 1 f_Pg_15 rfl rfl d_Pg_add_35 ?_
    refine jr_iload_n ok 1 d_Pg_add_38 rfl rfl ?_
    refine jr_iast [ai D 0 q2 (2 * cap) (fun j => if j = n then z else (fun j => if 0 ≤ j ∧ j < 0 + (min cap (2 * cap)) then f (0 + (j - 0)) else (fun _ => 0) j) j), ob D a 7 [.ref q2, .int (ii n)]] ok 0 rfl rfl (by omega) (by omega) rfl d_Pg_add_39 ?_
    refine jr_aload_n ok 0 d_Pg_add_40 rfl rfl ?_
    refine jr_dup rfl ok d_Pg_add_41 ?_
    refine jr_get ok 1 f_Pg_15 rfl rfl d_Pg_add_42 ?_
    refine jr_iconst ok d_Pg_add_45 ?_
    refine jr_iadd ok d_Pg_add_46 ?_
    refine jr_put [ai D 0 q2 (2 * cap) (fun j => if j = n then z else (fun j => if 0 ≤ j ∧ j < 0 + (min cap (2 * cap)) then f (0 + (j - 0)) else (fun _ => 0) j) j), ob D a 7 [.ref q2, .int (ii (n + 1))]] ok 1 f_Pg_15 rfl rfl rfl (Nat.le_of_ble_eq_true rfl) rfl d_Pg_add_47 ?_
    exact jr_vret ok (jg_at fin ⟨q2, (2 * cap), fun j => if j = n then z else (fun j => if 0 ≤ j ∧ j < 0 + (min cap (2 * cap)) then f (0 + (j - 0)) else (fun _ => 0) j) j⟩) (by show 1 ≤ ((2 * cap) - cap).toNat; omega) (by show (2 * cap).toNat ≤ (2 * (2 * cap) - 2 * cap).toNat; omega) () rfl ⟨fun j q1 q2 => by show (if j = n then _ else _) = _; rw [if_neg (by omega)]; dsimp only; rw [if_pos (by omega)]; congr 1; omega, if_pos rfl, by show cap ≤ (2 * cap); omega, by show n + 1 ≤ (2 * cap); omega, by show (2 * cap) ≤ M; omega⟩ (sg_pick [1, 0] (List.isPerm_iff.mp rfl) rfl) d_Pg_add_50

set_option maxHeartbeats 4000000 in
set_option maxRecDepth 100000 in
/-- Program.addSlice -/
theorem g_Pg_addSlice (l : Launch) (D : jd_T) (a : Nat) (b : Nat) (cap : Int) (n : Int) (f : Int → Int) (M : Int) (x : Int) (y : Int) (hy0 : 0 ≤ n) (hy1 : n ≤ cap) (hy2 : cap ≤ 1000000) (hy3 : 256 ≤ cap) (hy4 : cap ≤ M) (hy5 : M ≤ 1000000) (hy6 : 2 * (n + 2) ≤ M) : jg_C l D y_Pg_addSlice b_Pg_addSlice 3 none { frames := 3, cells := (M - cap).toNat, slots := (2 * M - 2 * cap).toNat, locals := 83 } [.ref a, .int (ii x), .int (ii y)] [ob D a 7 [.ref b, .int (ii n)], ai D 0 b cap f] (fun u : Nat × Int × (Int → Int) => (.returned (none), (∀ j, 0 ≤ j → j < n → u.2.2 j = f j) ∧ u.2.2 n = x ∧ u.2.2 (n + 1) = y - x ∧ cap ≤ u.2.1 ∧ n + 2 ≤ u.2.1 ∧ u.2.1 ≤ M, [ob D a 7 [.ref u.1, .int (ii (n + 2))], ai D 0 u.1 u.2.1 u.2.2], (u.2.1 - cap).toNat, (2 * u.2.1 - 2 * cap).toNat)) := by
  refine jg_of rfl (Nat.le_of_ble_eq_true rfl) ?_
  intro X hl hR hN ok hnm fin
  subst hl
  show jw X 0 0 [ob D a 7 [.ref b, .int (ii n)], ai D 0 b cap f] [(0, .ref a), (1, .int (ii x)), (2, .int (ii y))] 0 []
  refine jr_aload_n ok 0 d_Pg_addSlice_0 rfl rfl ?_
  refine jr_iload_n ok 1 d_Pg_addSlice_1 rfl rfl ?_
  refine jr_gV0 [0, 1] [] (fun u : Nat × Int × (Int → Int) => [ob D a 7 [.ref u.1, .int (ii (n + 1))], ai D 0 u.1 u.2.1 u.2.2]) ok hR m_Pg_25 0 (g_Pg_add (jx_l X) D a b cap n f M x (by first | assumption | omega) (by first | assumption | omega) (by first | assumption | omega) (by first | assumption | omega) (by first | assumption | omega) (by first | assumption | omega) (by first | assumption | omega)) (List.isPerm_iff.mp rfl) rfl rfl (fun _ => rfl) rfl rfl rfl rfl (Nat.le_of_ble_eq_true rfl) ⟨Nat.le_of_ble_eq_true rfl, Nat.le_of_ble_eq_true rfl⟩ ⟨by show 0 + ((M - cap).toNat) ≤ ((M - cap).toNat); omega, by show 0 + ((2 * M - 2 * cap).toNat) ≤ ((2 * M - 2 * cap).toNat); omega⟩ d_Pg_addSlice_2 (fun ⟨b21, cap21, g1⟩ hx1 => ?_)
  have hx1 : (∀ j, 0 ≤ j → j < n → g1 j = f j) ∧ g1 n = x ∧ cap ≤ cap21 ∧ n + 1 ≤ cap21 ∧ cap21 ≤ M := hx1
  obtain ⟨hx1_0, hx1_1, hx1_2, hx1_3, hx1_4⟩ := hx1
  show jw X (0 + ((cap21 - cap).toNat)) (0 + ((2 * cap21 - 2 * cap).toNat)) [ob D a 7 [.ref b21, .int (ii (n + 1))], ai D 0 b21 cap21 g1] [(0, .ref a), (1, .int (ii x)), (2, .int (ii y))] 5 []
  refine jr_aload_n ok 0 d_Pg_addSlice_5 rfl rfl ?_
  refine jr_iload_n ok 2 d_Pg_addSlice_6 rfl rfl ?_
  refine jr_iload_n ok 1 d_Pg_addSlice_7 rfl rfl ?_
  refine jr_isub ok d_Pg_addSlice_8 ?_
  refine jr_gV0 [0, 1] [] (fun u : Nat × Int × (Int → Int) => [ob D a 7 [.ref u.1, .int (ii ((n + 1) + 1))], ai D 0 u.1 u.2.1 u.2.2]) ok hR m_Pg_25 0 (g_Pg_add (jx_l X) D a b21 cap21 (n + 1) g1 M (y - x) (by first | assumption | omega) (by first | assumption | omega) (by first | assumption | omega) (by first | assumption | omega) (by first | assumption | omega) (by first | assumption | omega) (by first | assumption | omega)) (List.isPerm_iff.mp rfl) rfl rfl (fun _ => rfl) rfl rfl rfl rfl (Nat.le_of_ble_eq_true rfl) ⟨Nat.le_of_ble_eq_true rfl, Nat.le_of_ble_eq_true rfl⟩ ⟨by show 0 + ((cap21 - cap).toNat) + ((M - cap21).toNat) ≤ ((M - cap).toNat); omega, by show 0 + ((2 * cap21 - 2 * cap).toNat) + ((2 * M - 2 * cap21).toNat) ≤ ((2 * M - 2 * cap).toNat); omega⟩ d_Pg_addSlice_9 (fun ⟨b22, cap22, g2⟩ hx2 => ?_)
  have hx2 : (∀ j, 0 ≤ j → j < (n + 1) → g2 j = g1 j) ∧ g2 (n + 1) = (y - x) ∧ cap21 ≤ cap22 ∧ (n + 1) + 1 ≤ cap22 ∧ cap22 ≤ M := hx2
  obtain ⟨hx2_0, hx2_1, hx2_2, hx2_3, hx2_4⟩ := hx2
  show jw X (0 + ((cap21 - cap).toNat) + ((cap22 - cap21).toNat)) (0 + ((2 * cap21 - 2 * cap).toNat) + ((2 * cap22 - 2 * cap21).toNat)) [ob D a 7 [.ref b22, .int (ii ((n + 1) + 1))], ai D 0 b22 cap22 g2] [(0, .ref a), (1, .int (ii x)), (2, .int (ii y))] 12 []
  exact jr_vret ok (jg_at fin ⟨b22, cap22, g2⟩) (by show 0 + ((cap21 - cap).toNat) + ((cap22 - cap21).toNat) ≤ (cap22 - cap).toNat; omega) (by show 0 + ((2 * cap21 - 2 * cap).toNat) + ((2 * cap22 - 2 * cap21).toNat) ≤ (2 * cap22 - 2 * cap).toNat; omega) () rfl ⟨fun j q1 q2 => by show g2 j = _; rw [hx2_0 j (by omega) (by omega), hx1_0 j (by omega) (by omega)], by show g2 n = _; rw [hx2_0 n (by omega) (by omega)]; exact hx1_1, by show g2 (n + 1) = _; exact hx2_1, by show cap ≤ cap22; omega, by show n + 2 ≤ cap22; omega, by show cap22 ≤ M; omega⟩ (fun h q => by rw [show (n + 2 : Int) = (n + 1) + 1 from by omega]; exact q) d_Pg_addSlice_12

set_option maxHeartbeats 4000000 in
set_option maxRecDepth 100000 in
/-- Program.addFunc -/
theorem g_Pg_addFunc (l : Launch) (D : jd_T) (a : Nat) (b : Nat) (cap : Int) (n : Int) (f : Int → Int) (M : Int) (kind : Int) (hy0 : 0 ≤ n) (hy1 : n ≤ cap) (hy2 : cap ≤ 1000000) (hy3 : 256 ≤ cap) (hy4 : cap ≤ M) (hy5 : M ≤ 1000000) (hy6 : 2 * (n + 4) ≤ M) : jg_C l D y_Pg_addFunc b_Pg_addFunc 3 (some .int) { frames := 3, cells := (M - cap).toNat, slots := (2 * M - 2 * cap).toNat, locals := 83 } [.ref a, .int (ii kind)] [ob D a 7 [.ref b, .int (ii n)], ai D 0 b cap f] (fun u : Nat × Int × (Int → Int) => (.returned (some (.int (ii n))), (∀ j, 0 ≤ j → j < n → u.2.2 j = f j) ∧ u.2.2 n = 310 ∧ u.2.2 (n + 1) = kind ∧ u.2.2 (n + 2) = 0 ∧ u.2.2 (n + 3) = 0 ∧ cap ≤ u.2.1 ∧ n + 4 ≤ u.2.1 ∧ u.2.1 ≤ M, [ob D a 7 [.ref u.1, .int (ii (n + 4))], ai D 0 u.1 u.2.1 u.2.2], (u.2.1 - cap).toNat, (2 * u.2.1 - 2 * cap).toNat)) := by
  refine jg_of rfl (Nat.le_of_ble_eq_true rfl) ?_
  intro X hl hR hN ok hnm fin
  subst hl
  show jw X 0 0 [ob D a 7 [.ref b, .int (ii n)], ai D 0 b cap f] [(0, .ref a), (1, .int (ii kind))] 0 []
  refine jr_aload_n ok 0 d_Pg_addFunc_0 rfl rfl ?_
  refine jr_get ok 0 f_Pg_15 rfl rfl d_Pg_addFunc_1 ?_
  refine jr_istore_n [(2, .int (ii n)), (0, .ref a), (1, .int (ii kind))] ok d_Pg_addFunc_4 rfl (by rw [hN]; decide) rfl ?_
  refine jr_aload_n ok 1 d_Pg_addFunc_5 rfl rfl ?_
  refine jr_sipush ok d_Pg_addFunc_6 (by decide +kernel) ?_
  refine jr_gV0 [0, 1] [] (fun u : Nat × Int × (Int → Int) => [ob D a 7 [.ref u.1, .int (ii (n + 1))], ai D 0 u.1 u.2.1 u.2.2]) ok hR m_Pg_25 0 (g_Pg_add (jx_l X) D a b cap n f M 310 (by first | assumption | omega) (by first | assumption | omega) (by first | assumption | omega) (by first | assumption | omega) (by first | assumption | omega) (by first | assumption | omega) (by first | assumption | omega)) (List.isPerm_iff.mp rfl) rfl rfl (fun _ => rfl) rfl rfl rfl rfl (Nat.le_of_ble_eq_true rfl) ⟨Nat.le_of_ble_eq_true rfl, Nat.le_of_ble_eq_true rfl⟩ ⟨by show 0 + ((M - cap).toNat) ≤ ((M - cap).toNat); omega, by show 0 + ((2 * M - 2 * cap).toNat) ≤ ((2 * M - 2 * cap).toNat); omega⟩ d_Pg_addFunc_9 (fun ⟨b21, cap21, g1⟩ hx1 => ?_)
  have hx1 : (∀ j, 0 ≤ j → j < n → g1 j = f j) ∧ g1 n = 310 ∧ cap ≤ cap21 ∧ n + 1 ≤ cap21 ∧ cap21 ≤ M := hx1
  obtain ⟨hx1_0, hx1_1, hx1_2, hx1_3, hx1_4⟩ := hx1
  show jw X (0 + ((cap21 - cap).toNat)) (0 + ((2 * cap21 - 2 * cap).toNat)) [ob D a 7 [.ref b21, .int (ii (n + 1))], ai D 0 b21 cap21 g1] [(2, .int (ii n)), (0, .ref a), (1, .int (ii kind))] 12 []
  refine jr_aload_n ok 1 d_Pg_addFunc_12 rfl rfl ?_
  refine jr_iload_n ok 2 d_Pg_addFunc_13 rfl rfl ?_
  refine jr_gV0 [0, 1] [] (fun u : Nat × Int × (Int → Int) => [ob D a 7 [.ref u.1, .int (ii ((n + 1) + 1))], ai D 0 u.1 u.2.1 u.2.2]) ok hR m_Pg_25 0 (g_Pg_add (jx_l X) D a b21 cap21 (n + 1) g1 M kind (by first | assumption | omega) (by first | assumption | omega) (by first | assumption | omega) (by first | assumption | omega) (by first | assumption | omega) (by first | assumption | omega) (by first | assumption | omega)) (List.isPerm_iff.mp rfl) rfl rfl (fun _ => rfl) rfl rfl rfl rfl (Nat.le_of_ble_eq_true rfl) ⟨Nat.le_of_ble_eq_true rfl, Nat.le_of_ble_eq_true rfl⟩ ⟨by show 0 + ((cap21 - cap).toNat) + ((M - cap21).toNat) ≤ ((M - cap).toNat); omega, by show 0 + ((2 * cap21 - 2 * cap).toNat) + ((2 * M - 2 * cap21).toNat) ≤ ((2 * M - 2 * cap).toNat); omega⟩ d_Pg_addFunc_14 (fun ⟨b22, cap22, g2⟩ hx2 => ?_)
  have hx2 : (∀ j, 0 ≤ j → j < (n + 1) → g2 j = g1 j) ∧ g2 (n + 1) = kind ∧ cap21 ≤ cap22 ∧ (n + 1) + 1 ≤ cap22 ∧ cap22 ≤ M := hx2
  obtain ⟨hx2_0, hx2_1, hx2_2, hx2_3, hx2_4⟩ := hx2
  show jw X (0 + ((cap21 - cap).toNat) + ((cap22 - cap21).toNat)) (0 + ((2 * cap21 - 2 * cap).toNat) + ((2 * cap22 - 2 * cap21).toNat)) [ob D a 7 [.ref b22, .int (ii ((n + 1) + 1))], ai D 0 b22 cap22 g2] [(2, .int (ii n)), (0, .ref a), (1, .int (ii kind))] 17 []
  refine jr_aload_n ok 1 d_Pg_addFunc_17 rfl rfl ?_
  refine jr_iconst ok d_Pg_addFunc_18 ?_
  refine jr_gV0 [0, 1] [] (fun u : Nat × Int × (Int → Int) => [ob D a 7 [.ref u.1, .int (ii (((n + 1) + 1) + 1))], ai D 0 u.1 u.2.1 u.2.2]) ok hR m_Pg_25 0 (g_Pg_add (jx_l X) D a b22 cap22 ((n + 1) + 1) g2 M 0 (by first | assumption | omega) (by first | assumption | omega) (by first | assumption | omega) (by first | assumption | omega) (by first | assumption | omega) (by first | assumption | omega) (by first | assumption | omega)) (List.isPerm_iff.mp rfl) rfl rfl (fun _ => rfl) rfl rfl rfl rfl (Nat.le_of_ble_eq_true rfl) ⟨Nat.le_of_ble_eq_true rfl, Nat.le_of_ble_eq_true rfl⟩ ⟨by show 0 + ((cap21 - cap).toNat) + ((cap22 - cap21).toNat) + ((M - cap22).toNat) ≤ ((M - cap).toNat); omega, by show 0 + ((2 * cap21 - 2 * cap).toNat) + ((2 * cap22 - 2 * cap21).toNat) + ((2 * M - 2 * cap22).toNat) ≤ ((2 * M - 2 * cap).toNat); omega⟩ d_Pg_addFunc_19 (fun ⟨b23, cap23, g3⟩ hx3 => ?_)
  have hx3 : (∀ j, 0 ≤ j → j < ((n + 1) + 1) → g3 j = g2 j) ∧ g3 ((n + 1) + 1) = 0 ∧ cap22 ≤ cap23 ∧ ((n + 1) + 1) + 1 ≤ cap23 ∧ cap23 ≤ M := hx3
  obtain ⟨hx3_0, hx3_1, hx3_2, hx3_3, hx3_4⟩ := hx3
  show jw X (0 + ((cap21 - cap).toNat) + ((cap22 - cap21).toNat) + ((cap23 - cap22).toNat)) (0 + ((2 * cap21 - 2 * cap).toNat) + ((2 * cap22 - 2 * cap21).toNat) + ((2 * cap23 - 2 * cap22).toNat)) [ob D a 7 [.ref b23, .int (ii (((n + 1) + 1) + 1))], ai D 0 b23 cap23 g3] [(2, .int (ii n)), (0, .ref a), (1, .int (ii kind))] 22 []
  refine jr_aload_n ok 1 d_Pg_addFunc_22 rfl rfl ?_
  refine jr_iconst ok d_Pg_addFunc_23 ?_
  refine jr_gV0 [0, 1] [] (fun u : Nat × Int × (Int → Int) => [ob D a 7 [.ref u.1, .int (ii ((((n + 1) + 1) + 1) + 1))], ai D 0 u.1 u.2.1 u.2.2]) ok hR m_Pg_25 0 (g_Pg_add (jx_l X) D a b23 cap23 (((n + 1) + 1) + 1) g3 M 0 (by first | assumption | omega) (by first | assumption | omega) (by first | assumption | omega) (by first | assumption | omega) (by first | assumption | omega) (by first | assumption | omega) (by first | assumption | omega)) (List.isPerm_iff.mp rfl) rfl rfl (fun _ => rfl) rfl rfl rfl rfl (Nat.le_of_ble_eq_true rfl) ⟨Nat.le_of_ble_eq_true rfl, Nat.le_of_ble_eq_true rfl⟩ ⟨by show 0 + ((cap21 - cap).toNat) + ((cap22 - cap21).toNat) + ((cap23 - cap22).toNat) + ((M - cap23).toNat) ≤ ((M - cap).toNat); omega, by show 0 + ((2 * cap21 - 2 * cap).toNat) + ((2 * cap22 - 2 * cap21).toNat) + ((2 * cap23 - 2 * cap22).toNat) + ((2 * M - 2 * cap23).toNat) ≤ ((2 * M - 2 * cap).toNat); omega⟩ d_Pg_addFunc_24 (fun ⟨b24, cap24, g4⟩ hx4 => ?_)
  have hx4 : (∀ j, 0 ≤ j → j < (((n + 1) + 1) + 1) → g4 j = g3 j) ∧ g4 (((n + 1) + 1) + 1) = 0 ∧ cap23 ≤ cap24 ∧ (((n + 1) + 1) + 1) + 1 ≤ cap24 ∧ cap24 ≤ M := hx4
  obtain ⟨hx4_0, hx4_1, hx4_2, hx4_3, hx4_4⟩ := hx4
  show jw X (0 + ((cap21 - cap).toNat) + ((cap22 - cap21).toNat) + ((cap23 - cap22).toNat) + ((cap24 - cap23).toNat)) (0 + ((2 * cap21 - 2 * cap).toNat) + ((2 * cap22 - 2 * cap21).toNat) + ((2 * cap23 - 2 * cap22).toNat) + ((2 * cap24 - 2 * cap23).toNat)) [ob D a 7 [.ref b24, .int (ii ((((n + 1) + 1) + 1) + 1))], ai D 0 b24 cap24 g4] [(2, .int (ii n)), (0, .ref a), (1, .int (ii kind))] 27 []
  refine jr_iload_n ok 0 d_Pg_addFunc_27 rfl rfl ?_
  exact jr_iret ok (jg_at fin ⟨b24, cap24, g4⟩) (by show 0 + ((cap21 - cap).toNat) + ((cap22 - cap21).toNat) + ((cap23 - cap22).toNat) + ((cap24 - cap23).toNat) ≤ (cap24 - cap).toNat; omega) (by show 0 + ((2 * cap21 - 2 * cap).toNat) + ((2 * cap22 - 2 * cap21).toNat) + ((2 * cap23 - 2 * cap22).toNat) + ((2 * cap24 - 2 * cap23).toNat) ≤ (2 * cap24 - 2 * cap).toNat; omega) () rfl ⟨fun j q1 q2 => by show g4 j = _; rw [hx4_0 j (by omega) (by omega), hx3_0 j (by omega) (by omega), hx2_0 j (by omega) (by omega), hx1_0 j (by omega) (by omega)], by show g4 n = _; rw [hx4_0 n (by omega) (by omega), hx3_0 n (by omega) (by omega), hx2_0 n (by omega) (by omega)]; exact hx1_1, by show g4 (n + 1) = _; rw [hx4_0 (n + 1) (by omega) (by omega), hx3_0 (n + 1) (by omega) (by omega)]; exact hx2_1, by show g4 (n + 2) = _; rw [hx4_0 (n + 2) (by omega) (by omega)]; rw [show n + 2 = (n + 1) + 1 from by omega]; exact hx3_1, by show g4 (n + 3) = _; rw [show n + 3 = ((n + 1) + 1) + 1 from by omega]; exact hx4_1, by show cap ≤ cap24; omega, by show n + 4 ≤ cap24; omega, by show cap24 ≤ M; omega⟩ (fun h q => by rw [show (n + 4 : Int) = (((n + 1) + 1) + 1) + 1 from by omega]; exact q) d_Pg_addFunc_28

