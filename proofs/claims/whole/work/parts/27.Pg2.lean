set_option maxHeartbeats 4000000 in
set_option maxRecDepth 100000 in
/-- Program.addNumber -/
theorem g_Pg_addNumber (l : Launch) (D : jd_T) (a : Nat) (b : Nat) (cap : Int) (n : Int) (f : Int → Int) (M : Int) (z : Int) (hy0 : 0 ≤ n) (hy1 : n ≤ cap) (hy2 : cap ≤ 1000000) (hy3 : 256 ≤ cap) (hy4 : cap ≤ M) (hy5 : M ≤ 1000000) (hy6 : 2 * (n + 3) ≤ M) (hy7 : lR z) : jg_C l D y_Pg_addNumber b_Pg_addNumber 3 none { frames := 3, cells := (M - cap).toNat, slots := (2 * M - 2 * cap).toNat, locals := 83 } [.ref a, .long (ll z)] [ob D a 7 [.ref b, .int (ii n)], ai D 0 b cap f] (fun u : Nat × Int × (Int → Int) => (.returned (none), (∀ j, 0 ≤ j → j < n → u.2.2 j = f j) ∧ u.2.2 n = 302 ∧ u.2.2 (n + 1) = w32 (z / 4294967296) ∧ u.2.2 (n + 2) = w32 z ∧ cap ≤ u.2.1 ∧ n + 3 ≤ u.2.1 ∧ u.2.1 ≤ M, [ob D a 7 [.ref u.1, .int (ii (n + 3))], ai D 0 u.1 u.2.1 u.2.2], (u.2.1 - cap).toNat, (2 * u.2.1 - 2 * cap).toNat)) := by
  refine jg_of rfl (Nat.le_of_ble_eq_true rfl) ?_
  intro X hl hR hN ok hnm fin
  subst hl
  show jw X 0 0 [ob D a 7 [.ref b, .int (ii n)], ai D 0 b cap f] [(0, .ref a), (1, .long (ll z))] 0 []
  refine jr_aload_n ok 0 d_Pg_addNumber_0 rfl rfl ?_
  refine jr_sipush ok d_Pg_addNumber_1 (by decide +kernel) ?_
  refine jr_gV0 [0, 1] [] (fun u : Nat × Int × (Int → Int) => [ob D a 7 [.ref u.1, .int (ii (n + 1))], ai D 0 u.1 u.2.1 u.2.2]) ok hR m_Pg_25 0 (g_Pg_add (jx_l X) D a b cap n f M 302 (by first | assumption | omega) (by first | assumption | omega) (by first | assumption | omega) (by first | assumption | omega) (by first | assumption | omega) (by first | assumption | omega) (by first | assumption | omega)) (List.isPerm_iff.mp rfl) rfl rfl (fun _ => rfl) rfl rfl rfl rfl (Nat.le_of_ble_eq_true rfl) ⟨Nat.le_of_ble_eq_true rfl, Nat.le_of_ble_eq_true rfl⟩ ⟨by show 0 + ((M - cap).toNat) ≤ ((M - cap).toNat); omega, by show 0 + ((2 * M - 2 * cap).toNat) ≤ ((2 * M - 2 * cap).toNat); omega⟩ d_Pg_addNumber_4 (fun ⟨b21, cap21, g1⟩ hx1 => ?_)
  have hx1 : (∀ j, 0 ≤ j → j < n → g1 j = f j) ∧ g1 n = 302 ∧ cap ≤ cap21 ∧ n + 1 ≤ cap21 ∧ cap21 ≤ M := hx1
  obtain ⟨hx1_0, hx1_1, hx1_2, hx1_3, hx1_4⟩ := hx1
  show jw X (0 + ((cap21 - cap).toNat)) (0 + ((2 * cap21 - 2 * cap).toNat)) [ob D a 7 [.ref b21, .int (ii (n + 1))], ai D 0 b21 cap21 g1] [(0, .ref a), (1, .long (ll z))] 7 []
  refine jr_aload_n ok 0 d_Pg_addNumber_7 rfl rfl ?_
  refine jr_lload_n ok 1 d_Pg_addNumber_8 rfl rfl ?_
  refine jr_bipush ok d_Pg_addNumber_9 (by decide +kernel) ?_
  refine jr_lshr (z := z / 4294967296) ok d_Pg_addNumber_11 (ll_shr32 hy7) ?_
  refine jr_l2iw ok d_Pg_addNumber_12 ?_
  refine jr_gV0 [0, 1] [] (fun u : Nat × Int × (Int → Int) => [ob D a 7 [.ref u.1, .int (ii ((n + 1) + 1))], ai D 0 u.1 u.2.1 u.2.2]) ok hR m_Pg_25 0 (g_Pg_add (jx_l X) D a b21 cap21 (n + 1) g1 M (w32 (z / 4294967296)) (by first | assumption | omega) (by first | assumption | omega) (by first | assumption | omega) (by first | assumption | omega) (by first | assumption | omega) (by first | assumption | omega) (by first | assumption | omega)) (List.isPerm_iff.mp rfl) rfl rfl (fun _ => rfl) rfl rfl rfl rfl (Nat.le_of_ble_eq_true rfl) ⟨Nat.le_of_ble_eq_true rfl, Nat.le_of_ble_eq_true rfl⟩ ⟨by show 0 + ((cap21 - cap).toNat) + ((M - cap21).toNat) ≤ ((M - cap).toNat); omega, by show 0 + ((2 * cap21 - 2 * cap).toNat) + ((2 * M - 2 * cap21).toNat) ≤ ((2 * M - 2 * cap).toNat); omega⟩ d_Pg_addNumber_13 (fun ⟨b22, cap22, g2⟩ hx2 => ?_)
  have hx2 : (∀ j, 0 ≤ j → j < (n + 1) → g2 j = g1 j) ∧ g2 (n + 1) = (w32 (z / 4294967296)) ∧ cap21 ≤ cap22 ∧ (n + 1) + 1 ≤ cap22 ∧ cap22 ≤ M := hx2
  obtain ⟨hx2_0, hx2_1, hx2_2, hx2_3, hx2_4⟩ := hx2
  show jw X (0 + ((cap21 - cap).toNat) + ((cap22 - cap21).toNat)) (0 + ((2 * cap21 - 2 * cap).toNat) + ((2 * cap22 - 2 * cap21).toNat)) [ob D a 7 [.ref b22, .int (ii ((n + 1) + 1))], ai D 0 b22 cap22 g2] [(0, .ref a), (1, .long (ll z))] 16 []
  refine jr_aload_n ok 0 d_Pg_addNumber_16 rfl rfl ?_
  refine jr_lload_n ok 1 d_Pg_addNumber_17 rfl rfl ?_
  refine jr_l2iw ok d_Pg_addNumber_18 ?_
  refine jr_gV0 [0, 1] [] (fun u : Nat × Int × (Int → Int) => [ob D a 7 [.ref u.1, .int (ii (((n + 1) + 1) + 1))], ai D 0 u.1 u.2.1 u.2.2]) ok hR m_Pg_25 0 (g_Pg_add (jx_l X) D a b22 cap22 ((n + 1) + 1) g2 M (w32 z) (by first | assumption | omega) (by first | assumption | omega) (by first | assumption | omega) (by first | assumption | omega) (by first | assumption | omega) (by first | assumption | omega) (by first | assumption | omega)) (List.isPerm_iff.mp rfl) rfl rfl (fun _ => rfl) rfl rfl rfl rfl (Nat.le_of_ble_eq_true rfl) ⟨Nat.le_of_ble_eq_true rfl, Nat.le_of_ble_eq_true rfl⟩ ⟨by show 0 + ((cap21 - cap).toNat) + ((cap22 - cap21).toNat) + ((M - cap22).toNat) ≤ ((M - cap).toNat); omega, by show 0 + ((2 * cap21 - 2 * cap).toNat) + ((2 * cap22 - 2 * cap21).toNat) + ((2 * M - 2 * cap22).toNat) ≤ ((2 * M - 2 * cap).toNat); omega⟩ d_Pg_addNumber_19 (fun ⟨b23, cap23, g3⟩ hx3 => ?_)
  have hx3 : (∀ j, 0 ≤ j → j < ((n + 1) + 1) → g3 j = g2 j) ∧ g3 ((n + 1) + 1) = (w32 z) ∧ cap22 ≤ cap23 ∧ ((n + 1) + 1) + 1 ≤ cap23 ∧ cap23 ≤ M := hx3
  obtain ⟨hx3_0, hx3_1, hx3_2, hx3_3, hx3_4⟩ := hx3
  show jw X (0 + ((cap21 - cap).toNat) + ((cap22 - cap21).toNat) + ((cap23 - cap22).toNat)) (0 + ((2 * cap21 - 2 * cap).toNat) + ((2 * cap22 - 2 * cap21).toNat) + ((2 * cap23 - 2 * cap22).toNat)) [ob D a 7 [.ref b23, .int (ii (((n + 1) + 1) + 1))], ai D 0 b23 cap23 g3] [(0, .ref a), (1, .long (ll z))] 22 []
  exact jr_vret ok (jg_at fin ⟨b23, cap23, g3⟩) (by show 0 + ((cap21 - cap).toNat) + ((cap22 - cap21).toNat) + ((cap23 - cap22).toNat) ≤ (cap23 - cap).toNat; omega) (by show 0 + ((2 * cap21 - 2 * cap).toNat) + ((2 * cap22 - 2 * cap21).toNat) + ((2 * cap23 - 2 * cap22).toNat) ≤ (2 * cap23 - 2 * cap).toNat; omega) () rfl ⟨fun j q1 q2 => by show g3 j = _; rw [hx3_0 j (by omega) (by omega), hx2_0 j (by omega) (by omega), hx1_0 j (by omega) (by omega)], by show g3 n = _; rw [hx3_0 n (by omega) (by omega), hx2_0 n (by omega) (by omega)]; exact hx1_1, by show g3 (n + 1) = _; rw [hx3_0 (n + 1) (by omega) (by omega)]; exact hx2_1, by show g3 (n + 2) = _; rw [show n + 2 = (n + 1) + 1 from by omega]; exact hx3_1, by show cap ≤ cap23; omega, by show n + 3 ≤ cap23; omega, by show cap23 ≤ M; omega⟩ (fun h q => by rw [show (n + 3 : Int) = ((n + 1) + 1) + 1 from by omega]; exact q) d_Pg_addNumber_22

theorem oA_R {f : Int → Int} (n i : Int) (h : ∀ j, iR (f j)) : iR (oA f n i) := by
  unfold oA
  split
  · exact h i
  · exact ⟨by decide, by decide⟩

set_option maxHeartbeats 4000000 in
set_option maxRecDepth 100000 in
/-- Program.numberOf -/
theorem c_Pg_numberOf (l : Launch) (D : jd_T) (a : Nat) (b : Nat) (cap : Int) (n : Int) (f : Int → Int) (i : Int) (hy0 : 0 ≤ n) (hy1 : n ≤ cap) (hy2 : cap ≤ 1000000) (hy3 : 0 ≤ i) (hy4 : i ≤ 2000000) (hy5 : ∀ j, iR (f j)) : jc_C l D y_Pg_numberOf b_Pg_numberOf 2 (some .long) { frames := 1, cells := 0, slots := 0, locals := 21 } [.ref a, .int (ii i)] [ob D a 7 [.ref b, .int (ii n)], ai D 0 b cap f] (fun _ : Unit => (.returned (some (.long (ll (oA f n (i + 1) * 4294967296 + oA f n (i + 2) % 4294967296)))), True, [ob D a 7 [.ref b, .int (ii n)], ai D 0 b cap f])) := by
  refine jc_of rfl (Nat.le_of_ble_eq_true rfl) ?_
  intro X hl hR hN ok hnm fin
  subst hl
  show jw X 0 0 [ob D a 7 [.ref b, .int (ii n)], ai D 0 b cap f] [(0, .ref a), (1, .int (ii i))] 0 []
  refine jr_aload_n ok 0 d_Pg_numberOf_0 rfl rfl ?_
  refine jr_iload_n ok 1 d_Pg_numberOf_1 rfl rfl ?_
  refine jr_iconst ok d_Pg_numberOf_2 ?_
  refine jr_iadd ok d_Pg_numberOf_3 ?_
  refine jr_cV1 [0, 1] [] [ob D a 7 [.ref b, .int (ii n)], ai D 0 b cap f] 0 0 ok hR m_Pg_29 0 (c_Pg_get (jx_l X) D a b cap n f (i + 1) (by first | assumption | omega) (by first | assumption | omega) (by first | assumption | omega) ⟨by omega, by omega⟩) (List.isPerm_iff.mp rfl) rfl rfl rfl rfl rfl rfl rfl (Nat.le_of_ble_eq_true rfl) ⟨Nat.le_of_ble_eq_true rfl, Nat.le_of_ble_eq_true rfl⟩ rfl rfl ⟨Nat.le_of_ble_eq_true rfl, Nat.le_of_ble_eq_true rfl⟩ d_Pg_numberOf_4 (fun _ => ?_)
  refine jr_i2l ok (oA_R _ _ hy5) d_Pg_numberOf_7 ?_
  refine jr_bipush ok d_Pg_numberOf_8 (by decide +kernel) ?_
  refine jr_lshl (z := (oA f n (i + 1)) * 4294967296) ok d_Pg_numberOf_10 (ll_shl32 _) ?_
  refine jr_aload_n ok 0 d_Pg_numberOf_11 rfl rfl ?_
  refine jr_iload_n ok 1 d_Pg_numberOf_12 rfl rfl ?_
  refine jr_iconst ok d_Pg_numberOf_13 ?_
  refine jr_iadd ok d_Pg_numberOf_14 ?_
  refine jr_cV1 [0, 1] [] [ob D a 7 [.ref b, .int (ii n)], ai D 0 b cap f] 0 0 ok hR m_Pg_29 0 (c_Pg_get (jx_l X) D a b cap n f (i + 2) (by first | assumption | omega) (by first | assumption | omega) (by first | assumption | omega) ⟨by omega, by omega⟩) (List.isPerm_iff.mp rfl) rfl rfl rfl rfl rfl rfl rfl (Nat.le_of_ble_eq_true rfl) ⟨Nat.le_of_ble_eq_true rfl, Nat.le_of_ble_eq_true rfl⟩ rfl rfl ⟨Nat.le_of_ble_eq_true rfl, Nat.le_of_ble_eq_true rfl⟩ d_Pg_numberOf_15 (fun _ => ?_)
  refine jr_i2l ok (oA_R _ _ hy5) d_Pg_numberOf_18 ?_
  refine jr_ldc2 (z := 4294967295) ok w_1101 (by decide +kernel) d_Pg_numberOf_19 ?_
  refine jr_land (z := (oA f n (i + 2)) % 4294967296) ok d_Pg_numberOf_22 (ll_and32 _) ?_
  refine jr_lor (z := ((oA f n (i + 1)) * 4294967296) + ((oA f n (i + 2)) % 4294967296)) ok d_Pg_numberOf_23 (ll_or32 _ _ (by omega) (by omega)) ?_
  exact jr_lret ok fin (Nat.le_refl _) (Nat.le_refl _) () rfl trivial sg_same d_Pg_numberOf_24

set_option maxHeartbeats 4000000 in
set_option maxRecDepth 100000 in
/-- Program.kindOf -/
theorem c_Pg_kindOf (l : Launch) (D : jd_T) (a : Nat) (b : Nat) (cap : Int) (n : Int) (f : Int → Int) (i : Int) (hy0 : 0 ≤ n) (hy1 : n ≤ cap) (hy2 : cap ≤ 1000000) (hy3 : -2000000 ≤ i) (hy4 : i ≤ 2000000) : jc_C l D y_Pg_kindOf b_Pg_kindOf 2 (some .int) { frames := 1, cells := 0, slots := 0, locals := 21 } [.ref a, .int (ii i)] [ob D a 7 [.ref b, .int (ii n)], ai D 0 b cap f] (fun _ : Unit => (.returned (some (.int (ii (oA f n (i + 1))))), True, [ob D a 7 [.ref b, .int (ii n)], ai D 0 b cap f])) := by
  refine jc_of rfl (Nat.le_of_ble_eq_true rfl) ?_
  intro X hl hR hN ok hnm fin
  subst hl
  show jw X 0 0 [ob D a 7 [.ref b, .int (ii n)], ai D 0 b cap f] [(0, .ref a), (1, .int (ii i))] 0 []
  refine jr_aload_n ok 0 d_Pg_kindOf_0 rfl rfl ?_
  refine jr_iload_n ok 1 d_Pg_kindOf_1 rfl rfl ?_
  refine jr_iconst ok d_Pg_kindOf_2 ?_
  refine jr_iadd ok d_Pg_kindOf_3 ?_
  refine jr_cV1 [0, 1] [] [ob D a 7 [.ref b, .int (ii n)], ai D 0 b cap f] 0 0 ok hR m_Pg_29 0 (c_Pg_get (jx_l X) D a b cap n f (i + 1) (by first | assumption | omega) (by first | assumption | omega) (by first | assumption | omega) ⟨by omega, by omega⟩) (List.isPerm_iff.mp rfl) rfl rfl rfl rfl rfl rfl rfl (Nat.le_of_ble_eq_true rfl) ⟨Nat.le_of_ble_eq_true rfl, Nat.le_of_ble_eq_true rfl⟩ rfl rfl ⟨Nat.le_of_ble_eq_true rfl, Nat.le_of_ble_eq_true rfl⟩ d_Pg_kindOf_4 (fun _ => ?_)
  exact jr_iret ok fin (Nat.le_refl _) (Nat.le_refl _) () rfl trivial sg_same d_Pg_kindOf_7

set_option maxHeartbeats 4000000 in
set_option maxRecDepth 100000 in
/-- Program.namesOf -/
theorem c_Pg_namesOf (l : Launch) (D : jd_T) (a : Nat) (b : Nat) (cap : Int) (n : Int) (f : Int → Int) (i : Int) (hy0 : 0 ≤ n) (hy1 : n ≤ cap) (hy2 : cap ≤ 1000000) (hy3 : -2000000 ≤ i) (hy4 : i ≤ 2000000) : jc_C l D y_Pg_namesOf b_Pg_namesOf 2 (some .int) { frames := 1, cells := 0, slots := 0, locals := 21 } [.ref a, .int (ii i)] [ob D a 7 [.ref b, .int (ii n)], ai D 0 b cap f] (fun _ : Unit => (.returned (some (.int (ii (oA f n (i + 2))))), True, [ob D a 7 [.ref b, .int (ii n)], ai D 0 b cap f])) := by
  refine jc_of rfl (Nat.le_of_ble_eq_true rfl) ?_
  intro X hl hR hN ok hnm fin
  subst hl
  show jw X 0 0 [ob D a 7 [.ref b, .int (ii n)], ai D 0 b cap f] [(0, .ref a), (1, .int (ii i))] 0 []
  refine jr_aload_n ok 0 d_Pg_namesOf_0 rfl rfl ?_
  refine jr_iload_n ok 1 d_Pg_namesOf_1 rfl rfl ?_
  refine jr_iconst ok d_Pg_namesOf_2 ?_
  refine jr_iadd ok d_Pg_namesOf_3 ?_
  refine jr_cV1 [0, 1] [] [ob D a 7 [.ref b, .int (ii n)], ai D 0 b cap f] 0 0 ok hR m_Pg_29 0 (c_Pg_get (jx_l X) D a b cap n f (i + 2) (by first | assumption | omega) (by first | assumption | omega) (by first | assumption | omega) ⟨by omega, by omega⟩) (List.isPerm_iff.mp rfl) rfl rfl rfl rfl rfl rfl rfl (Nat.le_of_ble_eq_true rfl) ⟨Nat.le_of_ble_eq_true rfl, Nat.le_of_ble_eq_true rfl⟩ rfl rfl ⟨Nat.le_of_ble_eq_true rfl, Nat.le_of_ble_eq_true rfl⟩ d_Pg_namesOf_4 (fun _ => ?_)
  exact jr_iret ok fin (Nat.le_refl _) (Nat.le_refl _) () rfl trivial sg_same d_Pg_namesOf_7

set_option maxHeartbeats 4000000 in
set_option maxRecDepth 100000 in
/-- Program.matchesOf -/
theorem c_Pg_matchesOf (l : Launch) (D : jd_T) (a : Nat) (b : Nat) (cap : Int) (n : Int) (f : Int → Int) (i : Int) (hy0 : 0 ≤ n) (hy1 : n ≤ cap) (hy2 : cap ≤ 1000000) (hy3 : -2000000 ≤ i) (hy4 : i ≤ 2000000) : jc_C l D y_Pg_matchesOf b_Pg_matchesOf 2 (some .int) { frames := 1, cells := 0, slots := 0, locals := 21 } [.ref a, .int (ii i)] [ob D a 7 [.ref b, .int (ii n)], ai D 0 b cap f] (fun _ : Unit => (.returned (some (.int (ii (oA f n (i + 3))))), True, [ob D a 7 [.ref b, .int (ii n)], ai D 0 b cap f])) := by
  refine jc_of rfl (Nat.le_of_ble_eq_true rfl) ?_
  intro X hl hR hN ok hnm fin
  subst hl
  show jw X 0 0 [ob D a 7 [.ref b, .int (ii n)], ai D 0 b cap f] [(0, .ref a), (1, .int (ii i))] 0 []
  refine jr_aload_n ok 0 d_Pg_matchesOf_0 rfl rfl ?_
  refine jr_iload_n ok 1 d_Pg_matchesOf_1 rfl rfl ?_
  refine jr_iconst ok d_Pg_matchesOf_2 ?_
  refine jr_iadd ok d_Pg_matchesOf_3 ?_
  refine jr_cV1 [0, 1] [] [ob D a 7 [.ref b, .int (ii n)], ai D 0 b cap f] 0 0 ok hR m_Pg_29 0 (c_Pg_get (jx_l X) D a b cap n f (i + 3) (by first | assumption | omega) (by first | assumption | omega) (by first | assumption | omega) ⟨by omega, by omega⟩) (List.isPerm_iff.mp rfl) rfl rfl rfl rfl rfl rfl rfl (Nat.le_of_ble_eq_true rfl) ⟨Nat.le_of_ble_eq_true rfl, Nat.le_of_ble_eq_true rfl⟩ rfl rfl ⟨Nat.le_of_ble_eq_true rfl, Nat.le_of_ble_eq_true rfl⟩ d_Pg_matchesOf_4 (fun _ => ?_)
  exact jr_iret ok fin (Nat.le_refl _) (Nat.le_refl _) () rfl trivial sg_same d_Pg_matchesOf_7

set_option maxHeartbeats 4000000 in
set_option maxRecDepth 100000 in
/-- Program.nameAt -/
theorem c_Pg_nameAt (l : Launch) (D : jd_T) (a : Nat) (b : Nat) (cap : Int) (n : Int) (f : Int → Int) (i : Int) (k : Int) (hy0 : 0 ≤ n) (hy1 : n ≤ cap) (hy2 : cap ≤ 1000000) (hy3 : -2000000 ≤ i) (hy4 : i ≤ 2000000) (hy5 : -10 ≤ k) (hy6 : k ≤ 2000000) : jc_C l D y_Pg_nameAt b_Pg_nameAt 3 (some .int) { frames := 1, cells := 0, slots := 0, locals := 21 } [.ref a, .int (ii i), .int (ii k)] [ob D a 7 [.ref b, .int (ii n)], ai D 0 b cap f] (fun _ : Unit => (.returned (some (.int (ii (oA f n (i + 4 + 2 * k))))), True, [ob D a 7 [.ref b, .int (ii n)], ai D 0 b cap f])) := by
  refine jc_of rfl (Nat.le_of_ble_eq_true rfl) ?_
  intro X hl hR hN ok hnm fin
  subst hl
  show jw X 0 0 [ob D a 7 [.ref b, .int (ii n)], ai D 0 b cap f] [(0, .ref a), (1, .int (ii i)), (2, .int (ii k))] 0 []
  refine jr_aload_n ok 0 d_Pg_nameAt_0 rfl rfl ?_
  refine jr_iload_n ok 1 d_Pg_nameAt_1 rfl rfl ?_
  refine jr_iconst ok d_Pg_nameAt_2 ?_
  refine jr_iadd ok d_Pg_nameAt_3 ?_
  refine jr_iconst ok d_Pg_nameAt_4 ?_
  refine jr_iload_n ok 2 d_Pg_nameAt_5 rfl rfl ?_
  refine jr_imul ok d_Pg_nameAt_6 ?_
  refine jr_iadd ok d_Pg_nameAt_7 ?_
  refine jr_cV1 [0, 1] [] [ob D a 7 [.ref b, .int (ii n)], ai D 0 b cap f] 0 0 ok hR m_Pg_29 0 (c_Pg_get (jx_l X) D a b cap n f ((i + 4) + (2 * k)) (by first | assumption | omega) (by first | assumption | omega) (by first | assumption | omega) ⟨by omega, by omega⟩) (List.isPerm_iff.mp rfl) rfl rfl rfl rfl rfl rfl rfl (Nat.le_of_ble_eq_true rfl) ⟨Nat.le_of_ble_eq_true rfl, Nat.le_of_ble_eq_true rfl⟩ rfl rfl ⟨Nat.le_of_ble_eq_true rfl, Nat.le_of_ble_eq_true rfl⟩ d_Pg_nameAt_8 (fun _ => ?_)
  exact jr_iret ok fin (Nat.le_refl _) (Nat.le_refl _) () rfl trivial sg_same d_Pg_nameAt_11

set_option maxHeartbeats 4000000 in
set_option maxRecDepth 100000 in
/-- Program.nameLength -/
theorem c_Pg_nameLength (l : Launch) (D : jd_T) (a : Nat) (b : Nat) (cap : Int) (n : Int) (f : Int → Int) (i : Int) (k : Int) (hy0 : 0 ≤ n) (hy1 : n ≤ cap) (hy2 : cap ≤ 1000000) (hy3 : -2000000 ≤ i) (hy4 : i ≤ 2000000) (hy5 : -10 ≤ k) (hy6 : k ≤ 2000000) : jc_C l D y_Pg_nameLength b_Pg_nameLength 3 (some .int) { frames := 1, cells := 0, slots := 0, locals := 21 } [.ref a, .int (ii i), .int (ii k)] [ob D a 7 [.ref b, .int (ii n)], ai D 0 b cap f] (fun _ : Unit => (.returned (some (.int (ii (oA f n (i + 4 + 2 * k + 1))))), True, [ob D a 7 [.ref b, .int (ii n)], ai D 0 b cap f])) := by
  refine jc_of rfl (Nat.le_of_ble_eq_true rfl) ?_
  intro X hl hR hN ok hnm fin
  subst hl
  show jw X 0 0 [ob D a 7 [.ref b, .int (ii n)], ai D 0 b cap f] [(0, .ref a), (1, .int (ii i)), (2, .int (ii k))] 0 []
  refine jr_aload_n ok 0 d_Pg_nameLength_0 rfl rfl ?_
  refine jr_iload_n ok 1 d_Pg_nameLength_1 rfl rfl ?_
  refine jr_iconst ok d_Pg_nameLength_2 ?_
  refine jr_iadd ok d_Pg_nameLength_3 ?_
  refine jr_iconst ok d_Pg_nameLength_4 ?_
  refine jr_iload_n ok 2 d_Pg_nameLength_5 rfl rfl ?_
  refine jr_imul ok d_Pg_nameLength_6 ?_
  refine jr_iadd ok d_Pg_nameLength_7 ?_
  refine jr_iconst ok d_Pg_nameLength_8 ?_
  refine jr_iadd ok d_Pg_nameLength_9 ?_
  refine jr_cV1 [0, 1] [] [ob D a 7 [.ref b, .int (ii n)], ai D 0 b cap f] 0 0 ok hR m_Pg_29 0 (c_Pg_get (jx_l X) D a b cap n f (((i + 4) + (2 * k)) + 1) (by first | assumption | omega) (by first | assumption | omega) (by first | assumption | omega) ⟨by omega, by omega⟩) (List.isPerm_iff.mp rfl) rfl rfl rfl rfl rfl rfl rfl (Nat.le_of_ble_eq_true rfl) ⟨Nat.le_of_ble_eq_true rfl, Nat.le_of_ble_eq_true rfl⟩ rfl rfl ⟨Nat.le_of_ble_eq_true rfl, Nat.le_of_ble_eq_true rfl⟩ d_Pg_nameLength_10 (fun _ => ?_)
  exact jr_iret ok fin (Nat.le_refl _) (Nat.le_refl _) () rfl trivial sg_same d_Pg_nameLength_13

set_option maxHeartbeats 4000000 in
set_option maxRecDepth 100000 in
/-- Program.matchOf -/
theorem c_Pg_matchOf (l : Launch) (D : jd_T) (a : Nat) (b : Nat) (cap : Int) (n : Int) (f : Int → Int) (i : Int) (k : Int) (hy0 : 0 ≤ n) (hy1 : n ≤ cap) (hy2 : cap ≤ 1000000) (hy3 : -2000000 ≤ i) (hy4 : i ≤ 2000000) : jc_C l D y_Pg_matchOf b_Pg_matchOf 3 (some .int) { frames := 2, cells := 0, slots := 0, locals := 42 } [.ref a, .int (ii i), .int (ii k)] [ob D a 7 [.ref b, .int (ii n)], ai D 0 b cap f] (fun _ : Unit => (.returned (some (.int (ii (i + 4 + 2 * oA f n (i + 2) + 5 * k)))), True, [ob D a 7 [.ref b, .int (ii n)], ai D 0 b cap f])) := by
  refine jc_of rfl (Nat.le_of_ble_eq_true rfl) ?_
  intro X hl hR hN ok hnm fin
  subst hl
  show jw X 0 0 [ob D a 7 [.ref b, .int (ii n)], ai D 0 b cap f] [(0, .ref a), (1, .int (ii i)), (2, .int (ii k))] 0 []
  refine jr_iload_n ok 1 d_Pg_matchOf_0 rfl rfl ?_
  refine jr_iconst ok d_Pg_matchOf_1 ?_
  refine jr_iadd ok d_Pg_matchOf_2 ?_
  refine jr_iconst ok d_Pg_matchOf_3 ?_
  refine jr_aload_n ok 0 d_Pg_matchOf_4 rfl rfl ?_
  refine jr_iload_n ok 1 d_Pg_matchOf_5 rfl rfl ?_
  refine jr_cV1 [0, 1] [] [ob D a 7 [.ref b, .int (ii n)], ai D 0 b cap f] 0 0 ok hR m_Pg_38 0 (c_Pg_namesOf (jx_l X) D a b cap n f i (by first | assumption | omega) (by first | assumption | omega) (by first | assumption | omega) (by first | assumption | omega) (by first | assumption | omega)) (List.isPerm_iff.mp rfl) rfl rfl rfl rfl rfl rfl rfl (Nat.le_of_ble_eq_true rfl) ⟨Nat.le_of_ble_eq_true rfl, Nat.le_of_ble_eq_true rfl⟩ rfl rfl ⟨Nat.le_of_ble_eq_true rfl, Nat.le_of_ble_eq_true rfl⟩ d_Pg_matchOf_6 (fun _ => ?_)
  refine jr_imul ok d_Pg_matchOf_9 ?_
  refine jr_iadd ok d_Pg_matchOf_10 ?_
  refine jr_iconst ok d_Pg_matchOf_11 ?_
  refine jr_iload_n ok 2 d_Pg_matchOf_12 rfl rfl ?_
  refine jr_imul ok d_Pg_matchOf_13 ?_
  refine jr_iadd ok d_Pg_matchOf_14 ?_
  exact jr_iret ok fin (Nat.le_refl _) (Nat.le_refl _) () rfl trivial sg_same d_Pg_matchOf_15

/-- how long an order is -/
def oLen (f : Int → Int) (n i : Int) : Int := if oA f n i = 302 then 3 else if oA f n i = 310 then i + 4 + 2 * oA f n (i + 2) + 5 * oA f n (i + 3) - i else 1

