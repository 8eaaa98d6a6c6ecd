theorem w_18 : (Jvm.Cond.initialized "java/lang/System") ∈ jw_all := jw_in1 18 rfl rfl
theorem w_401 : (Jvm.Cond.methodLink "java/util/Arrays" (304 : Nat) ({ cls := "java/lang/Math", name := "min", desc := "(II)I" } : Jvm.MethodName)) ∈ jw_all := jw_in2 161 rfl rfl
theorem w_404 : (Jvm.Cond.methodLink "java/util/Arrays" (150 : Nat) ({ cls := "java/lang/System", name := "arraycopy", desc := "(Ljava/lang/Object;ILjava/lang/Object;II)V" } : Jvm.MethodName)) ∈ jw_all := jw_in2 164 rfl rfl
theorem w_405 : (Jvm.Cond.static ({ cls := "java/lang/System", name := "arraycopy", desc := "(Ljava/lang/Object;ILjava/lang/Object;II)V" } : Jvm.MethodName)) ∈ jw_all := jw_in2 165 rfl rfl
theorem w_406 : (Jvm.Cond.native ({ cls := "java/lang/System", name := "arraycopy", desc := "(Ljava/lang/Object;ILjava/lang/Object;II)V" } : Jvm.MethodName)) ∈ jw_all := jw_in2 166 rfl rfl
abbrev b_J_Arrays_copyOf_BIB : ByteArray := prog_28_method_121_code
theorem d_J_Arrays_copyOf_BIB_0 : decode b_J_Arrays_copyOf_BIB 0 = .ok (.iload_n 1, 1) := by decide +kernel
theorem d_J_Arrays_copyOf_BIB_1 : decode b_J_Arrays_copyOf_BIB 1 = .ok (.aload_n 0, 1) := by decide +kernel
theorem d_J_Arrays_copyOf_BIB_2 : decode b_J_Arrays_copyOf_BIB 2 = .ok (.arraylength, 1) := by decide +kernel
theorem d_J_Arrays_copyOf_BIB_3 : decode b_J_Arrays_copyOf_BIB 3 = .ok (.if_icmp .ne 11, 3) := by decide +kernel
theorem d_J_Arrays_copyOf_BIB_6 : decode b_J_Arrays_copyOf_BIB 6 = .ok (.aload_n 0, 1) := by decide +kernel
theorem d_J_Arrays_copyOf_BIB_7 : decode b_J_Arrays_copyOf_BIB 7 = .ok (.invokevirtual 310, 3) := by decide +kernel
theorem d_J_Arrays_copyOf_BIB_10 : decode b_J_Arrays_copyOf_BIB 10 = .ok (.checkcast 311, 3) := by decide +kernel
theorem d_J_Arrays_copyOf_BIB_13 : decode b_J_Arrays_copyOf_BIB 13 = .ok (.areturn, 1) := by decide +kernel
theorem d_J_Arrays_copyOf_BIB_14 : decode b_J_Arrays_copyOf_BIB 14 = .ok (.iload_n 1, 1) := by decide +kernel
theorem d_J_Arrays_copyOf_BIB_15 : decode b_J_Arrays_copyOf_BIB 15 = .ok (.newarray .byte, 2) := by decide +kernel
theorem d_J_Arrays_copyOf_BIB_17 : decode b_J_Arrays_copyOf_BIB 17 = .ok (.astore_n 2, 1) := by decide +kernel
theorem d_J_Arrays_copyOf_BIB_18 : decode b_J_Arrays_copyOf_BIB 18 = .ok (.aload_n 0, 1) := by decide +kernel
theorem d_J_Arrays_copyOf_BIB_19 : decode b_J_Arrays_copyOf_BIB 19 = .ok (.iconst 0, 1) := by decide +kernel
theorem d_J_Arrays_copyOf_BIB_20 : decode b_J_Arrays_copyOf_BIB 20 = .ok (.aload_n 2, 1) := by decide +kernel
theorem d_J_Arrays_copyOf_BIB_21 : decode b_J_Arrays_copyOf_BIB 21 = .ok (.iconst 0, 1) := by decide +kernel
theorem d_J_Arrays_copyOf_BIB_22 : decode b_J_Arrays_copyOf_BIB 22 = .ok (.aload_n 0, 1) := by decide +kernel
theorem d_J_Arrays_copyOf_BIB_23 : decode b_J_Arrays_copyOf_BIB 23 = .ok (.arraylength, 1) := by decide +kernel
theorem d_J_Arrays_copyOf_BIB_24 : decode b_J_Arrays_copyOf_BIB 24 = .ok (.iload_n 1, 1) := by decide +kernel
theorem d_J_Arrays_copyOf_BIB_25 : decode b_J_Arrays_copyOf_BIB 25 = .ok (.invokestatic 304, 3) := by decide +kernel
theorem d_J_Arrays_copyOf_BIB_28 : decode b_J_Arrays_copyOf_BIB 28 = .ok (.invokestatic 150, 3) := by decide +kernel
theorem d_J_Arrays_copyOf_BIB_31 : decode b_J_Arrays_copyOf_BIB 31 = .ok (.aload_n 2, 1) := by decide +kernel
theorem d_J_Arrays_copyOf_BIB_32 : decode b_J_Arrays_copyOf_BIB 32 = .ok (.areturn, 1) := by decide +kernel
set_option maxHeartbeats 4000000 in
set_option maxRecDepth 100000 in
/-- Arrays.copyOf to a greater length -/
theorem c_copyB (l : Launch) (D : jd_T) (a : Nat) (n : Int) (m : Int) (f : Int → Int) (hy0 : 0 ≤ n) (hy1 : 0 ≤ m) (hy2 : m ≤ 67108864) (hy3 : n ≤ 2147483647) (hy4 : n ≠ m) (hy5 : ∀ i, 0 ≤ i → i < n → fits .byte (.int (ii (f i))) = true) : jc_C l D y_J_Arrays_copyOf_BIB b_J_Arrays_copyOf_BIB 3 (some (.array .byte)) { frames := 1, cells := 1, slots := m.toNat, locals := 40 } [.ref a, .int (ii m)] [ai D 1 a n f] (fun q : Nat => (.returned (some (.ref q)), True, [ai D 1 a n f, ai D 1 q m (fun j => if 0 ≤ j ∧ j < 0 + (min n m) then f (0 + (j - 0)) else (fun _ => 0) j)])) := by
  refine jc_of rfl (Nat.le_of_ble_eq_true rfl) ?_
  intro X hl hR hN ok hnm fin
  subst hl
  show jw X 0 0 [ai D 1 a n f] [(0, .ref a), (1, .int (ii m))] 0 []
  refine jr_iload_n ok 1 d_J_Arrays_copyOf_BIB_0 rfl rfl ?_
  refine jr_aload_n ok 0 d_J_Arrays_copyOf_BIB_1 rfl rfl ?_
  refine jr_alen_i ok 0 rfl rfl d_J_Arrays_copyOf_BIB_2 ?_
  refine jr_icmp_ne 14 ok ⟨by omega, by omega⟩ ⟨by omega, by omega⟩ d_J_Arrays_copyOf_BIB_3 (by decide) (fun c1 => ?_) (fun c1 => ?_)
  · skip
    refine jr_iload_n ok 1 d_J_Arrays_copyOf_BIB_14 rfl rfl ?_
    refine jr_newb ok hR w_49 (by omega) (by omega) (Nat.le_refl 1) (by show 0 + m.toNat ≤ m.toNat; omega) d_J_Arrays_copyOf_BIB_15 (fun q2 => ?_)
    show jw X 1 (0 + m.toNat) [ai D 1 a n f, ai D 1 q2 m (fun _ => 0)] [(0, .ref a), (1, .int (ii m))] 17 [.ref q2]
    refine jr_astore_n [(2, .ref q2), (0, .ref a), (1, .int (ii m))] ok d_J_Arrays_copyOf_BIB_17 rfl (by rw [hN]; decide) rfl ?_
    refine jr_aload_n ok 1 d_J_Arrays_copyOf_BIB_18 rfl rfl ?_
    refine jr_iconst ok d_J_Arrays_copyOf_BIB_19 ?_
    refine jr_aload_n ok 0 d_J_Arrays_copyOf_BIB_20 rfl rfl ?_
    refine jr_iconst ok d_J_Arrays_copyOf_BIB_21 ?_
    refine jr_aload_n ok 1 d_J_Arrays_copyOf_BIB_22 rfl rfl ?_
    refine jr_alen_i ok 0 rfl rfl d_J_Arrays_copyOf_BIB_23 ?_
    refine jr_iload_n ok 2 d_J_Arrays_copyOf_BIB_24 rfl rfl ?_
    refine jr_imin ok w_401 w_402 w_17 w_403 ⟨by omega, by omega⟩ ⟨by omega, by omega⟩ hR ⟨Nat.le_of_ble_eq_true rfl, Nat.le_of_ble_eq_true rfl⟩ ⟨Nat.le_refl 1, by show 0 + m.toNat ≤ m.toNat; omega⟩ (Nat.le_of_ble_eq_true rfl) d_J_Arrays_copyOf_BIB_25 ?_
    refine jr_copy2i [ai D 1 a n f, ai D 1 q2 m (fun j => if 0 ≤ j ∧ j < 0 + (min n m) then f (0 + (j - 0)) else (fun _ => 0) j)] ok hR w_404 w_406 w_405 w_18 0 1 rfl rfl rfl rfl (by omega) (by omega) (by omega) (by omega) (by omega) (fun i h1 h2 => hy5 i (by omega) (by omega)) ⟨Nat.le_of_ble_eq_true rfl, Nat.le_of_ble_eq_true rfl⟩ (Nat.le_of_ble_eq_true rfl) rfl d_J_Arrays_copyOf_BIB_28 ?_
    refine jr_aload_n ok 0 d_J_Arrays_copyOf_BIB_31 rfl rfl ?_
    exact jr_aretA ok (Or.inr ⟨_, rfl⟩) fin (Nat.le_refl _) (by show 0 + m.toNat ≤ m.toNat; omega) q2 rfl trivial sg_same d_J_Arrays_copyOf_BIB_32
  · skip
    exfalso; omega

abbrev b_J_Arrays_copyOf_III : ByteArray := prog_28_method_123_code
theorem d_J_Arrays_copyOf_III_0 : decode b_J_Arrays_copyOf_III 0 = .ok (.iload_n 1, 1) := by decide +kernel
theorem d_J_Arrays_copyOf_III_1 : decode b_J_Arrays_copyOf_III 1 = .ok (.aload_n 0, 1) := by decide +kernel
theorem d_J_Arrays_copyOf_III_2 : decode b_J_Arrays_copyOf_III 2 = .ok (.arraylength, 1) := by decide +kernel
theorem d_J_Arrays_copyOf_III_3 : decode b_J_Arrays_copyOf_III 3 = .ok (.if_icmp .ne 11, 3) := by decide +kernel
theorem d_J_Arrays_copyOf_III_6 : decode b_J_Arrays_copyOf_III 6 = .ok (.aload_n 0, 1) := by decide +kernel
theorem d_J_Arrays_copyOf_III_7 : decode b_J_Arrays_copyOf_III 7 = .ok (.invokevirtual 316, 3) := by decide +kernel
theorem d_J_Arrays_copyOf_III_10 : decode b_J_Arrays_copyOf_III 10 = .ok (.checkcast 317, 3) := by decide +kernel
theorem d_J_Arrays_copyOf_III_13 : decode b_J_Arrays_copyOf_III 13 = .ok (.areturn, 1) := by decide +kernel
theorem d_J_Arrays_copyOf_III_14 : decode b_J_Arrays_copyOf_III 14 = .ok (.iload_n 1, 1) := by decide +kernel
theorem d_J_Arrays_copyOf_III_15 : decode b_J_Arrays_copyOf_III 15 = .ok (.newarray .int, 2) := by decide +kernel
theorem d_J_Arrays_copyOf_III_17 : decode b_J_Arrays_copyOf_III 17 = .ok (.astore_n 2, 1) := by decide +kernel
theorem d_J_Arrays_copyOf_III_18 : decode b_J_Arrays_copyOf_III 18 = .ok (.aload_n 0, 1) := by decide +kernel
theorem d_J_Arrays_copyOf_III_19 : decode b_J_Arrays_copyOf_III 19 = .ok (.iconst 0, 1) := by decide +kernel
theorem d_J_Arrays_copyOf_III_20 : decode b_J_Arrays_copyOf_III 20 = .ok (.aload_n 2, 1) := by decide +kernel
theorem d_J_Arrays_copyOf_III_21 : decode b_J_Arrays_copyOf_III 21 = .ok (.iconst 0, 1) := by decide +kernel
theorem d_J_Arrays_copyOf_III_22 : decode b_J_Arrays_copyOf_III 22 = .ok (.aload_n 0, 1) := by decide +kernel
theorem d_J_Arrays_copyOf_III_23 : decode b_J_Arrays_copyOf_III 23 = .ok (.arraylength, 1) := by decide +kernel
theorem d_J_Arrays_copyOf_III_24 : decode b_J_Arrays_copyOf_III 24 = .ok (.iload_n 1, 1) := by decide +kernel
theorem d_J_Arrays_copyOf_III_25 : decode b_J_Arrays_copyOf_III 25 = .ok (.invokestatic 304, 3) := by decide +kernel
theorem d_J_Arrays_copyOf_III_28 : decode b_J_Arrays_copyOf_III 28 = .ok (.invokestatic 150, 3) := by decide +kernel
theorem d_J_Arrays_copyOf_III_31 : decode b_J_Arrays_copyOf_III 31 = .ok (.aload_n 2, 1) := by decide +kernel
theorem d_J_Arrays_copyOf_III_32 : decode b_J_Arrays_copyOf_III 32 = .ok (.areturn, 1) := by decide +kernel
set_option maxHeartbeats 4000000 in
set_option maxRecDepth 100000 in
/-- Arrays.copyOf to a greater length -/
theorem c_copyI (l : Launch) (D : jd_T) (a : Nat) (n : Int) (m : Int) (f : Int → Int) (hy0 : 0 ≤ n) (hy1 : 0 ≤ m) (hy2 : m ≤ 67108864) (hy3 : n ≤ 2147483647) (hy4 : n ≠ m) : jc_C l D y_J_Arrays_copyOf_III b_J_Arrays_copyOf_III 3 (some (.array .int)) { frames := 1, cells := 1, slots := m.toNat, locals := 40 } [.ref a, .int (ii m)] [ai D 0 a n f] (fun q : Nat => (.returned (some (.ref q)), True, [ai D 0 a n f, ai D 0 q m (fun j => if 0 ≤ j ∧ j < 0 + (min n m) then f (0 + (j - 0)) else (fun _ => 0) j)])) := by
  refine jc_of rfl (Nat.le_of_ble_eq_true rfl) ?_
  intro X hl hR hN ok hnm fin
  subst hl
  show jw X 0 0 [ai D 0 a n f] [(0, .ref a), (1, .int (ii m))] 0 []
  refine jr_iload_n ok 1 d_J_Arrays_copyOf_III_0 rfl rfl ?_
  refine jr_aload_n ok 0 d_J_Arrays_copyOf_III_1 rfl rfl ?_
  refine jr_alen_i ok 0 rfl rfl d_J_Arrays_copyOf_III_2 ?_
  refine jr_icmp_ne 14 ok ⟨by omega, by omega⟩ ⟨by omega, by omega⟩ d_J_Arrays_copyOf_III_3 (by decide) (fun c1 => ?_) (fun c1 => ?_)
  · skip
    refine jr_iload_n ok 1 d_J_Arrays_copyOf_III_14 rfl rfl ?_
    refine jr_newi ok hR w_108 (by omega) (by omega) (Nat.le_refl 1) (by show 0 + m.toNat ≤ m.toNat; omega) d_J_Arrays_copyOf_III_15 (fun q2 => ?_)
    show jw X 1 (0 + m.toNat) [ai D 0 a n f, ai D 0 q2 m (fun _ => 0)] [(0, .ref a), (1, .int (ii m))] 17 [.ref q2]
    refine jr_astore_n [(2, .ref q2), (0, .ref a), (1, .int (ii m))] ok d_J_Arrays_copyOf_III_17 rfl (by rw [hN]; decide) rfl ?_
    refine jr_aload_n ok 1 d_J_Arrays_copyOf_III_18 rfl rfl ?_
    refine jr_iconst ok d_J_Arrays_copyOf_III_19 ?_
    refine jr_aload_n ok 0 d_J_Arrays_copyOf_III_20 rfl rfl ?_
    refine jr_iconst ok d_J_Arrays_copyOf_III_21 ?_
    refine jr_aload_n ok 1 d_J_Arrays_copyOf_III_22 rfl rfl ?_
    refine jr_alen_i ok 0 rfl rfl d_J_Arrays_copyOf_III_23 ?_
    refine jr_iload_n ok 2 d_J_Arrays_copyOf_III_24 rfl rfl ?_
    refine jr_imin ok w_401 w_402 w_17 w_403 ⟨by omega, by omega⟩ ⟨by omega, by omega⟩ hR ⟨Nat.le_of_ble_eq_true rfl, Nat.le_of_ble_eq_true rfl⟩ ⟨Nat.le_refl 1, by show 0 + m.toNat ≤ m.toNat; omega⟩ (Nat.le_of_ble_eq_true rfl) d_J_Arrays_copyOf_III_25 ?_
    refine jr_copy2i [ai D 0 a n f, ai D 0 q2 m (fun j => if 0 ≤ j ∧ j < 0 + (min n m) then f (0 + (j - 0)) else (fun _ => 0) j)] ok hR w_404 w_406 w_405 w_18 0 1 rfl rfl rfl rfl (by omega) (by omega) (by omega) (by omega) (by omega) (fun _ _ _ => rfl) ⟨Nat.le_of_ble_eq_true rfl, Nat.le_of_ble_eq_true rfl⟩ (Nat.le_of_ble_eq_true rfl) rfl d_J_Arrays_copyOf_III_28 ?_
    refine jr_aload_n ok 0 d_J_Arrays_copyOf_III_31 rfl rfl ?_
    exact jr_aretA ok (Or.inr ⟨_, rfl⟩) fin (Nat.le_refl _) (by show 0 + m.toNat ≤ m.toNat; omega) q2 rfl trivial sg_same d_J_Arrays_copyOf_III_32
  · skip
    exfalso; omega

abbrev b_J_Arrays_copyOf_JIJ : ByteArray := prog_28_method_124_code
theorem d_J_Arrays_copyOf_JIJ_0 : decode b_J_Arrays_copyOf_JIJ 0 = .ok (.iload_n 1, 1) := by decide +kernel
theorem d_J_Arrays_copyOf_JIJ_1 : decode b_J_Arrays_copyOf_JIJ 1 = .ok (.aload_n 0, 1) := by decide +kernel
theorem d_J_Arrays_copyOf_JIJ_2 : decode b_J_Arrays_copyOf_JIJ 2 = .ok (.arraylength, 1) := by decide +kernel
theorem d_J_Arrays_copyOf_JIJ_3 : decode b_J_Arrays_copyOf_JIJ 3 = .ok (.if_icmp .ne 11, 3) := by decide +kernel
theorem d_J_Arrays_copyOf_JIJ_6 : decode b_J_Arrays_copyOf_JIJ 6 = .ok (.aload_n 0, 1) := by decide +kernel
theorem d_J_Arrays_copyOf_JIJ_7 : decode b_J_Arrays_copyOf_JIJ 7 = .ok (.invokevirtual 319, 3) := by decide +kernel
theorem d_J_Arrays_copyOf_JIJ_10 : decode b_J_Arrays_copyOf_JIJ 10 = .ok (.checkcast 320, 3) := by decide +kernel
theorem d_J_Arrays_copyOf_JIJ_13 : decode b_J_Arrays_copyOf_JIJ 13 = .ok (.areturn, 1) := by decide +kernel
theorem d_J_Arrays_copyOf_JIJ_14 : decode b_J_Arrays_copyOf_JIJ 14 = .ok (.iload_n 1, 1) := by decide +kernel
theorem d_J_Arrays_copyOf_JIJ_15 : decode b_J_Arrays_copyOf_JIJ 15 = .ok (.newarray .long, 2) := by decide +kernel
theorem d_J_Arrays_copyOf_JIJ_17 : decode b_J_Arrays_copyOf_JIJ 17 = .ok (.astore_n 2, 1) := by decide +kernel
theorem d_J_Arrays_copyOf_JIJ_18 : decode b_J_Arrays_copyOf_JIJ 18 = .ok (.aload_n 0, 1) := by decide +kernel
theorem d_J_Arrays_copyOf_JIJ_19 : decode b_J_Arrays_copyOf_JIJ 19 = .ok (.iconst 0, 1) := by decide +kernel
theorem d_J_Arrays_copyOf_JIJ_20 : decode b_J_Arrays_copyOf_JIJ 20 = .ok (.aload_n 2, 1) := by decide +kernel
theorem d_J_Arrays_copyOf_JIJ_21 : decode b_J_Arrays_copyOf_JIJ 21 = .ok (.iconst 0, 1) := by decide +kernel
theorem d_J_Arrays_copyOf_JIJ_22 : decode b_J_Arrays_copyOf_JIJ 22 = .ok (.aload_n 0, 1) := by decide +kernel
theorem d_J_Arrays_copyOf_JIJ_23 : decode b_J_Arrays_copyOf_JIJ 23 = .ok (.arraylength, 1) := by decide +kernel
theorem d_J_Arrays_copyOf_JIJ_24 : decode b_J_Arrays_copyOf_JIJ 24 = .ok (.iload_n 1, 1) := by decide +kernel
theorem d_J_Arrays_copyOf_JIJ_25 : decode b_J_Arrays_copyOf_JIJ 25 = .ok (.invokestatic 304, 3) := by decide +kernel
theorem d_J_Arrays_copyOf_JIJ_28 : decode b_J_Arrays_copyOf_JIJ 28 = .ok (.invokestatic 150, 3) := by decide +kernel
theorem d_J_Arrays_copyOf_JIJ_31 : decode b_J_Arrays_copyOf_JIJ 31 = .ok (.aload_n 2, 1) := by decide +kernel
theorem d_J_Arrays_copyOf_JIJ_32 : decode b_J_Arrays_copyOf_JIJ 32 = .ok (.areturn, 1) := by decide +kernel
set_option maxHeartbeats 4000000 in
set_option maxRecDepth 100000 in
/-- Arrays.copyOf to a greater length -/
theorem c_copyL (l : Launch) (D : jd_T) (a : Nat) (n : Int) (m : Int) (f : Int → Int64) (hy0 : 0 ≤ n) (hy1 : 0 ≤ m) (hy2 : m ≤ 67108864) (hy3 : n ≤ 2147483647) (hy4 : n ≠ m) : jc_C l D y_J_Arrays_copyOf_JIJ b_J_Arrays_copyOf_JIJ 3 (some (.array .long)) { frames := 1, cells := 1, slots := m.toNat, locals := 40 } [.ref a, .int (ii m)] [al D 2 a n f] (fun q : Nat => (.returned (some (.ref q)), True, [al D 2 a n f, al D 2 q m (fun j => if 0 ≤ j ∧ j < 0 + (min n m) then f (0 + (j - 0)) else (fun _ => 0) j)])) := by
  refine jc_of rfl (Nat.le_of_ble_eq_true rfl) ?_
  intro X hl hR hN ok hnm fin
  subst hl
  show jw X 0 0 [al D 2 a n f] [(0, .ref a), (1, .int (ii m))] 0 []
  refine jr_iload_n ok 1 d_J_Arrays_copyOf_JIJ_0 rfl rfl ?_
  refine jr_aload_n ok 0 d_J_Arrays_copyOf_JIJ_1 rfl rfl ?_
  refine jr_alen_l ok 0 rfl rfl d_J_Arrays_copyOf_JIJ_2 ?_
  refine jr_icmp_ne 14 ok ⟨by omega, by omega⟩ ⟨by omega, by omega⟩ d_J_Arrays_copyOf_JIJ_3 (by decide) (fun c1 => ?_) (fun c1 => ?_)
  · skip
    refine jr_iload_n ok 1 d_J_Arrays_copyOf_JIJ_14 rfl rfl ?_
    refine jr_newl ok hR w_235 (by omega) (by omega) (Nat.le_refl 1) (by show 0 + m.toNat ≤ m.toNat; omega) d_J_Arrays_copyOf_JIJ_15 (fun q2 => ?_)
    show jw X 1 (0 + m.toNat) [al D 2 a n f, al D 2 q2 m (fun _ => 0)] [(0, .ref a), (1, .int (ii m))] 17 [.ref q2]
    refine jr_astore_n [(2, .ref q2), (0, .ref a), (1, .int (ii m))] ok d_J_Arrays_copyOf_JIJ_17 rfl (by rw [hN]; decide) rfl ?_
    refine jr_aload_n ok 1 d_J_Arrays_copyOf_JIJ_18 rfl rfl ?_
    refine jr_iconst ok d_J_Arrays_copyOf_JIJ_19 ?_
    refine jr_aload_n ok 0 d_J_Arrays_copyOf_JIJ_20 rfl rfl ?_
    refine jr_iconst ok d_J_Arrays_copyOf_JIJ_21 ?_
    refine jr_aload_n ok 1 d_J_Arrays_copyOf_JIJ_22 rfl rfl ?_
    refine jr_alen_l ok 0 rfl rfl d_J_Arrays_copyOf_JIJ_23 ?_
    refine jr_iload_n ok 2 d_J_Arrays_copyOf_JIJ_24 rfl rfl ?_
    refine jr_imin ok w_401 w_402 w_17 w_403 ⟨by omega, by omega⟩ ⟨by omega, by omega⟩ hR ⟨Nat.le_of_ble_eq_true rfl, Nat.le_of_ble_eq_true rfl⟩ ⟨Nat.le_refl 1, by show 0 + m.toNat ≤ m.toNat; omega⟩ (Nat.le_of_ble_eq_true rfl) d_J_Arrays_copyOf_JIJ_25 ?_
    refine jr_copy2l [al D 2 a n f, al D 2 q2 m (fun j => if 0 ≤ j ∧ j < 0 + (min n m) then f (0 + (j - 0)) else (fun _ => 0) j)] ok hR w_404 w_406 w_405 w_18 0 1 rfl rfl rfl rfl (by omega) (by omega) (by omega) (by omega) (by omega) (fun _ _ _ => rfl) ⟨Nat.le_of_ble_eq_true rfl, Nat.le_of_ble_eq_true rfl⟩ (Nat.le_of_ble_eq_true rfl) rfl d_J_Arrays_copyOf_JIJ_28 ?_
    refine jr_aload_n ok 0 d_J_Arrays_copyOf_JIJ_31 rfl rfl ?_
    exact jr_aretA ok (Or.inr ⟨_, rfl⟩) fin (Nat.le_refl _) (by show 0 + m.toNat ≤ m.toNat; omega) q2 rfl trivial sg_same d_J_Arrays_copyOf_JIJ_32
  · skip
    exfalso; omega

