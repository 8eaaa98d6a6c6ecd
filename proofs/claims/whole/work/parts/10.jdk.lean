abbrev b_J_Integer_compare_III : ByteArray := prog_19_method_40_code
theorem d_J_Integer_compare_III_0 : decode b_J_Integer_compare_III 0 = .ok (.iload_n 0, 1) := by decide +kernel
theorem d_J_Integer_compare_III_1 : decode b_J_Integer_compare_III 1 = .ok (.iload_n 1, 1) := by decide +kernel
theorem d_J_Integer_compare_III_2 : decode b_J_Integer_compare_III 2 = .ok (.if_icmp .ge 7, 3) := by decide +kernel
theorem d_J_Integer_compare_III_5 : decode b_J_Integer_compare_III 5 = .ok (.iconst (-1), 1) := by decide +kernel
theorem d_J_Integer_compare_III_6 : decode b_J_Integer_compare_III 6 = .ok (.goto 13, 3) := by decide +kernel
theorem d_J_Integer_compare_III_9 : decode b_J_Integer_compare_III 9 = .ok (.iload_n 0, 1) := by decide +kernel
theorem d_J_Integer_compare_III_10 : decode b_J_Integer_compare_III 10 = .ok (.iload_n 1, 1) := by decide +kernel
theorem d_J_Integer_compare_III_11 : decode b_J_Integer_compare_III 11 = .ok (.if_icmp .ne 7, 3) := by decide +kernel
theorem d_J_Integer_compare_III_14 : decode b_J_Integer_compare_III 14 = .ok (.iconst 0, 1) := by decide +kernel
theorem d_J_Integer_compare_III_15 : decode b_J_Integer_compare_III 15 = .ok (.goto 4, 3) := by decide +kernel
theorem d_J_Integer_compare_III_18 : decode b_J_Integer_compare_III 18 = .ok (.iconst 1, 1) := by decide +kernel
theorem d_J_Integer_compare_III_19 : decode b_J_Integer_compare_III 19 = .ok (.ireturn, 1) := by decide +kernel
set_option maxHeartbeats 4000000 in
set_option maxRecDepth 100000 in
/-- Integer.compare -/
theorem c_Icmp (l : Launch) (D : jd_T) (x : Int) (y : Int) (hy0 : iR x) (hy1 : iR y) : jc_C l D y_J_Integer_compare_III b_J_Integer_compare_III 2 (some .int) { frames := 0, cells := 0, slots := 0, locals := 0 } [.int (ii x), .int (ii y)] [] (fun _ : Unit => (.returned (some (.int (ii (cmpI x y)))), True, [])) := by
  refine jc_of rfl (Nat.le_of_ble_eq_true rfl) ?_
  intro X hl hR hN ok hnm fin
  subst hl
  show jw X 0 0 [] [(0, .int (ii x)), (1, .int (ii y))] 0 []
  refine jr_iload_n ok 0 d_J_Integer_compare_III_0 rfl rfl ?_
  refine jr_iload_n ok 1 d_J_Integer_compare_III_1 rfl rfl ?_
  refine jr_icmp_ge 9 ok ⟨by omega, by omega⟩ ⟨by omega, by omega⟩ d_J_Integer_compare_III_2 (by decide) (fun c1 => ?_) (fun c1 => ?_)
  · skip
    refine jr_iload_n ok 0 d_J_Integer_compare_III_9 rfl rfl ?_
    refine jr_iload_n ok 1 d_J_Integer_compare_III_10 rfl rfl ?_
    refine jr_icmp_ne 18 ok ⟨by omega, by omega⟩ ⟨by omega, by omega⟩ d_J_Integer_compare_III_11 (by decide) (fun c2 => ?_) (fun c2 => ?_)
    · skip
      refine jr_iconst ok d_J_Integer_compare_III_18 ?_
      exact jr_iret ok fin (Nat.le_refl _) (Nat.le_refl _) () (congrArg (fun z => Outcome.returned (some (Value.int (ii z)))) (show cmpI x y = 1 from (by simp only [cmpI]; (repeat' split) <;> omega))) trivial sg_same d_J_Integer_compare_III_19
    · skip
      refine jr_iconst ok d_J_Integer_compare_III_14 ?_
      refine jr_goto 19 ok d_J_Integer_compare_III_15 (by decide) ?_
      exact jr_iret ok fin (Nat.le_refl _) (Nat.le_refl _) () (congrArg (fun z => Outcome.returned (some (Value.int (ii z)))) (show cmpI x y = 0 from (by simp only [cmpI]; (repeat' split) <;> omega))) trivial sg_same d_J_Integer_compare_III_19
  · skip
    refine jr_iconst ok d_J_Integer_compare_III_5 ?_
    refine jr_goto 19 ok d_J_Integer_compare_III_6 (by decide) ?_
    exact jr_iret ok fin (Nat.le_refl _) (Nat.le_refl _) () (congrArg (fun z => Outcome.returned (some (Value.int (ii z)))) (show cmpI x y = -1 from (by simp only [cmpI]; (repeat' split) <;> omega))) trivial sg_same d_J_Integer_compare_III_19
