/-- the byte at a place of the tape, -1 behind its end -/
def bA (f : Int → Int) (n i : Int) : Int := if 0 ≤ i ∧ i < n then f i % 256 else -1
theorem bA_R (f : Int → Int) (n i : Int) : -1 ≤ bA f n i ∧ bA f n i ≤ 255 := by
  unfold bA
  split <;> omega

theorem d_Tp_init_0 : decode b_Tp_init 0 = .ok (.aload_n 0, 1) := by decide +kernel
theorem d_Tp_init_1 : decode b_Tp_init 1 = .ok (.invokespecial 3, 3) := by decide +kernel
theorem d_Tp_init_4 : decode b_Tp_init 4 = .ok (.aload_n 0, 1) := by decide +kernel
theorem d_Tp_init_5 : decode b_Tp_init 5 = .ok (.sipush 512, 3) := by decide +kernel
theorem d_Tp_init_8 : decode b_Tp_init 8 = .ok (.newarray .byte, 2) := by decide +kernel
theorem d_Tp_init_10 : decode b_Tp_init 10 = .ok (.putfield 9, 3) := by decide +kernel
theorem d_Tp_init_13 : decode b_Tp_init 13 = .ok (.return_, 1) := by decide +kernel
theorem d_Tp_size_0 : decode b_Tp_size 0 = .ok (.aload_n 0, 1) := by decide +kernel
theorem d_Tp_size_1 : decode b_Tp_size 1 = .ok (.getfield 15, 3) := by decide +kernel
theorem d_Tp_size_4 : decode b_Tp_size 4 = .ok (.ireturn, 1) := by decide +kernel
theorem d_Tp_put_0 : decode b_Tp_put 0 = .ok (.aload_n 0, 1) := by decide +kernel
theorem d_Tp_put_1 : decode b_Tp_put 1 = .ok (.getfield 15, 3) := by decide +kernel
theorem d_Tp_put_4 : decode b_Tp_put 4 = .ok (.aload_n 0, 1) := by decide +kernel
theorem d_Tp_put_5 : decode b_Tp_put 5 = .ok (.getfield 9, 3) := by decide +kernel
theorem d_Tp_put_8 : decode b_Tp_put 8 = .ok (.arraylength, 1) := by decide +kernel
theorem d_Tp_put_9 : decode b_Tp_put 9 = .ok (.iconst 4, 1) := by decide +kernel
theorem d_Tp_put_10 : decode b_Tp_put 10 = .ok (.isub, 1) := by decide +kernel
theorem d_Tp_put_11 : decode b_Tp_put 11 = .ok (.if_icmp .le 21, 3) := by decide +kernel
theorem d_Tp_put_14 : decode b_Tp_put 14 = .ok (.aload_n 0, 1) := by decide +kernel
theorem d_Tp_put_15 : decode b_Tp_put 15 = .ok (.aload_n 0, 1) := by decide +kernel
theorem d_Tp_put_16 : decode b_Tp_put 16 = .ok (.getfield 9, 3) := by decide +kernel
theorem d_Tp_put_19 : decode b_Tp_put 19 = .ok (.iconst 2, 1) := by decide +kernel
theorem d_Tp_put_20 : decode b_Tp_put 20 = .ok (.aload_n 0, 1) := by decide +kernel
theorem d_Tp_put_21 : decode b_Tp_put 21 = .ok (.getfield 9, 3) := by decide +kernel
theorem d_Tp_put_24 : decode b_Tp_put 24 = .ok (.arraylength, 1) := by decide +kernel
theorem d_Tp_put_25 : decode b_Tp_put 25 = .ok (.imul, 1) := by decide +kernel
theorem d_Tp_put_26 : decode b_Tp_put 26 = .ok (.invokestatic 19, 3) := by decide +kernel
theorem d_Tp_put_29 : decode b_Tp_put 29 = .ok (.putfield 9, 3) := by decide +kernel
theorem d_Tp_put_32 : decode b_Tp_put 32 = .ok (.bipush 24, 2) := by decide +kernel
theorem d_Tp_put_34 : decode b_Tp_put 34 = .ok (.istore_n 2, 1) := by decide +kernel
theorem d_Tp_put_35 : decode b_Tp_put 35 = .ok (.iload_n 2, 1) := by decide +kernel
theorem d_Tp_put_36 : decode b_Tp_put 36 = .ok (.ifCond .lt 32, 3) := by decide +kernel
theorem d_Tp_put_39 : decode b_Tp_put 39 = .ok (.aload_n 0, 1) := by decide +kernel
theorem d_Tp_put_40 : decode b_Tp_put 40 = .ok (.getfield 9, 3) := by decide +kernel
theorem d_Tp_put_43 : decode b_Tp_put 43 = .ok (.aload_n 0, 1) := by decide +kernel
theorem d_Tp_put_44 : decode b_Tp_put 44 = .ok (.getfield 15, 3) := by decide +kernel
theorem d_Tp_put_47 : decode b_Tp_put 47 = .ok (.iload_n 1, 1) := by decide +kernel
theorem d_Tp_put_48 : decode b_Tp_put 48 = .ok (.iload_n 2, 1) := by decide +kernel
theorem d_Tp_put_49 : decode b_Tp_put 49 = .ok (.ishr, 1) := by decide +kernel
theorem d_Tp_put_50 : decode b_Tp_put 50 = .ok (.i2b, 1) := by decide +kernel
theorem d_Tp_put_51 : decode b_Tp_put 51 = .ok (.bastore, 1) := by decide +kernel
theorem d_Tp_put_52 : decode b_Tp_put 52 = .ok (.aload_n 0, 1) := by decide +kernel
theorem d_Tp_put_53 : decode b_Tp_put 53 = .ok (.dup, 1) := by decide +kernel
theorem d_Tp_put_54 : decode b_Tp_put 54 = .ok (.getfield 15, 3) := by decide +kernel
theorem d_Tp_put_57 : decode b_Tp_put 57 = .ok (.iconst 1, 1) := by decide +kernel
theorem d_Tp_put_58 : decode b_Tp_put 58 = .ok (.iadd, 1) := by decide +kernel
theorem d_Tp_put_59 : decode b_Tp_put 59 = .ok (.putfield 15, 3) := by decide +kernel
theorem d_Tp_put_62 : decode b_Tp_put 62 = .ok (.iinc 2 (-8), 3) := by decide +kernel
theorem d_Tp_put_65 : decode b_Tp_put 65 = .ok (.goto (-30), 3) := by decide +kernel
theorem d_Tp_put_68 : decode b_Tp_put 68 = .ok (.return_, 1) := by decide +kernel
theorem d_Tp_keep_0 : decode b_Tp_keep 0 = .ok (.iload_n 1, 1) := by decide +kernel
theorem d_Tp_keep_1 : decode b_Tp_keep 1 = .ok (.ifCond .lt 16, 3) := by decide +kernel
theorem d_Tp_keep_4 : decode b_Tp_keep 4 = .ok (.iload_n 1, 1) := by decide +kernel
theorem d_Tp_keep_5 : decode b_Tp_keep 5 = .ok (.aload_n 0, 1) := by decide +kernel
theorem d_Tp_keep_6 : decode b_Tp_keep 6 = .ok (.getfield 15, 3) := by decide +kernel
theorem d_Tp_keep_9 : decode b_Tp_keep 9 = .ok (.if_icmp .ge 8, 3) := by decide +kernel
theorem d_Tp_keep_12 : decode b_Tp_keep 12 = .ok (.aload_n 0, 1) := by decide +kernel
theorem d_Tp_keep_13 : decode b_Tp_keep 13 = .ok (.iload_n 1, 1) := by decide +kernel
theorem d_Tp_keep_14 : decode b_Tp_keep 14 = .ok (.putfield 15, 3) := by decide +kernel
theorem d_Tp_keep_17 : decode b_Tp_keep 17 = .ok (.return_, 1) := by decide +kernel
theorem d_Tp_byteAt_0 : decode b_Tp_byteAt 0 = .ok (.iload_n 1, 1) := by decide +kernel
theorem d_Tp_byteAt_1 : decode b_Tp_byteAt 1 = .ok (.ifCond .lt 24, 3) := by decide +kernel
theorem d_Tp_byteAt_4 : decode b_Tp_byteAt 4 = .ok (.iload_n 1, 1) := by decide +kernel
theorem d_Tp_byteAt_5 : decode b_Tp_byteAt 5 = .ok (.aload_n 0, 1) := by decide +kernel
theorem d_Tp_byteAt_6 : decode b_Tp_byteAt 6 = .ok (.getfield 15, 3) := by decide +kernel
theorem d_Tp_byteAt_9 : decode b_Tp_byteAt 9 = .ok (.if_icmp .ge 16, 3) := by decide +kernel
theorem d_Tp_byteAt_12 : decode b_Tp_byteAt 12 = .ok (.aload_n 0, 1) := by decide +kernel
theorem d_Tp_byteAt_13 : decode b_Tp_byteAt 13 = .ok (.getfield 9, 3) := by decide +kernel
theorem d_Tp_byteAt_16 : decode b_Tp_byteAt 16 = .ok (.iload_n 1, 1) := by decide +kernel
theorem d_Tp_byteAt_17 : decode b_Tp_byteAt 17 = .ok (.baload, 1) := by decide +kernel
theorem d_Tp_byteAt_18 : decode b_Tp_byteAt 18 = .ok (.sipush 255, 3) := by decide +kernel
theorem d_Tp_byteAt_21 : decode b_Tp_byteAt 21 = .ok (.iand, 1) := by decide +kernel
theorem d_Tp_byteAt_22 : decode b_Tp_byteAt 22 = .ok (.goto 4, 3) := by decide +kernel
theorem d_Tp_byteAt_25 : decode b_Tp_byteAt 25 = .ok (.iconst (-1), 1) := by decide +kernel
theorem d_Tp_byteAt_26 : decode b_Tp_byteAt 26 = .ok (.ireturn, 1) := by decide +kernel
theorem d_Tp_longAt_0 : decode b_Tp_longAt 0 = .ok (.lconst 0, 1) := by decide +kernel
theorem d_Tp_longAt_1 : decode b_Tp_longAt 1 = .ok (.lstore_n 2, 1) := by decide +kernel
theorem d_Tp_longAt_2 : decode b_Tp_longAt 2 = .ok (.iconst 0, 1) := by decide +kernel
theorem d_Tp_longAt_3 : decode b_Tp_longAt 3 = .ok (.istore 4, 2) := by decide +kernel
theorem d_Tp_longAt_5 : decode b_Tp_longAt 5 = .ok (.iload 4, 2) := by decide +kernel
theorem d_Tp_longAt_7 : decode b_Tp_longAt 7 = .ok (.bipush 8, 2) := by decide +kernel
theorem d_Tp_longAt_9 : decode b_Tp_longAt 9 = .ok (.if_icmp .ge 28, 3) := by decide +kernel
theorem d_Tp_longAt_12 : decode b_Tp_longAt 12 = .ok (.lload_n 2, 1) := by decide +kernel
theorem d_Tp_longAt_13 : decode b_Tp_longAt 13 = .ok (.bipush 8, 2) := by decide +kernel
theorem d_Tp_longAt_15 : decode b_Tp_longAt 15 = .ok (.lshl, 1) := by decide +kernel
theorem d_Tp_longAt_16 : decode b_Tp_longAt 16 = .ok (.aload_n 0, 1) := by decide +kernel
theorem d_Tp_longAt_17 : decode b_Tp_longAt 17 = .ok (.iload_n 1, 1) := by decide +kernel
theorem d_Tp_longAt_18 : decode b_Tp_longAt 18 = .ok (.iload 4, 2) := by decide +kernel
theorem d_Tp_longAt_20 : decode b_Tp_longAt 20 = .ok (.iadd, 1) := by decide +kernel
theorem d_Tp_longAt_21 : decode b_Tp_longAt 21 = .ok (.invokevirtual 25, 3) := by decide +kernel
theorem d_Tp_longAt_24 : decode b_Tp_longAt 24 = .ok (.sipush 255, 3) := by decide +kernel
theorem d_Tp_longAt_27 : decode b_Tp_longAt 27 = .ok (.iand, 1) := by decide +kernel
theorem d_Tp_longAt_28 : decode b_Tp_longAt 28 = .ok (.i2l, 1) := by decide +kernel
theorem d_Tp_longAt_29 : decode b_Tp_longAt 29 = .ok (.lor, 1) := by decide +kernel
theorem d_Tp_longAt_30 : decode b_Tp_longAt 30 = .ok (.lstore_n 2, 1) := by decide +kernel
theorem d_Tp_longAt_31 : decode b_Tp_longAt 31 = .ok (.iinc 4 1, 3) := by decide +kernel
theorem d_Tp_longAt_34 : decode b_Tp_longAt 34 = .ok (.goto (-29), 3) := by decide +kernel
theorem d_Tp_longAt_37 : decode b_Tp_longAt 37 = .ok (.lload_n 2, 1) := by decide +kernel
theorem d_Tp_longAt_38 : decode b_Tp_longAt 38 = .ok (.lreturn, 1) := by decide +kernel
theorem d_Tp_compare_0 : decode b_Tp_compare 0 = .ok (.iload_n 2, 1) := by decide +kernel
theorem d_Tp_compare_1 : decode b_Tp_compare 1 = .ok (.iload_n 1, 1) := by decide +kernel
theorem d_Tp_compare_2 : decode b_Tp_compare 2 = .ok (.isub, 1) := by decide +kernel
theorem d_Tp_compare_3 : decode b_Tp_compare 3 = .ok (.istore 5, 2) := by decide +kernel
theorem d_Tp_compare_5 : decode b_Tp_compare 5 = .ok (.iload 4, 2) := by decide +kernel
theorem d_Tp_compare_7 : decode b_Tp_compare 7 = .ok (.iload_n 3, 1) := by decide +kernel
theorem d_Tp_compare_8 : decode b_Tp_compare 8 = .ok (.isub, 1) := by decide +kernel
theorem d_Tp_compare_9 : decode b_Tp_compare 9 = .ok (.istore 6, 2) := by decide +kernel
theorem d_Tp_compare_11 : decode b_Tp_compare 11 = .ok (.iconst 0, 1) := by decide +kernel
theorem d_Tp_compare_12 : decode b_Tp_compare 12 = .ok (.istore 7, 2) := by decide +kernel
theorem d_Tp_compare_14 : decode b_Tp_compare 14 = .ok (.iload 7, 2) := by decide +kernel
theorem d_Tp_compare_16 : decode b_Tp_compare 16 = .ok (.iload 5, 2) := by decide +kernel
theorem d_Tp_compare_18 : decode b_Tp_compare 18 = .ok (.if_icmp .ge 45, 3) := by decide +kernel
theorem d_Tp_compare_21 : decode b_Tp_compare 21 = .ok (.iload 7, 2) := by decide +kernel
theorem d_Tp_compare_23 : decode b_Tp_compare 23 = .ok (.iload 6, 2) := by decide +kernel
theorem d_Tp_compare_25 : decode b_Tp_compare 25 = .ok (.if_icmp .ge 38, 3) := by decide +kernel
theorem d_Tp_compare_28 : decode b_Tp_compare 28 = .ok (.aload_n 0, 1) := by decide +kernel
theorem d_Tp_compare_29 : decode b_Tp_compare 29 = .ok (.iload_n 1, 1) := by decide +kernel
theorem d_Tp_compare_30 : decode b_Tp_compare 30 = .ok (.iload 7, 2) := by decide +kernel
theorem d_Tp_compare_32 : decode b_Tp_compare 32 = .ok (.iadd, 1) := by decide +kernel
theorem d_Tp_compare_33 : decode b_Tp_compare 33 = .ok (.invokevirtual 25, 3) := by decide +kernel
theorem d_Tp_compare_36 : decode b_Tp_compare 36 = .ok (.aload_n 0, 1) := by decide +kernel
theorem d_Tp_compare_37 : decode b_Tp_compare 37 = .ok (.iload_n 3, 1) := by decide +kernel
theorem d_Tp_compare_38 : decode b_Tp_compare 38 = .ok (.iload 7, 2) := by decide +kernel
theorem d_Tp_compare_40 : decode b_Tp_compare 40 = .ok (.iadd, 1) := by decide +kernel
theorem d_Tp_compare_41 : decode b_Tp_compare 41 = .ok (.invokevirtual 25, 3) := by decide +kernel
theorem d_Tp_compare_44 : decode b_Tp_compare 44 = .ok (.invokestatic 29, 3) := by decide +kernel
theorem d_Tp_compare_47 : decode b_Tp_compare 47 = .ok (.istore 8, 2) := by decide +kernel
theorem d_Tp_compare_49 : decode b_Tp_compare 49 = .ok (.iload 8, 2) := by decide +kernel
theorem d_Tp_compare_51 : decode b_Tp_compare 51 = .ok (.ifCond .eq 6, 3) := by decide +kernel
theorem d_Tp_compare_54 : decode b_Tp_compare 54 = .ok (.iload 8, 2) := by decide +kernel
theorem d_Tp_compare_56 : decode b_Tp_compare 56 = .ok (.ireturn, 1) := by decide +kernel
theorem d_Tp_compare_57 : decode b_Tp_compare 57 = .ok (.iinc 7 1, 3) := by decide +kernel
theorem d_Tp_compare_60 : decode b_Tp_compare 60 = .ok (.goto (-46), 3) := by decide +kernel
theorem d_Tp_compare_63 : decode b_Tp_compare 63 = .ok (.iload 5, 2) := by decide +kernel
theorem d_Tp_compare_65 : decode b_Tp_compare 65 = .ok (.iload 6, 2) := by decide +kernel
theorem d_Tp_compare_67 : decode b_Tp_compare 67 = .ok (.invokestatic 29, 3) := by decide +kernel
theorem d_Tp_compare_70 : decode b_Tp_compare 70 = .ok (.ireturn, 1) := by decide +kernel

set_option maxHeartbeats 4000000 in
set_option maxRecDepth 100000 in
/-- Tape.size -/
theorem c_Tp_size (l : Launch) (D : jd_T) (a : Nat) (b : Nat) (n : Int)  : jc_C l D y_Tp_size b_Tp_size 1 (some .int) { frames := 0, cells := 0, slots := 0, locals := 0 } [.ref a] [ob D a 11 [.ref b, .int (ii n)]] (fun _ : Unit => (.returned (some (.int (ii n))), True, [ob D a 11 [.ref b, .int (ii n)]])) := by
  refine jc_of rfl (Nat.le_of_ble_eq_true rfl) ?_
  intro X hl hR hN ok hnm fin
  subst hl
  show jw X 0 0 [ob D a 11 [.ref b, .int (ii n)]] [(0, .ref a)] 0 []
  refine jr_aload_n ok 0 d_Tp_size_0 rfl rfl ?_
  refine jr_get ok 0 f_Tp_15 rfl rfl d_Tp_size_1 ?_
  exact jr_iret ok fin (Nat.le_refl _) (Nat.le_refl _) () rfl trivial sg_same d_Tp_size_4

set_option maxHeartbeats 4000000 in
set_option maxRecDepth 100000 in
/-- Tape.keep -/
theorem c_Tp_keep (l : Launch) (D : jd_T) (a : Nat) (b : Nat) (n : Int) (k : Int) (hy0 : iR n) (hy1 : iR k) : jc_C l D y_Tp_keep b_Tp_keep 2 none { frames := 0, cells := 0, slots := 0, locals := 0 } [.ref a, .int (ii k)] [ob D a 11 [.ref b, .int (ii n)]] (fun _ : Unit => (.returned (none), True, [ob D a 11 [.ref b, .int (ii (if 0 ≤ k ∧ k < n then k else n))]])) := by
  refine jc_of rfl (Nat.le_of_ble_eq_true rfl) ?_
  intro X hl hR hN ok hnm fin
  subst hl
  show jw X 0 0 [ob D a 11 [.ref b, .int (ii n)]] [(0, .ref a), (1, .int (ii k))] 0 []
  refine jr_iload_n ok 1 d_Tp_keep_0 rfl rfl ?_
  refine jr_if_lt 17 ok ⟨by omega, by omega⟩ d_Tp_keep_1 (by decide) (fun c1 => ?_) (fun c1 => ?_)
  · skip
    exact jr_vret ok fin (Nat.le_refl _) (Nat.le_refl _) () rfl trivial (fun h q => by rw [show (if 0 ≤ k ∧ k < n then k else n) = n from by split <;> omega]; exact q) d_Tp_keep_17
  · skip
    refine jr_iload_n ok 1 d_Tp_keep_4 rfl rfl ?_
    refine jr_aload_n ok 0 d_Tp_keep_5 rfl rfl ?_
    refine jr_get ok 0 f_Tp_15 rfl rfl d_Tp_keep_6 ?_
    refine jr_icmp_ge 17 ok ⟨by omega, by omega⟩ ⟨by omega, by omega⟩ d_Tp_keep_9 (by decide) (fun c2 => ?_) (fun c2 => ?_)
    · skip
      exact jr_vret ok fin (Nat.le_refl _) (Nat.le_refl _) () rfl trivial (fun h q => by rw [show (if 0 ≤ k ∧ k < n then k else n) = n from by split <;> omega]; exact q) d_Tp_keep_17
    · skip
      refine jr_aload_n ok 0 d_Tp_keep_12 rfl rfl ?_
      refine jr_iload_n ok 1 d_Tp_keep_13 rfl rfl ?_
      refine jr_put [ob D a 11 [.ref b, .int (ii k)]] ok 0 f_Tp_15 rfl rfl rfl (Nat.le_of_ble_eq_true rfl) rfl d_Tp_keep_14 ?_
      exact jr_vret ok fin (Nat.le_refl _) (Nat.le_refl _) () rfl trivial (fun h q => by rw [show (if 0 ≤ k ∧ k < n then k else n) = k from by split <;> omega]; exact q) d_Tp_keep_17

set_option maxHeartbeats 4000000 in
set_option maxRecDepth 100000 in
/-- Tape.byteAt -/
theorem c_Tp_byteAt (l : Launch) (D : jd_T) (a : Nat) (b : Nat) (cap : Int) (n : Int) (f : Int → Int) (i : Int) (hy0 : 0 ≤ n) (hy1 : n ≤ cap) (hy2 : cap ≤ 2147483647) (hy3 : iR i) : jc_C l D y_Tp_byteAt b_Tp_byteAt 2 (some .int) { frames := 0, cells := 0, slots := 0, locals := 0 } [.ref a, .int (ii i)] [ob D a 11 [.ref b, .int (ii n)], ai D 1 b cap f] (fun _ : Unit => (.returned (some (.int (ii (bA f n i)))), True, [ob D a 11 [.ref b, .int (ii n)], ai D 1 b cap f])) := by
  refine jc_of rfl (Nat.le_of_ble_eq_true rfl) ?_
  intro X hl hR hN ok hnm fin
  subst hl
  show jw X 0 0 [ob D a 11 [.ref b, .int (ii n)], ai D 1 b cap f] [(0, .ref a), (1, .int (ii i))] 0 []
  refine jr_iload_n ok 1 d_Tp_byteAt_0 rfl rfl ?_
  refine jr_if_lt 25 ok ⟨by omega, by omega⟩ d_Tp_byteAt_1 (by decide) (fun c1 => ?_) (fun c1 => ?_)
  · skip
    refine jr_iconst ok d_Tp_byteAt_25 ?_
    exact jr_iret ok fin (Nat.le_refl _) (Nat.le_refl _) () (congrArg (fun z => Outcome.returned (some (Value.int (ii z)))) (show bA f n i = -1 from (by unfold bA; split <;> omega))) trivial sg_same d_Tp_byteAt_26
  · skip
    refine jr_iload_n ok 1 d_Tp_byteAt_4 rfl rfl ?_
    refine jr_aload_n ok 0 d_Tp_byteAt_5 rfl rfl ?_
    refine jr_get ok 0 f_Tp_15 rfl rfl d_Tp_byteAt_6 ?_
    refine jr_icmp_ge 25 ok ⟨by omega, by omega⟩ ⟨by omega, by omega⟩ d_Tp_byteAt_9 (by decide) (fun c2 => ?_) (fun c2 => ?_)
    · skip
      refine jr_iconst ok d_Tp_byteAt_25 ?_
      exact jr_iret ok fin (Nat.le_refl _) (Nat.le_refl _) () (congrArg (fun z => Outcome.returned (some (Value.int (ii z)))) (show bA f n i = -1 from (by unfold bA; split <;> omega))) trivial sg_same d_Tp_byteAt_26
    · skip
      refine jr_aload_n ok 0 d_Tp_byteAt_12 rfl rfl ?_
      refine jr_get ok 0 f_Tp_9 rfl rfl d_Tp_byteAt_13 ?_
      refine jr_iload_n ok 1 d_Tp_byteAt_16 rfl rfl ?_
      refine jr_bald ok 1 rfl rfl (by omega) (by omega) d_Tp_byteAt_17 ?_
      refine jr_sipush ok d_Tp_byteAt_18 (by decide +kernel) ?_
      refine jr_iand (z := f i % 256) ok d_Tp_byteAt_21 (ii_and255 _) ?_
      refine jr_goto 26 ok d_Tp_byteAt_22 (by decide) ?_
      exact jr_iret ok fin (Nat.le_refl _) (Nat.le_refl _) () (congrArg (fun z => Outcome.returned (some (Value.int (ii z)))) (show bA f n i = f i % 256 from (by unfold bA; split <;> omega))) trivial sg_same d_Tp_byteAt_26

/-- eight bytes as a number, the highest first -/
def lgA (g : Int → Int) (i : Int) : Nat → Int
  | 0 => 0
  | k + 1 => lgA g i k * 256 + g (i + k) % 256

set_option maxHeartbeats 4000000 in
set_option maxRecDepth 100000 in
/-- Tape.longAt -/
theorem c_Tp_longAt (l : Launch) (D : jd_T) (a : Nat) (b : Nat) (cap : Int) (n : Int) (f : Int → Int) (i : Int) (hy0 : 0 ≤ n) (hy1 : n ≤ cap) (hy2 : cap ≤ 2147483647) (hy3 : 0 ≤ i) (hy4 : i ≤ 2147483000) : jc_C l D y_Tp_longAt b_Tp_longAt 5 (some .long) { frames := 1, cells := 0, slots := 0, locals := 21 } [.ref a, .int (ii i)] [ob D a 11 [.ref b, .int (ii n)], ai D 1 b cap f] (fun _ : Unit => (.returned (some (.long (ll (lgA (bA f n) i 8)))), True, [ob D a 11 [.ref b, .int (ii n)], ai D 1 b cap f])) := by
  refine jc_of rfl (Nat.le_of_ble_eq_true rfl) ?_
  intro X hl hR hN ok hnm fin
  subst hl
  show jw X 0 0 [ob D a 11 [.ref b, .int (ii n)], ai D 1 b cap f] [(0, .ref a), (1, .int (ii i))] 0 []
  have lp : ∀ (m k : Nat), k + m = 8 → jw X 0 0 [ob D a 11 [.ref b, .int (ii n)], ai D 1 b cap f] [(4, .int (ii (k : Int))), (2, .long (ll (lgA (bA f n) i k))), (0, .ref a), (1, .int (ii i))] 5 [] := by
    intro m
    induction m with
    | zero =>
      intro k hk
      refine jr_iload ok 0 d_Tp_longAt_5 rfl ?_
      refine jr_bipush ok d_Tp_longAt_7 (by decide +kernel) ?_
      refine jr_icmp_ge 37 ok ⟨by omega, by omega⟩ ⟨by decide, by decide⟩ d_Tp_longAt_9 (by decide) (fun c1 => ?_) (fun c1 => ?_)
      · skip
        refine jr_lload_n ok 1 d_Tp_longAt_37 rfl rfl ?_
        exact jr_lret ok fin (Nat.le_refl _) (Nat.le_refl _) () (congrArg (fun z => Outcome.returned (some (Value.long (ll z)))) (show lgA (bA f n) i 8 = lgA (bA f n) i k from (by rw [show k = 8 from by omega]))) trivial sg_same d_Tp_longAt_38
      · skip
        exfalso; omega
    | succ m ih =>
      intro k hk
      refine jr_iload ok 0 d_Tp_longAt_5 rfl ?_
      refine jr_bipush ok d_Tp_longAt_7 (by decide +kernel) ?_
      refine jr_icmp_ge 37 ok ⟨by omega, by omega⟩ ⟨by decide, by decide⟩ d_Tp_longAt_9 (by decide) (fun c2 => ?_) (fun c2 => ?_)
      · skip
        exfalso; omega
      · skip
        refine jr_lload_n ok 1 d_Tp_longAt_12 rfl rfl ?_
        refine jr_bipush ok d_Tp_longAt_13 (by decide +kernel) ?_
        refine jr_lshl (z := (lgA (bA f n) i k) * 256) ok d_Tp_longAt_15 (ll_shl8 _) ?_
        refine jr_aload_n ok 2 d_Tp_longAt_16 rfl rfl ?_
        refine jr_iload_n ok 3 d_Tp_longAt_17 rfl rfl ?_
        refine jr_iload ok 0 d_Tp_longAt_18 rfl ?_
        refine jr_iadd ok d_Tp_longAt_20 ?_
        refine jr_cV1 [0, 1] [] [ob D a 11 [.ref b, .int (ii n)], ai D 1 b cap f] 0 0 ok hR m_Tp_25 0 (c_Tp_byteAt (jx_l X) D a b cap n f (i + (k : Int)) hy0 hy1 hy2 ⟨by omega, by omega⟩) (List.isPerm_iff.mp rfl) rfl rfl rfl rfl rfl rfl rfl (Nat.le_of_ble_eq_true rfl) ⟨Nat.le_of_ble_eq_true rfl, Nat.le_of_ble_eq_true rfl⟩ rfl rfl ⟨Nat.le_of_ble_eq_true rfl, Nat.le_of_ble_eq_true rfl⟩ d_Tp_longAt_21 (fun _ => ?_)
        refine jr_sipush ok d_Tp_longAt_24 (by decide +kernel) ?_
        refine jr_iand (z := (bA f n (i + (k : Int))) % 256) ok d_Tp_longAt_27 (ii_and255 _) ?_
        refine jr_i2l ok ⟨by omega, by omega⟩ d_Tp_longAt_28 ?_
        refine jr_lor (z := ((lgA (bA f n) i k) * 256) + ((bA f n (i + (k : Int))) % 256)) ok d_Tp_longAt_29 (ll_or8 _ _ (by omega) (by omega)) ?_
        refine jr_lstore_n [(2, .long (ll (((lgA (bA f n) i k) * 256) + ((bA f n (i + (k : Int))) % 256)))), (4, .int (ii (k : Int))), (0, .ref a), (1, .int (ii i))] ok d_Tp_longAt_30 rfl (by rw [hN]; decide) rfl ?_
        refine jr_iinc [(4, .int (ii ((k : Int) + 1))), (2, .long (ll (((lgA (bA f n) i k) * 256) + ((bA f n (i + (k : Int))) % 256)))), (0, .ref a), (1, .int (ii i))] 1 ok d_Tp_longAt_31 rfl (by rw [hN]; decide) rfl ?_
        refine jr_goto 5 ok d_Tp_longAt_34 (by decide) ?_
        exact jr_lv [0, 1, 2, 3] rfl (ih (k + 1) (by omega))
  refine jr_lconst (z := 0) ok d_Tp_longAt_0 (by decide +kernel) ?_
  refine jr_lstore_n [(2, .long (ll 0)), (0, .ref a), (1, .int (ii i))] ok d_Tp_longAt_1 rfl (by rw [hN]; decide) rfl ?_
  refine jr_iconst ok d_Tp_longAt_2 ?_
  refine jr_istore [(4, .int (ii 0)), (2, .long (ll 0)), (0, .ref a), (1, .int (ii i))] ok d_Tp_longAt_3 (by rw [hN]; decide) rfl ?_
  exact lp 8 0 rfl
