theorem d_Gd_init_0 : decode b_Gd_init 0 = .ok (.aload_n 0, 1) := by decide +kernel
theorem d_Gd_init_1 : decode b_Gd_init 1 = .ok (.invokespecial 3, 3) := by decide +kernel
theorem d_Gd_init_4 : decode b_Gd_init 4 = .ok (.aload_n 0, 1) := by decide +kernel
theorem d_Gd_init_5 : decode b_Gd_init 5 = .ok (.iconst 0, 1) := by decide +kernel
theorem d_Gd_init_6 : decode b_Gd_init 6 = .ok (.newarray .long, 2) := by decide +kernel
theorem d_Gd_init_8 : decode b_Gd_init 8 = .ok (.putfield 9, 3) := by decide +kernel
theorem d_Gd_init_11 : decode b_Gd_init 11 = .ok (.aload_n 0, 1) := by decide +kernel
theorem d_Gd_init_12 : decode b_Gd_init 12 = .ok (.iconst 0, 1) := by decide +kernel
theorem d_Gd_init_13 : decode b_Gd_init 13 = .ok (.newarray .boolean, 2) := by decide +kernel
theorem d_Gd_init_15 : decode b_Gd_init 15 = .ok (.putfield 15, 3) := by decide +kernel
theorem d_Gd_init_18 : decode b_Gd_init 18 = .ok (.return_, 1) := by decide +kernel
theorem d_Gd_lines_0 : decode b_Gd_lines 0 = .ok (.aload_n 0, 1) := by decide +kernel
theorem d_Gd_lines_1 : decode b_Gd_lines 1 = .ok (.getfield 19, 3) := by decide +kernel
theorem d_Gd_lines_4 : decode b_Gd_lines 4 = .ok (.ireturn, 1) := by decide +kernel
theorem d_Gd_windows_0 : decode b_Gd_windows 0 = .ok (.aload_n 0, 1) := by decide +kernel
theorem d_Gd_windows_1 : decode b_Gd_windows 1 = .ok (.getfield 23, 3) := by decide +kernel
theorem d_Gd_windows_4 : decode b_Gd_windows 4 = .ok (.ireturn, 1) := by decide +kernel
theorem d_Gd_isNamed_0 : decode b_Gd_isNamed 0 = .ok (.aload_n 0, 1) := by decide +kernel
theorem d_Gd_isNamed_1 : decode b_Gd_isNamed 1 = .ok (.getfield 26, 3) := by decide +kernel
theorem d_Gd_isNamed_4 : decode b_Gd_isNamed 4 = .ok (.ireturn, 1) := by decide +kernel
theorem d_Gd_shape_0 : decode b_Gd_shape 0 = .ok (.aload_n 0, 1) := by decide +kernel
theorem d_Gd_shape_1 : decode b_Gd_shape 1 = .ok (.iload_n 1, 1) := by decide +kernel
theorem d_Gd_shape_2 : decode b_Gd_shape 2 = .ok (.putfield 19, 3) := by decide +kernel
theorem d_Gd_shape_5 : decode b_Gd_shape 5 = .ok (.aload_n 0, 1) := by decide +kernel
theorem d_Gd_shape_6 : decode b_Gd_shape 6 = .ok (.iload_n 2, 1) := by decide +kernel
theorem d_Gd_shape_7 : decode b_Gd_shape 7 = .ok (.putfield 23, 3) := by decide +kernel
theorem d_Gd_shape_10 : decode b_Gd_shape 10 = .ok (.aload_n 0, 1) := by decide +kernel
theorem d_Gd_shape_11 : decode b_Gd_shape 11 = .ok (.iload_n 3, 1) := by decide +kernel
theorem d_Gd_shape_12 : decode b_Gd_shape 12 = .ok (.putfield 26, 3) := by decide +kernel
theorem d_Gd_shape_15 : decode b_Gd_shape 15 = .ok (.aload_n 0, 1) := by decide +kernel
theorem d_Gd_shape_16 : decode b_Gd_shape 16 = .ok (.getfield 19, 3) := by decide +kernel
theorem d_Gd_shape_19 : decode b_Gd_shape 19 = .ok (.aload_n 0, 1) := by decide +kernel
theorem d_Gd_shape_20 : decode b_Gd_shape 20 = .ok (.getfield 23, 3) := by decide +kernel
theorem d_Gd_shape_23 : decode b_Gd_shape 23 = .ok (.imul, 1) := by decide +kernel
theorem d_Gd_shape_24 : decode b_Gd_shape 24 = .ok (.sipush 16384, 3) := by decide +kernel
theorem d_Gd_shape_27 : decode b_Gd_shape 27 = .ok (.invokestatic 30, 3) := by decide +kernel
theorem d_Gd_shape_30 : decode b_Gd_shape 30 = .ok (.istore 4, 2) := by decide +kernel
theorem d_Gd_shape_32 : decode b_Gd_shape 32 = .ok (.iload 4, 2) := by decide +kernel
theorem d_Gd_shape_34 : decode b_Gd_shape 34 = .ok (.aload_n 0, 1) := by decide +kernel
theorem d_Gd_shape_35 : decode b_Gd_shape 35 = .ok (.getfield 9, 3) := by decide +kernel
theorem d_Gd_shape_38 : decode b_Gd_shape 38 = .ok (.arraylength, 1) := by decide +kernel
theorem d_Gd_shape_39 : decode b_Gd_shape 39 = .ok (.if_icmp .gt 13, 3) := by decide +kernel
theorem d_Gd_shape_42 : decode b_Gd_shape 42 = .ok (.iload 4, 2) := by decide +kernel
theorem d_Gd_shape_44 : decode b_Gd_shape 44 = .ok (.aload_n 0, 1) := by decide +kernel
theorem d_Gd_shape_45 : decode b_Gd_shape 45 = .ok (.getfield 15, 3) := by decide +kernel
theorem d_Gd_shape_48 : decode b_Gd_shape 48 = .ok (.arraylength, 1) := by decide +kernel
theorem d_Gd_shape_49 : decode b_Gd_shape 49 = .ok (.if_icmp .le 39, 3) := by decide +kernel
theorem d_Gd_shape_52 : decode b_Gd_shape 52 = .ok (.iload 4, 2) := by decide +kernel
theorem d_Gd_shape_54 : decode b_Gd_shape 54 = .ok (.iconst 2, 1) := by decide +kernel
theorem d_Gd_shape_55 : decode b_Gd_shape 55 = .ok (.aload_n 0, 1) := by decide +kernel
theorem d_Gd_shape_56 : decode b_Gd_shape 56 = .ok (.getfield 9, 3) := by decide +kernel
theorem d_Gd_shape_59 : decode b_Gd_shape 59 = .ok (.arraylength, 1) := by decide +kernel
theorem d_Gd_shape_60 : decode b_Gd_shape 60 = .ok (.imul, 1) := by decide +kernel
theorem d_Gd_shape_61 : decode b_Gd_shape 61 = .ok (.invokestatic 36, 3) := by decide +kernel
theorem d_Gd_shape_64 : decode b_Gd_shape 64 = .ok (.sipush 16384, 3) := by decide +kernel
theorem d_Gd_shape_67 : decode b_Gd_shape 67 = .ok (.invokestatic 30, 3) := by decide +kernel
theorem d_Gd_shape_70 : decode b_Gd_shape 70 = .ok (.istore 5, 2) := by decide +kernel
theorem d_Gd_shape_72 : decode b_Gd_shape 72 = .ok (.aload_n 0, 1) := by decide +kernel
theorem d_Gd_shape_73 : decode b_Gd_shape 73 = .ok (.iload 5, 2) := by decide +kernel
theorem d_Gd_shape_75 : decode b_Gd_shape 75 = .ok (.newarray .long, 2) := by decide +kernel
theorem d_Gd_shape_77 : decode b_Gd_shape 77 = .ok (.putfield 9, 3) := by decide +kernel
theorem d_Gd_shape_80 : decode b_Gd_shape 80 = .ok (.aload_n 0, 1) := by decide +kernel
theorem d_Gd_shape_81 : decode b_Gd_shape 81 = .ok (.iload 5, 2) := by decide +kernel
theorem d_Gd_shape_83 : decode b_Gd_shape 83 = .ok (.newarray .boolean, 2) := by decide +kernel
theorem d_Gd_shape_85 : decode b_Gd_shape 85 = .ok (.putfield 15, 3) := by decide +kernel
theorem d_Gd_shape_88 : decode b_Gd_shape 88 = .ok (.iconst 0, 1) := by decide +kernel
theorem d_Gd_shape_89 : decode b_Gd_shape 89 = .ok (.istore 5, 2) := by decide +kernel
theorem d_Gd_shape_91 : decode b_Gd_shape 91 = .ok (.iload 5, 2) := by decide +kernel
theorem d_Gd_shape_93 : decode b_Gd_shape 93 = .ok (.iload 4, 2) := by decide +kernel
theorem d_Gd_shape_95 : decode b_Gd_shape 95 = .ok (.if_icmp .ge 17, 3) := by decide +kernel
theorem d_Gd_shape_98 : decode b_Gd_shape 98 = .ok (.aload_n 0, 1) := by decide +kernel
theorem d_Gd_shape_99 : decode b_Gd_shape 99 = .ok (.getfield 15, 3) := by decide +kernel
theorem d_Gd_shape_102 : decode b_Gd_shape 102 = .ok (.iload 5, 2) := by decide +kernel
theorem d_Gd_shape_104 : decode b_Gd_shape 104 = .ok (.iconst 0, 1) := by decide +kernel
theorem d_Gd_shape_105 : decode b_Gd_shape 105 = .ok (.bastore, 1) := by decide +kernel
theorem d_Gd_shape_106 : decode b_Gd_shape 106 = .ok (.iinc 5 1, 3) := by decide +kernel
theorem d_Gd_shape_109 : decode b_Gd_shape 109 = .ok (.goto (-18), 3) := by decide +kernel
theorem d_Gd_shape_112 : decode b_Gd_shape 112 = .ok (.return_, 1) := by decide +kernel
theorem d_Gd_placeOf_0 : decode b_Gd_placeOf 0 = .ok (.aload_n 0, 1) := by decide +kernel
theorem d_Gd_placeOf_1 : decode b_Gd_placeOf 1 = .ok (.getfield 26, 3) := by decide +kernel
theorem d_Gd_placeOf_4 : decode b_Gd_placeOf 4 = .ok (.ifCond .eq 12, 3) := by decide +kernel
theorem d_Gd_placeOf_7 : decode b_Gd_placeOf 7 = .ok (.iload_n 1, 1) := by decide +kernel
theorem d_Gd_placeOf_8 : decode b_Gd_placeOf 8 = .ok (.aload_n 0, 1) := by decide +kernel
theorem d_Gd_placeOf_9 : decode b_Gd_placeOf 9 = .ok (.getfield 23, 3) := by decide +kernel
theorem d_Gd_placeOf_12 : decode b_Gd_placeOf 12 = .ok (.imul, 1) := by decide +kernel
theorem d_Gd_placeOf_13 : decode b_Gd_placeOf 13 = .ok (.goto 4, 3) := by decide +kernel
theorem d_Gd_placeOf_16 : decode b_Gd_placeOf 16 = .ok (.iconst 0, 1) := by decide +kernel
theorem d_Gd_placeOf_17 : decode b_Gd_placeOf 17 = .ok (.iload_n 2, 1) := by decide +kernel
theorem d_Gd_placeOf_18 : decode b_Gd_placeOf 18 = .ok (.iadd, 1) := by decide +kernel
theorem d_Gd_placeOf_19 : decode b_Gd_placeOf 19 = .ok (.ireturn, 1) := by decide +kernel
theorem d_Gd_has_0 : decode b_Gd_has 0 = .ok (.iload_n 1, 1) := by decide +kernel
theorem d_Gd_has_1 : decode b_Gd_has 1 = .ok (.ifCond .lt 25, 3) := by decide +kernel
theorem d_Gd_has_4 : decode b_Gd_has 4 = .ok (.iload_n 1, 1) := by decide +kernel
theorem d_Gd_has_5 : decode b_Gd_has 5 = .ok (.aload_n 0, 1) := by decide +kernel
theorem d_Gd_has_6 : decode b_Gd_has 6 = .ok (.getfield 15, 3) := by decide +kernel
theorem d_Gd_has_9 : decode b_Gd_has 9 = .ok (.arraylength, 1) := by decide +kernel
theorem d_Gd_has_10 : decode b_Gd_has 10 = .ok (.if_icmp .ge 16, 3) := by decide +kernel
theorem d_Gd_has_13 : decode b_Gd_has 13 = .ok (.aload_n 0, 1) := by decide +kernel
theorem d_Gd_has_14 : decode b_Gd_has 14 = .ok (.getfield 15, 3) := by decide +kernel
theorem d_Gd_has_17 : decode b_Gd_has 17 = .ok (.iload_n 1, 1) := by decide +kernel
theorem d_Gd_has_18 : decode b_Gd_has 18 = .ok (.baload, 1) := by decide +kernel
theorem d_Gd_has_19 : decode b_Gd_has 19 = .ok (.ifCond .eq 7, 3) := by decide +kernel
theorem d_Gd_has_22 : decode b_Gd_has 22 = .ok (.iconst 1, 1) := by decide +kernel
theorem d_Gd_has_23 : decode b_Gd_has 23 = .ok (.goto 4, 3) := by decide +kernel
theorem d_Gd_has_26 : decode b_Gd_has 26 = .ok (.iconst 0, 1) := by decide +kernel
theorem d_Gd_has_27 : decode b_Gd_has 27 = .ok (.ireturn, 1) := by decide +kernel
theorem d_Gd_numberAt_0 : decode b_Gd_numberAt 0 = .ok (.aload_n 0, 1) := by decide +kernel
theorem d_Gd_numberAt_1 : decode b_Gd_numberAt 1 = .ok (.iload_n 1, 1) := by decide +kernel
theorem d_Gd_numberAt_2 : decode b_Gd_numberAt 2 = .ok (.invokevirtual 39, 3) := by decide +kernel
theorem d_Gd_numberAt_5 : decode b_Gd_numberAt 5 = .ok (.ifCond .eq 21, 3) := by decide +kernel
theorem d_Gd_numberAt_8 : decode b_Gd_numberAt 8 = .ok (.iload_n 1, 1) := by decide +kernel
theorem d_Gd_numberAt_9 : decode b_Gd_numberAt 9 = .ok (.aload_n 0, 1) := by decide +kernel
theorem d_Gd_numberAt_10 : decode b_Gd_numberAt 10 = .ok (.getfield 9, 3) := by decide +kernel
theorem d_Gd_numberAt_13 : decode b_Gd_numberAt 13 = .ok (.arraylength, 1) := by decide +kernel
theorem d_Gd_numberAt_14 : decode b_Gd_numberAt 14 = .ok (.if_icmp .ge 12, 3) := by decide +kernel
theorem d_Gd_numberAt_17 : decode b_Gd_numberAt 17 = .ok (.aload_n 0, 1) := by decide +kernel
theorem d_Gd_numberAt_18 : decode b_Gd_numberAt 18 = .ok (.getfield 9, 3) := by decide +kernel
theorem d_Gd_numberAt_21 : decode b_Gd_numberAt 21 = .ok (.iload_n 1, 1) := by decide +kernel
theorem d_Gd_numberAt_22 : decode b_Gd_numberAt 22 = .ok (.laload, 1) := by decide +kernel
theorem d_Gd_numberAt_23 : decode b_Gd_numberAt 23 = .ok (.goto 4, 3) := by decide +kernel
theorem d_Gd_numberAt_26 : decode b_Gd_numberAt 26 = .ok (.lconst 0, 1) := by decide +kernel
theorem d_Gd_numberAt_27 : decode b_Gd_numberAt 27 = .ok (.lreturn, 1) := by decide +kernel
theorem d_Gd_put_0 : decode b_Gd_put 0 = .ok (.iload_n 1, 1) := by decide +kernel
theorem d_Gd_put_1 : decode b_Gd_put 1 = .ok (.ifCond .lt 35, 3) := by decide +kernel
theorem d_Gd_put_4 : decode b_Gd_put 4 = .ok (.iload_n 1, 1) := by decide +kernel
theorem d_Gd_put_5 : decode b_Gd_put 5 = .ok (.aload_n 0, 1) := by decide +kernel
theorem d_Gd_put_6 : decode b_Gd_put 6 = .ok (.getfield 9, 3) := by decide +kernel
theorem d_Gd_put_9 : decode b_Gd_put 9 = .ok (.arraylength, 1) := by decide +kernel
theorem d_Gd_put_10 : decode b_Gd_put 10 = .ok (.if_icmp .ge 26, 3) := by decide +kernel
theorem d_Gd_put_13 : decode b_Gd_put 13 = .ok (.iload_n 1, 1) := by decide +kernel
theorem d_Gd_put_14 : decode b_Gd_put 14 = .ok (.aload_n 0, 1) := by decide +kernel
theorem d_Gd_put_15 : decode b_Gd_put 15 = .ok (.getfield 15, 3) := by decide +kernel
theorem d_Gd_put_18 : decode b_Gd_put 18 = .ok (.arraylength, 1) := by decide +kernel
theorem d_Gd_put_19 : decode b_Gd_put 19 = .ok (.if_icmp .ge 17, 3) := by decide +kernel
theorem d_Gd_put_22 : decode b_Gd_put 22 = .ok (.aload_n 0, 1) := by decide +kernel
theorem d_Gd_put_23 : decode b_Gd_put 23 = .ok (.getfield 9, 3) := by decide +kernel
theorem d_Gd_put_26 : decode b_Gd_put 26 = .ok (.iload_n 1, 1) := by decide +kernel
theorem d_Gd_put_27 : decode b_Gd_put 27 = .ok (.lload_n 2, 1) := by decide +kernel
theorem d_Gd_put_28 : decode b_Gd_put 28 = .ok (.lastore, 1) := by decide +kernel
theorem d_Gd_put_29 : decode b_Gd_put 29 = .ok (.aload_n 0, 1) := by decide +kernel
theorem d_Gd_put_30 : decode b_Gd_put 30 = .ok (.getfield 15, 3) := by decide +kernel
theorem d_Gd_put_33 : decode b_Gd_put 33 = .ok (.iload_n 1, 1) := by decide +kernel
theorem d_Gd_put_34 : decode b_Gd_put 34 = .ok (.iconst 1, 1) := by decide +kernel
theorem d_Gd_put_35 : decode b_Gd_put 35 = .ok (.bastore, 1) := by decide +kernel
theorem d_Gd_put_36 : decode b_Gd_put 36 = .ok (.return_, 1) := by decide +kernel
theorem d_Gd_clear_0 : decode b_Gd_clear 0 = .ok (.iload_n 1, 1) := by decide +kernel
theorem d_Gd_clear_1 : decode b_Gd_clear 1 = .ok (.ifCond .lt 19, 3) := by decide +kernel
theorem d_Gd_clear_4 : decode b_Gd_clear 4 = .ok (.iload_n 1, 1) := by decide +kernel
theorem d_Gd_clear_5 : decode b_Gd_clear 5 = .ok (.aload_n 0, 1) := by decide +kernel
theorem d_Gd_clear_6 : decode b_Gd_clear 6 = .ok (.getfield 15, 3) := by decide +kernel
theorem d_Gd_clear_9 : decode b_Gd_clear 9 = .ok (.arraylength, 1) := by decide +kernel
theorem d_Gd_clear_10 : decode b_Gd_clear 10 = .ok (.if_icmp .ge 10, 3) := by decide +kernel
theorem d_Gd_clear_13 : decode b_Gd_clear 13 = .ok (.aload_n 0, 1) := by decide +kernel
theorem d_Gd_clear_14 : decode b_Gd_clear 14 = .ok (.getfield 15, 3) := by decide +kernel
theorem d_Gd_clear_17 : decode b_Gd_clear 17 = .ok (.iload_n 1, 1) := by decide +kernel
theorem d_Gd_clear_18 : decode b_Gd_clear 18 = .ok (.iconst 0, 1) := by decide +kernel
theorem d_Gd_clear_19 : decode b_Gd_clear 19 = .ok (.bastore, 1) := by decide +kernel
theorem d_Gd_clear_20 : decode b_Gd_clear 20 = .ok (.return_, 1) := by decide +kernel
theorem d_Gd_isEmptyLine_0 : decode b_Gd_isEmptyLine 0 = .ok (.iconst 0, 1) := by decide +kernel
theorem d_Gd_isEmptyLine_1 : decode b_Gd_isEmptyLine 1 = .ok (.istore_n 2, 1) := by decide +kernel
theorem d_Gd_isEmptyLine_2 : decode b_Gd_isEmptyLine 2 = .ok (.iload_n 2, 1) := by decide +kernel
theorem d_Gd_isEmptyLine_3 : decode b_Gd_isEmptyLine 3 = .ok (.aload_n 0, 1) := by decide +kernel
theorem d_Gd_isEmptyLine_4 : decode b_Gd_isEmptyLine 4 = .ok (.getfield 23, 3) := by decide +kernel
theorem d_Gd_isEmptyLine_7 : decode b_Gd_isEmptyLine 7 = .ok (.if_icmp .ge 24, 3) := by decide +kernel
theorem d_Gd_isEmptyLine_10 : decode b_Gd_isEmptyLine 10 = .ok (.aload_n 0, 1) := by decide +kernel
theorem d_Gd_isEmptyLine_11 : decode b_Gd_isEmptyLine 11 = .ok (.aload_n 0, 1) := by decide +kernel
theorem d_Gd_isEmptyLine_12 : decode b_Gd_isEmptyLine 12 = .ok (.iload_n 1, 1) := by decide +kernel
theorem d_Gd_isEmptyLine_13 : decode b_Gd_isEmptyLine 13 = .ok (.iload_n 2, 1) := by decide +kernel
theorem d_Gd_isEmptyLine_14 : decode b_Gd_isEmptyLine 14 = .ok (.invokevirtual 43, 3) := by decide +kernel
theorem d_Gd_isEmptyLine_17 : decode b_Gd_isEmptyLine 17 = .ok (.invokevirtual 39, 3) := by decide +kernel
theorem d_Gd_isEmptyLine_20 : decode b_Gd_isEmptyLine 20 = .ok (.ifCond .eq 5, 3) := by decide +kernel
theorem d_Gd_isEmptyLine_23 : decode b_Gd_isEmptyLine 23 = .ok (.iconst 0, 1) := by decide +kernel
theorem d_Gd_isEmptyLine_24 : decode b_Gd_isEmptyLine 24 = .ok (.ireturn, 1) := by decide +kernel
theorem d_Gd_isEmptyLine_25 : decode b_Gd_isEmptyLine 25 = .ok (.iinc 2 1, 3) := by decide +kernel
theorem d_Gd_isEmptyLine_28 : decode b_Gd_isEmptyLine 28 = .ok (.goto (-26), 3) := by decide +kernel
theorem d_Gd_isEmptyLine_31 : decode b_Gd_isEmptyLine 31 = .ok (.iconst 1, 1) := by decide +kernel
theorem d_Gd_isEmptyLine_32 : decode b_Gd_isEmptyLine 32 = .ok (.ireturn, 1) := by decide +kernel
theorem d_Gd_moveLine_0 : decode b_Gd_moveLine 0 = .ok (.iconst 0, 1) := by decide +kernel
theorem d_Gd_moveLine_1 : decode b_Gd_moveLine 1 = .ok (.istore_n 3, 1) := by decide +kernel
theorem d_Gd_moveLine_2 : decode b_Gd_moveLine 2 = .ok (.iload_n 3, 1) := by decide +kernel
theorem d_Gd_moveLine_3 : decode b_Gd_moveLine 3 = .ok (.aload_n 0, 1) := by decide +kernel
theorem d_Gd_moveLine_4 : decode b_Gd_moveLine 4 = .ok (.getfield 23, 3) := by decide +kernel
theorem d_Gd_moveLine_7 : decode b_Gd_moveLine 7 = .ok (.if_icmp .ge 55, 3) := by decide +kernel
theorem d_Gd_moveLine_10 : decode b_Gd_moveLine 10 = .ok (.aload_n 0, 1) := by decide +kernel
theorem d_Gd_moveLine_11 : decode b_Gd_moveLine 11 = .ok (.iload_n 1, 1) := by decide +kernel
theorem d_Gd_moveLine_12 : decode b_Gd_moveLine 12 = .ok (.iload_n 3, 1) := by decide +kernel
theorem d_Gd_moveLine_13 : decode b_Gd_moveLine 13 = .ok (.invokevirtual 43, 3) := by decide +kernel
theorem d_Gd_moveLine_16 : decode b_Gd_moveLine 16 = .ok (.istore 4, 2) := by decide +kernel
theorem d_Gd_moveLine_18 : decode b_Gd_moveLine 18 = .ok (.aload_n 0, 1) := by decide +kernel
theorem d_Gd_moveLine_19 : decode b_Gd_moveLine 19 = .ok (.iload 4, 2) := by decide +kernel
theorem d_Gd_moveLine_21 : decode b_Gd_moveLine 21 = .ok (.invokevirtual 39, 3) := by decide +kernel
theorem d_Gd_moveLine_24 : decode b_Gd_moveLine 24 = .ok (.ifCond .eq 22, 3) := by decide +kernel
theorem d_Gd_moveLine_27 : decode b_Gd_moveLine 27 = .ok (.aload_n 0, 1) := by decide +kernel
theorem d_Gd_moveLine_28 : decode b_Gd_moveLine 28 = .ok (.aload_n 0, 1) := by decide +kernel
theorem d_Gd_moveLine_29 : decode b_Gd_moveLine 29 = .ok (.iload_n 2, 1) := by decide +kernel
theorem d_Gd_moveLine_30 : decode b_Gd_moveLine 30 = .ok (.iload_n 3, 1) := by decide +kernel
theorem d_Gd_moveLine_31 : decode b_Gd_moveLine 31 = .ok (.invokevirtual 43, 3) := by decide +kernel
theorem d_Gd_moveLine_34 : decode b_Gd_moveLine 34 = .ok (.aload_n 0, 1) := by decide +kernel
theorem d_Gd_moveLine_35 : decode b_Gd_moveLine 35 = .ok (.iload 4, 2) := by decide +kernel
theorem d_Gd_moveLine_37 : decode b_Gd_moveLine 37 = .ok (.invokevirtual 46, 3) := by decide +kernel
theorem d_Gd_moveLine_40 : decode b_Gd_moveLine 40 = .ok (.invokevirtual 50, 3) := by decide +kernel
theorem d_Gd_moveLine_43 : decode b_Gd_moveLine 43 = .ok (.goto 13, 3) := by decide +kernel
theorem d_Gd_moveLine_46 : decode b_Gd_moveLine 46 = .ok (.aload_n 0, 1) := by decide +kernel
theorem d_Gd_moveLine_47 : decode b_Gd_moveLine 47 = .ok (.aload_n 0, 1) := by decide +kernel
theorem d_Gd_moveLine_48 : decode b_Gd_moveLine 48 = .ok (.iload_n 2, 1) := by decide +kernel
theorem d_Gd_moveLine_49 : decode b_Gd_moveLine 49 = .ok (.iload_n 3, 1) := by decide +kernel
theorem d_Gd_moveLine_50 : decode b_Gd_moveLine 50 = .ok (.invokevirtual 43, 3) := by decide +kernel
theorem d_Gd_moveLine_53 : decode b_Gd_moveLine 53 = .ok (.invokevirtual 54, 3) := by decide +kernel
theorem d_Gd_moveLine_56 : decode b_Gd_moveLine 56 = .ok (.iinc 3 1, 3) := by decide +kernel
theorem d_Gd_moveLine_59 : decode b_Gd_moveLine 59 = .ok (.goto (-57), 3) := by decide +kernel
theorem d_Gd_moveLine_62 : decode b_Gd_moveLine 62 = .ok (.return_, 1) := by decide +kernel
theorem d_Gd_keepLines_0 : decode b_Gd_keepLines 0 = .ok (.aload_n 0, 1) := by decide +kernel
theorem d_Gd_keepLines_1 : decode b_Gd_keepLines 1 = .ok (.iload_n 1, 1) := by decide +kernel
theorem d_Gd_keepLines_2 : decode b_Gd_keepLines 2 = .ok (.putfield 19, 3) := by decide +kernel
theorem d_Gd_keepLines_5 : decode b_Gd_keepLines 5 = .ok (.return_, 1) := by decide +kernel

set_option maxHeartbeats 4000000 in
set_option maxRecDepth 100000 in
theorem c_Gd_lines (l : Launch) (D : jd_T) (a : Nat) (f_numbers : Value) (f_there : Value) (f_lines : Int) (f_windows : Int) (f_named : Int)  : jc_C l D y_Gd_lines b_Gd_lines 1 (some .int) { frames := 0, cells := 0, slots := 0, locals := 0 } [.ref a] [ob D a 2 [f_numbers, f_there, .int (ii f_lines), .int (ii f_windows), .int (ii f_named)]] (fun _ : Unit => (.returned (some (.int (ii f_lines))), True, [ob D a 2 [f_numbers, f_there, .int (ii f_lines), .int (ii f_windows), .int (ii f_named)]])) := by
  refine jc_of rfl (Nat.le_of_ble_eq_true rfl) ?_
  intro X hl hR hN ok hnm fin
  subst hl
  show jw X 0 0 [ob D a 2 [f_numbers, f_there, .int (ii f_lines), .int (ii f_windows), .int (ii f_named)]] [(0, .ref a)] 0 []
  refine jr_aload_n ok 0 d_Gd_lines_0 rfl rfl ?_
  refine jr_get ok 0 f_Gd_19 rfl rfl d_Gd_lines_1 ?_
  exact jr_iret ok fin (Nat.le_refl _) (Nat.le_refl _) () rfl trivial sg_same d_Gd_lines_4

set_option maxHeartbeats 4000000 in
set_option maxRecDepth 100000 in
theorem c_Gd_windows (l : Launch) (D : jd_T) (a : Nat) (f_numbers : Value) (f_there : Value) (f_lines : Int) (f_windows : Int) (f_named : Int)  : jc_C l D y_Gd_windows b_Gd_windows 1 (some .int) { frames := 0, cells := 0, slots := 0, locals := 0 } [.ref a] [ob D a 2 [f_numbers, f_there, .int (ii f_lines), .int (ii f_windows), .int (ii f_named)]] (fun _ : Unit => (.returned (some (.int (ii f_windows))), True, [ob D a 2 [f_numbers, f_there, .int (ii f_lines), .int (ii f_windows), .int (ii f_named)]])) := by
  refine jc_of rfl (Nat.le_of_ble_eq_true rfl) ?_
  intro X hl hR hN ok hnm fin
  subst hl
  show jw X 0 0 [ob D a 2 [f_numbers, f_there, .int (ii f_lines), .int (ii f_windows), .int (ii f_named)]] [(0, .ref a)] 0 []
  refine jr_aload_n ok 0 d_Gd_windows_0 rfl rfl ?_
  refine jr_get ok 0 f_Gd_23 rfl rfl d_Gd_windows_1 ?_
  exact jr_iret ok fin (Nat.le_refl _) (Nat.le_refl _) () rfl trivial sg_same d_Gd_windows_4

set_option maxHeartbeats 4000000 in
set_option maxRecDepth 100000 in
theorem c_Gd_isNamed (l : Launch) (D : jd_T) (a : Nat) (f_numbers : Value) (f_there : Value) (f_lines : Int) (f_windows : Int) (f_named : Int) (hy0 : f_named = 0 ∨ f_named = 1) : jc_C l D y_Gd_isNamed b_Gd_isNamed 1 (some .boolean) { frames := 0, cells := 0, slots := 0, locals := 0 } [.ref a] [ob D a 2 [f_numbers, f_there, .int (ii f_lines), .int (ii f_windows), .int (ii f_named)]] (fun _ : Unit => (.returned (some (.int (ii f_named))), True, [ob D a 2 [f_numbers, f_there, .int (ii f_lines), .int (ii f_windows), .int (ii f_named)]])) := by
  refine jc_of rfl (Nat.le_of_ble_eq_true rfl) ?_
  intro X hl hR hN ok hnm fin
  subst hl
  show jw X 0 0 [ob D a 2 [f_numbers, f_there, .int (ii f_lines), .int (ii f_windows), .int (ii f_named)]] [(0, .ref a)] 0 []
  refine jr_aload_n ok 0 d_Gd_isNamed_0 rfl rfl ?_
  refine jr_get ok 0 f_Gd_26 rfl rfl d_Gd_isNamed_1 ?_
  exact jr_zret ok (nz_b (by omega)) fin (Nat.le_refl _) (Nat.le_refl _) () rfl trivial sg_same d_Gd_isNamed_4

