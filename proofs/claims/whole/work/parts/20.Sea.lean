theorem d_Se_init_0 : decode b_Se_init 0 = .ok (.aload_n 0, 1) := by decide +kernel
theorem d_Se_init_1 : decode b_Se_init 1 = .ok (.invokespecial 3, 3) := by decide +kernel
theorem d_Se_init_4 : decode b_Se_init 4 = .ok (.aload_n 0, 1) := by decide +kernel
theorem d_Se_init_5 : decode b_Se_init 5 = .ok (.new 9, 3) := by decide +kernel
theorem d_Se_init_8 : decode b_Se_init 8 = .ok (.dup, 1) := by decide +kernel
theorem d_Se_init_9 : decode b_Se_init 9 = .ok (.invokespecial 11, 3) := by decide +kernel
theorem d_Se_init_12 : decode b_Se_init 12 = .ok (.putfield 12, 3) := by decide +kernel
theorem d_Se_init_15 : decode b_Se_init 15 = .ok (.aload_n 0, 1) := by decide +kernel
theorem d_Se_init_16 : decode b_Se_init 16 = .ok (.aload_n 1, 1) := by decide +kernel
theorem d_Se_init_17 : decode b_Se_init 17 = .ok (.putfield 18, 3) := by decide +kernel
theorem d_Se_init_20 : decode b_Se_init 20 = .ok (.aload_n 0, 1) := by decide +kernel
theorem d_Se_init_21 : decode b_Se_init 21 = .ok (.aload_n 2, 1) := by decide +kernel
theorem d_Se_init_22 : decode b_Se_init 22 = .ok (.putfield 22, 3) := by decide +kernel
theorem d_Se_init_25 : decode b_Se_init 25 = .ok (.aload_n 0, 1) := by decide +kernel
theorem d_Se_init_26 : decode b_Se_init 26 = .ok (.aload_n 3, 1) := by decide +kernel
theorem d_Se_init_27 : decode b_Se_init 27 = .ok (.putfield 26, 3) := by decide +kernel
theorem d_Se_init_30 : decode b_Se_init 30 = .ok (.aload_n 0, 1) := by decide +kernel
theorem d_Se_init_31 : decode b_Se_init 31 = .ok (.aload 4, 2) := by decide +kernel
theorem d_Se_init_33 : decode b_Se_init 33 = .ok (.putfield 29, 3) := by decide +kernel
theorem d_Se_init_36 : decode b_Se_init 36 = .ok (.return_, 1) := by decide +kernel
theorem d_Se_points_0 : decode b_Se_points 0 = .ok (.aload_n 0, 1) := by decide +kernel
theorem d_Se_points_1 : decode b_Se_points 1 = .ok (.getfield 12, 3) := by decide +kernel
theorem d_Se_points_4 : decode b_Se_points 4 = .ok (.areturn, 1) := by decide +kernel
theorem d_Se_letterAt_0 : decode b_Se_letterAt 0 = .ok (.iload_n 1, 1) := by decide +kernel
theorem d_Se_letterAt_1 : decode b_Se_letterAt 1 = .ok (.ifCond .lt 21, 3) := by decide +kernel
theorem d_Se_letterAt_4 : decode b_Se_letterAt 4 = .ok (.iload_n 1, 1) := by decide +kernel
theorem d_Se_letterAt_5 : decode b_Se_letterAt 5 = .ok (.aload_n 0, 1) := by decide +kernel
theorem d_Se_letterAt_6 : decode b_Se_letterAt 6 = .ok (.getfield 18, 3) := by decide +kernel
theorem d_Se_letterAt_9 : decode b_Se_letterAt 9 = .ok (.arraylength, 1) := by decide +kernel
theorem d_Se_letterAt_10 : decode b_Se_letterAt 10 = .ok (.if_icmp .ge 12, 3) := by decide +kernel
theorem d_Se_letterAt_13 : decode b_Se_letterAt 13 = .ok (.aload_n 0, 1) := by decide +kernel
theorem d_Se_letterAt_14 : decode b_Se_letterAt 14 = .ok (.getfield 18, 3) := by decide +kernel
theorem d_Se_letterAt_17 : decode b_Se_letterAt 17 = .ok (.iload_n 1, 1) := by decide +kernel
theorem d_Se_letterAt_18 : decode b_Se_letterAt 18 = .ok (.baload, 1) := by decide +kernel
theorem d_Se_letterAt_19 : decode b_Se_letterAt 19 = .ok (.goto 4, 3) := by decide +kernel
theorem d_Se_letterAt_22 : decode b_Se_letterAt 22 = .ok (.iconst (-1), 1) := by decide +kernel
theorem d_Se_letterAt_23 : decode b_Se_letterAt 23 = .ok (.ireturn, 1) := by decide +kernel
theorem d_Se_isTheOneOf_0 : decode b_Se_isTheOneOf 0 = .ok (.aload_n 1, 1) := by decide +kernel
theorem d_Se_isTheOneOf_1 : decode b_Se_isTheOneOf 1 = .ok (.invokevirtual 32, 3) := by decide +kernel
theorem d_Se_isTheOneOf_4 : decode b_Se_isTheOneOf 4 = .ok (.aload_n 0, 1) := by decide +kernel
theorem d_Se_isTheOneOf_5 : decode b_Se_isTheOneOf 5 = .ok (.getfield 18, 3) := by decide +kernel
theorem d_Se_isTheOneOf_8 : decode b_Se_isTheOneOf 8 = .ok (.arraylength, 1) := by decide +kernel
theorem d_Se_isTheOneOf_9 : decode b_Se_isTheOneOf 9 = .ok (.if_icmp .eq 5, 3) := by decide +kernel
theorem d_Se_isTheOneOf_12 : decode b_Se_isTheOneOf 12 = .ok (.iconst 0, 1) := by decide +kernel
theorem d_Se_isTheOneOf_13 : decode b_Se_isTheOneOf 13 = .ok (.ireturn, 1) := by decide +kernel
theorem d_Se_isTheOneOf_14 : decode b_Se_isTheOneOf 14 = .ok (.iconst 0, 1) := by decide +kernel
theorem d_Se_isTheOneOf_15 : decode b_Se_isTheOneOf 15 = .ok (.istore_n 2, 1) := by decide +kernel
theorem d_Se_isTheOneOf_16 : decode b_Se_isTheOneOf 16 = .ok (.iload_n 2, 1) := by decide +kernel
theorem d_Se_isTheOneOf_17 : decode b_Se_isTheOneOf 17 = .ok (.aload_n 0, 1) := by decide +kernel
theorem d_Se_isTheOneOf_18 : decode b_Se_isTheOneOf 18 = .ok (.getfield 18, 3) := by decide +kernel
theorem d_Se_isTheOneOf_21 : decode b_Se_isTheOneOf 21 = .ok (.arraylength, 1) := by decide +kernel
theorem d_Se_isTheOneOf_22 : decode b_Se_isTheOneOf 22 = .ok (.if_icmp .ge 25, 3) := by decide +kernel
theorem d_Se_isTheOneOf_25 : decode b_Se_isTheOneOf 25 = .ok (.aload_n 0, 1) := by decide +kernel
theorem d_Se_isTheOneOf_26 : decode b_Se_isTheOneOf 26 = .ok (.getfield 18, 3) := by decide +kernel
theorem d_Se_isTheOneOf_29 : decode b_Se_isTheOneOf 29 = .ok (.iload_n 2, 1) := by decide +kernel
theorem d_Se_isTheOneOf_30 : decode b_Se_isTheOneOf 30 = .ok (.baload, 1) := by decide +kernel
theorem d_Se_isTheOneOf_31 : decode b_Se_isTheOneOf 31 = .ok (.aload_n 1, 1) := by decide +kernel
theorem d_Se_isTheOneOf_32 : decode b_Se_isTheOneOf 32 = .ok (.iload_n 2, 1) := by decide +kernel
theorem d_Se_isTheOneOf_33 : decode b_Se_isTheOneOf 33 = .ok (.invokevirtual 38, 3) := by decide +kernel
theorem d_Se_isTheOneOf_36 : decode b_Se_isTheOneOf 36 = .ok (.if_icmp .eq 5, 3) := by decide +kernel
theorem d_Se_isTheOneOf_39 : decode b_Se_isTheOneOf 39 = .ok (.iconst 0, 1) := by decide +kernel
theorem d_Se_isTheOneOf_40 : decode b_Se_isTheOneOf 40 = .ok (.ireturn, 1) := by decide +kernel
theorem d_Se_isTheOneOf_41 : decode b_Se_isTheOneOf 41 = .ok (.iinc 2 1, 3) := by decide +kernel
theorem d_Se_isTheOneOf_44 : decode b_Se_isTheOneOf 44 = .ok (.goto (-28), 3) := by decide +kernel
theorem d_Se_isTheOneOf_47 : decode b_Se_isTheOneOf 47 = .ok (.iconst 1, 1) := by decide +kernel
theorem d_Se_isTheOneOf_48 : decode b_Se_isTheOneOf 48 = .ok (.ireturn, 1) := by decide +kernel
theorem d_Se_labelNamed_0 : decode b_Se_labelNamed 0 = .ok (.iconst 0, 1) := by decide +kernel
theorem d_Se_labelNamed_1 : decode b_Se_labelNamed 1 = .ok (.istore 4, 2) := by decide +kernel
theorem d_Se_labelNamed_3 : decode b_Se_labelNamed 3 = .ok (.iload 4, 2) := by decide +kernel
theorem d_Se_labelNamed_5 : decode b_Se_labelNamed 5 = .ok (.aload_n 0, 1) := by decide +kernel
theorem d_Se_labelNamed_6 : decode b_Se_labelNamed 6 = .ok (.getfield 22, 3) := by decide +kernel
theorem d_Se_labelNamed_9 : decode b_Se_labelNamed 9 = .ok (.arraylength, 1) := by decide +kernel
theorem d_Se_labelNamed_10 : decode b_Se_labelNamed 10 = .ok (.if_icmp .ge 58, 3) := by decide +kernel
theorem d_Se_labelNamed_13 : decode b_Se_labelNamed 13 = .ok (.iload 4, 2) := by decide +kernel
theorem d_Se_labelNamed_15 : decode b_Se_labelNamed 15 = .ok (.aload_n 0, 1) := by decide +kernel
theorem d_Se_labelNamed_16 : decode b_Se_labelNamed 16 = .ok (.getfield 26, 3) := by decide +kernel
theorem d_Se_labelNamed_19 : decode b_Se_labelNamed 19 = .ok (.arraylength, 1) := by decide +kernel
theorem d_Se_labelNamed_20 : decode b_Se_labelNamed 20 = .ok (.if_icmp .ge 48, 3) := by decide +kernel
theorem d_Se_labelNamed_23 : decode b_Se_labelNamed 23 = .ok (.aload_n 0, 1) := by decide +kernel
theorem d_Se_labelNamed_24 : decode b_Se_labelNamed 24 = .ok (.getfield 26, 3) := by decide +kernel
theorem d_Se_labelNamed_27 : decode b_Se_labelNamed 27 = .ok (.iload 4, 2) := by decide +kernel
theorem d_Se_labelNamed_29 : decode b_Se_labelNamed 29 = .ok (.iaload, 1) := by decide +kernel
theorem d_Se_labelNamed_30 : decode b_Se_labelNamed 30 = .ok (.aload_n 0, 1) := by decide +kernel
theorem d_Se_labelNamed_31 : decode b_Se_labelNamed 31 = .ok (.getfield 22, 3) := by decide +kernel
theorem d_Se_labelNamed_34 : decode b_Se_labelNamed 34 = .ok (.iload 4, 2) := by decide +kernel
theorem d_Se_labelNamed_36 : decode b_Se_labelNamed 36 = .ok (.iaload, 1) := by decide +kernel
theorem d_Se_labelNamed_37 : decode b_Se_labelNamed 37 = .ok (.isub, 1) := by decide +kernel
theorem d_Se_labelNamed_38 : decode b_Se_labelNamed 38 = .ok (.iload_n 3, 1) := by decide +kernel
theorem d_Se_labelNamed_39 : decode b_Se_labelNamed 39 = .ok (.if_icmp .ne 23, 3) := by decide +kernel
theorem d_Se_labelNamed_42 : decode b_Se_labelNamed 42 = .ok (.aload_n 0, 1) := by decide +kernel
theorem d_Se_labelNamed_43 : decode b_Se_labelNamed 43 = .ok (.aload_n 0, 1) := by decide +kernel
theorem d_Se_labelNamed_44 : decode b_Se_labelNamed 44 = .ok (.getfield 22, 3) := by decide +kernel
theorem d_Se_labelNamed_47 : decode b_Se_labelNamed 47 = .ok (.iload 4, 2) := by decide +kernel
theorem d_Se_labelNamed_49 : decode b_Se_labelNamed 49 = .ok (.iaload, 1) := by decide +kernel
theorem d_Se_labelNamed_50 : decode b_Se_labelNamed 50 = .ok (.aload_n 1, 1) := by decide +kernel
theorem d_Se_labelNamed_51 : decode b_Se_labelNamed 51 = .ok (.iload_n 2, 1) := by decide +kernel
theorem d_Se_labelNamed_52 : decode b_Se_labelNamed 52 = .ok (.iload_n 3, 1) := by decide +kernel
theorem d_Se_labelNamed_53 : decode b_Se_labelNamed 53 = .ok (.invokevirtual 42, 3) := by decide +kernel
theorem d_Se_labelNamed_56 : decode b_Se_labelNamed 56 = .ok (.ifCond .eq 6, 3) := by decide +kernel
theorem d_Se_labelNamed_59 : decode b_Se_labelNamed 59 = .ok (.iload 4, 2) := by decide +kernel
theorem d_Se_labelNamed_61 : decode b_Se_labelNamed 61 = .ok (.ireturn, 1) := by decide +kernel
theorem d_Se_labelNamed_62 : decode b_Se_labelNamed 62 = .ok (.iinc 4 1, 3) := by decide +kernel
theorem d_Se_labelNamed_65 : decode b_Se_labelNamed 65 = .ok (.goto (-62), 3) := by decide +kernel
theorem d_Se_labelNamed_68 : decode b_Se_labelNamed 68 = .ok (.iconst (-1), 1) := by decide +kernel
theorem d_Se_labelNamed_69 : decode b_Se_labelNamed 69 = .ok (.ireturn, 1) := by decide +kernel
theorem d_Se_isOnTape_0 : decode b_Se_isOnTape 0 = .ok (.iconst 0, 1) := by decide +kernel
theorem d_Se_isOnTape_1 : decode b_Se_isOnTape 1 = .ok (.istore 5, 2) := by decide +kernel
theorem d_Se_isOnTape_3 : decode b_Se_isOnTape 3 = .ok (.iload 5, 2) := by decide +kernel
theorem d_Se_isOnTape_5 : decode b_Se_isOnTape 5 = .ok (.iload 4, 2) := by decide +kernel
theorem d_Se_isOnTape_7 : decode b_Se_isOnTape 7 = .ok (.if_icmp .ge 30, 3) := by decide +kernel
theorem d_Se_isOnTape_10 : decode b_Se_isOnTape 10 = .ok (.aload_n 0, 1) := by decide +kernel
theorem d_Se_isOnTape_11 : decode b_Se_isOnTape 11 = .ok (.iload_n 1, 1) := by decide +kernel
theorem d_Se_isOnTape_12 : decode b_Se_isOnTape 12 = .ok (.iload 5, 2) := by decide +kernel
theorem d_Se_isOnTape_14 : decode b_Se_isOnTape 14 = .ok (.iadd, 1) := by decide +kernel
theorem d_Se_isOnTape_15 : decode b_Se_isOnTape 15 = .ok (.invokevirtual 46, 3) := by decide +kernel
theorem d_Se_isOnTape_18 : decode b_Se_isOnTape 18 = .ok (.aload_n 2, 1) := by decide +kernel
theorem d_Se_isOnTape_19 : decode b_Se_isOnTape 19 = .ok (.iload_n 3, 1) := by decide +kernel
theorem d_Se_isOnTape_20 : decode b_Se_isOnTape 20 = .ok (.iload 5, 2) := by decide +kernel
theorem d_Se_isOnTape_22 : decode b_Se_isOnTape 22 = .ok (.iadd, 1) := by decide +kernel
theorem d_Se_isOnTape_23 : decode b_Se_isOnTape 23 = .ok (.invokevirtual 47, 3) := by decide +kernel
theorem d_Se_isOnTape_26 : decode b_Se_isOnTape 26 = .ok (.if_icmp .eq 5, 3) := by decide +kernel
theorem d_Se_isOnTape_29 : decode b_Se_isOnTape 29 = .ok (.iconst 0, 1) := by decide +kernel
theorem d_Se_isOnTape_30 : decode b_Se_isOnTape 30 = .ok (.ireturn, 1) := by decide +kernel
theorem d_Se_isOnTape_31 : decode b_Se_isOnTape 31 = .ok (.iinc 5 1, 3) := by decide +kernel
theorem d_Se_isOnTape_34 : decode b_Se_isOnTape 34 = .ok (.goto (-31), 3) := by decide +kernel
theorem d_Se_isOnTape_37 : decode b_Se_isOnTape 37 = .ok (.iconst 1, 1) := by decide +kernel
theorem d_Se_isOnTape_38 : decode b_Se_isOnTape 38 = .ok (.ireturn, 1) := by decide +kernel
theorem d_Se_valueLength_0 : decode b_Se_valueLength 0 = .ok (.iload_n 1, 1) := by decide +kernel
theorem d_Se_valueLength_1 : decode b_Se_valueLength 1 = .ok (.ifCond .lt 21, 3) := by decide +kernel
theorem d_Se_valueLength_4 : decode b_Se_valueLength 4 = .ok (.iload_n 1, 1) := by decide +kernel
theorem d_Se_valueLength_5 : decode b_Se_valueLength 5 = .ok (.aload_n 0, 1) := by decide +kernel
theorem d_Se_valueLength_6 : decode b_Se_valueLength 6 = .ok (.getfield 26, 3) := by decide +kernel
theorem d_Se_valueLength_9 : decode b_Se_valueLength 9 = .ok (.arraylength, 1) := by decide +kernel
theorem d_Se_valueLength_10 : decode b_Se_valueLength 10 = .ok (.if_icmp .ge 12, 3) := by decide +kernel
theorem d_Se_valueLength_13 : decode b_Se_valueLength 13 = .ok (.iload_n 1, 1) := by decide +kernel
theorem d_Se_valueLength_14 : decode b_Se_valueLength 14 = .ok (.aload_n 0, 1) := by decide +kernel
theorem d_Se_valueLength_15 : decode b_Se_valueLength 15 = .ok (.getfield 29, 3) := by decide +kernel
theorem d_Se_valueLength_18 : decode b_Se_valueLength 18 = .ok (.arraylength, 1) := by decide +kernel
theorem d_Se_valueLength_19 : decode b_Se_valueLength 19 = .ok (.if_icmp .lt 5, 3) := by decide +kernel
theorem d_Se_valueLength_22 : decode b_Se_valueLength 22 = .ok (.iconst 0, 1) := by decide +kernel
theorem d_Se_valueLength_23 : decode b_Se_valueLength 23 = .ok (.ireturn, 1) := by decide +kernel
theorem d_Se_valueLength_24 : decode b_Se_valueLength 24 = .ok (.aload_n 0, 1) := by decide +kernel
theorem d_Se_valueLength_25 : decode b_Se_valueLength 25 = .ok (.getfield 29, 3) := by decide +kernel
theorem d_Se_valueLength_28 : decode b_Se_valueLength 28 = .ok (.iload_n 1, 1) := by decide +kernel
theorem d_Se_valueLength_29 : decode b_Se_valueLength 29 = .ok (.iaload, 1) := by decide +kernel
theorem d_Se_valueLength_30 : decode b_Se_valueLength 30 = .ok (.aload_n 0, 1) := by decide +kernel
theorem d_Se_valueLength_31 : decode b_Se_valueLength 31 = .ok (.getfield 26, 3) := by decide +kernel
theorem d_Se_valueLength_34 : decode b_Se_valueLength 34 = .ok (.iload_n 1, 1) := by decide +kernel
theorem d_Se_valueLength_35 : decode b_Se_valueLength 35 = .ok (.iaload, 1) := by decide +kernel
theorem d_Se_valueLength_36 : decode b_Se_valueLength 36 = .ok (.isub, 1) := by decide +kernel
theorem d_Se_valueLength_37 : decode b_Se_valueLength 37 = .ok (.iconst 1, 1) := by decide +kernel
theorem d_Se_valueLength_38 : decode b_Se_valueLength 38 = .ok (.isub, 1) := by decide +kernel
theorem d_Se_valueLength_39 : decode b_Se_valueLength 39 = .ok (.ireturn, 1) := by decide +kernel
theorem d_Se_valueLetter_0 : decode b_Se_valueLetter 0 = .ok (.iload_n 1, 1) := by decide +kernel
theorem d_Se_valueLetter_1 : decode b_Se_valueLetter 1 = .ok (.ifCond .lt 25, 3) := by decide +kernel
theorem d_Se_valueLetter_4 : decode b_Se_valueLetter 4 = .ok (.iload_n 1, 1) := by decide +kernel
theorem d_Se_valueLetter_5 : decode b_Se_valueLetter 5 = .ok (.aload_n 0, 1) := by decide +kernel
theorem d_Se_valueLetter_6 : decode b_Se_valueLetter 6 = .ok (.getfield 26, 3) := by decide +kernel
theorem d_Se_valueLetter_9 : decode b_Se_valueLetter 9 = .ok (.arraylength, 1) := by decide +kernel
theorem d_Se_valueLetter_10 : decode b_Se_valueLetter 10 = .ok (.if_icmp .ge 16, 3) := by decide +kernel
theorem d_Se_valueLetter_13 : decode b_Se_valueLetter 13 = .ok (.iload_n 2, 1) := by decide +kernel
theorem d_Se_valueLetter_14 : decode b_Se_valueLetter 14 = .ok (.ifCond .lt 12, 3) := by decide +kernel
theorem d_Se_valueLetter_17 : decode b_Se_valueLetter 17 = .ok (.iload_n 2, 1) := by decide +kernel
theorem d_Se_valueLetter_18 : decode b_Se_valueLetter 18 = .ok (.aload_n 0, 1) := by decide +kernel
theorem d_Se_valueLetter_19 : decode b_Se_valueLetter 19 = .ok (.iload_n 1, 1) := by decide +kernel
theorem d_Se_valueLetter_20 : decode b_Se_valueLetter 20 = .ok (.invokevirtual 52, 3) := by decide +kernel
theorem d_Se_valueLetter_23 : decode b_Se_valueLetter 23 = .ok (.if_icmp .lt 5, 3) := by decide +kernel
theorem d_Se_valueLetter_26 : decode b_Se_valueLetter 26 = .ok (.iconst (-1), 1) := by decide +kernel
theorem d_Se_valueLetter_27 : decode b_Se_valueLetter 27 = .ok (.ireturn, 1) := by decide +kernel
theorem d_Se_valueLetter_28 : decode b_Se_valueLetter 28 = .ok (.aload_n 0, 1) := by decide +kernel
theorem d_Se_valueLetter_29 : decode b_Se_valueLetter 29 = .ok (.aload_n 0, 1) := by decide +kernel
theorem d_Se_valueLetter_30 : decode b_Se_valueLetter 30 = .ok (.getfield 26, 3) := by decide +kernel
theorem d_Se_valueLetter_33 : decode b_Se_valueLetter 33 = .ok (.iload_n 1, 1) := by decide +kernel
theorem d_Se_valueLetter_34 : decode b_Se_valueLetter 34 = .ok (.iaload, 1) := by decide +kernel
theorem d_Se_valueLetter_35 : decode b_Se_valueLetter 35 = .ok (.iconst 1, 1) := by decide +kernel
theorem d_Se_valueLetter_36 : decode b_Se_valueLetter 36 = .ok (.iadd, 1) := by decide +kernel
theorem d_Se_valueLetter_37 : decode b_Se_valueLetter 37 = .ok (.iload_n 2, 1) := by decide +kernel
theorem d_Se_valueLetter_38 : decode b_Se_valueLetter 38 = .ok (.iadd, 1) := by decide +kernel
theorem d_Se_valueLetter_39 : decode b_Se_valueLetter 39 = .ok (.invokevirtual 46, 3) := by decide +kernel
theorem d_Se_valueLetter_42 : decode b_Se_valueLetter 42 = .ok (.ireturn, 1) := by decide +kernel
theorem d_Se_valueBegins_0 : decode b_Se_valueBegins 0 = .ok (.iload 4, 2) := by decide +kernel
theorem d_Se_valueBegins_2 : decode b_Se_valueBegins 2 = .ok (.aload_n 0, 1) := by decide +kernel
theorem d_Se_valueBegins_3 : decode b_Se_valueBegins 3 = .ok (.iload_n 1, 1) := by decide +kernel
theorem d_Se_valueBegins_4 : decode b_Se_valueBegins 4 = .ok (.invokevirtual 52, 3) := by decide +kernel
theorem d_Se_valueBegins_7 : decode b_Se_valueBegins 7 = .ok (.if_icmp .le 5, 3) := by decide +kernel
theorem d_Se_valueBegins_10 : decode b_Se_valueBegins 10 = .ok (.iconst 0, 1) := by decide +kernel
theorem d_Se_valueBegins_11 : decode b_Se_valueBegins 11 = .ok (.ireturn, 1) := by decide +kernel
theorem d_Se_valueBegins_12 : decode b_Se_valueBegins 12 = .ok (.iconst 0, 1) := by decide +kernel
theorem d_Se_valueBegins_13 : decode b_Se_valueBegins 13 = .ok (.istore 5, 2) := by decide +kernel
theorem d_Se_valueBegins_15 : decode b_Se_valueBegins 15 = .ok (.iload 5, 2) := by decide +kernel
theorem d_Se_valueBegins_17 : decode b_Se_valueBegins 17 = .ok (.iload 4, 2) := by decide +kernel
theorem d_Se_valueBegins_19 : decode b_Se_valueBegins 19 = .ok (.if_icmp .ge 29, 3) := by decide +kernel
theorem d_Se_valueBegins_22 : decode b_Se_valueBegins 22 = .ok (.aload_n 0, 1) := by decide +kernel
theorem d_Se_valueBegins_23 : decode b_Se_valueBegins 23 = .ok (.iload_n 1, 1) := by decide +kernel
theorem d_Se_valueBegins_24 : decode b_Se_valueBegins 24 = .ok (.iload 5, 2) := by decide +kernel
theorem d_Se_valueBegins_26 : decode b_Se_valueBegins 26 = .ok (.invokevirtual 55, 3) := by decide +kernel
theorem d_Se_valueBegins_29 : decode b_Se_valueBegins 29 = .ok (.aload_n 2, 1) := by decide +kernel
theorem d_Se_valueBegins_30 : decode b_Se_valueBegins 30 = .ok (.iload_n 3, 1) := by decide +kernel
theorem d_Se_valueBegins_31 : decode b_Se_valueBegins 31 = .ok (.iload 5, 2) := by decide +kernel
theorem d_Se_valueBegins_33 : decode b_Se_valueBegins 33 = .ok (.iadd, 1) := by decide +kernel
theorem d_Se_valueBegins_34 : decode b_Se_valueBegins 34 = .ok (.invokevirtual 47, 3) := by decide +kernel
theorem d_Se_valueBegins_37 : decode b_Se_valueBegins 37 = .ok (.if_icmp .eq 5, 3) := by decide +kernel
theorem d_Se_valueBegins_40 : decode b_Se_valueBegins 40 = .ok (.iconst 0, 1) := by decide +kernel
theorem d_Se_valueBegins_41 : decode b_Se_valueBegins 41 = .ok (.ireturn, 1) := by decide +kernel
theorem d_Se_valueBegins_42 : decode b_Se_valueBegins 42 = .ok (.iinc 5 1, 3) := by decide +kernel
theorem d_Se_valueBegins_45 : decode b_Se_valueBegins 45 = .ok (.goto (-30), 3) := by decide +kernel
theorem d_Se_valueBegins_48 : decode b_Se_valueBegins 48 = .ok (.iconst 1, 1) := by decide +kernel
theorem d_Se_valueBegins_49 : decode b_Se_valueBegins 49 = .ok (.ireturn, 1) := by decide +kernel
theorem d_Se_compareValue_0 : decode b_Se_compareValue 0 = .ok (.aload_n 0, 1) := by decide +kernel
theorem d_Se_compareValue_1 : decode b_Se_compareValue 1 = .ok (.iload_n 1, 1) := by decide +kernel
theorem d_Se_compareValue_2 : decode b_Se_compareValue 2 = .ok (.invokevirtual 52, 3) := by decide +kernel
theorem d_Se_compareValue_5 : decode b_Se_compareValue 5 = .ok (.aload_n 2, 1) := by decide +kernel
theorem d_Se_compareValue_6 : decode b_Se_compareValue 6 = .ok (.iload_n 3, 1) := by decide +kernel
theorem d_Se_compareValue_7 : decode b_Se_compareValue 7 = .ok (.invokevirtual 52, 3) := by decide +kernel
theorem d_Se_compareValue_10 : decode b_Se_compareValue 10 = .ok (.invokestatic 59, 3) := by decide +kernel
theorem d_Se_compareValue_13 : decode b_Se_compareValue 13 = .ok (.istore 4, 2) := by decide +kernel
theorem d_Se_compareValue_15 : decode b_Se_compareValue 15 = .ok (.iconst 0, 1) := by decide +kernel
theorem d_Se_compareValue_16 : decode b_Se_compareValue 16 = .ok (.istore 5, 2) := by decide +kernel
theorem d_Se_compareValue_18 : decode b_Se_compareValue 18 = .ok (.iload 5, 2) := by decide +kernel
theorem d_Se_compareValue_20 : decode b_Se_compareValue 20 = .ok (.iload 4, 2) := by decide +kernel
theorem d_Se_compareValue_22 : decode b_Se_compareValue 22 = .ok (.if_icmp .ge 36, 3) := by decide +kernel
theorem d_Se_compareValue_25 : decode b_Se_compareValue 25 = .ok (.aload_n 0, 1) := by decide +kernel
theorem d_Se_compareValue_26 : decode b_Se_compareValue 26 = .ok (.iload_n 1, 1) := by decide +kernel
theorem d_Se_compareValue_27 : decode b_Se_compareValue 27 = .ok (.iload 5, 2) := by decide +kernel
theorem d_Se_compareValue_29 : decode b_Se_compareValue 29 = .ok (.invokevirtual 55, 3) := by decide +kernel
theorem d_Se_compareValue_32 : decode b_Se_compareValue 32 = .ok (.aload_n 2, 1) := by decide +kernel
theorem d_Se_compareValue_33 : decode b_Se_compareValue 33 = .ok (.iload_n 3, 1) := by decide +kernel
theorem d_Se_compareValue_34 : decode b_Se_compareValue 34 = .ok (.iload 5, 2) := by decide +kernel
theorem d_Se_compareValue_36 : decode b_Se_compareValue 36 = .ok (.invokevirtual 55, 3) := by decide +kernel
theorem d_Se_compareValue_39 : decode b_Se_compareValue 39 = .ok (.invokestatic 64, 3) := by decide +kernel
theorem d_Se_compareValue_42 : decode b_Se_compareValue 42 = .ok (.istore 6, 2) := by decide +kernel
theorem d_Se_compareValue_44 : decode b_Se_compareValue 44 = .ok (.iload 6, 2) := by decide +kernel
theorem d_Se_compareValue_46 : decode b_Se_compareValue 46 = .ok (.ifCond .eq 6, 3) := by decide +kernel
theorem d_Se_compareValue_49 : decode b_Se_compareValue 49 = .ok (.iload 6, 2) := by decide +kernel
theorem d_Se_compareValue_51 : decode b_Se_compareValue 51 = .ok (.ireturn, 1) := by decide +kernel
theorem d_Se_compareValue_52 : decode b_Se_compareValue 52 = .ok (.iinc 5 1, 3) := by decide +kernel
theorem d_Se_compareValue_55 : decode b_Se_compareValue 55 = .ok (.goto (-37), 3) := by decide +kernel
theorem d_Se_compareValue_58 : decode b_Se_compareValue 58 = .ok (.iconst 0, 1) := by decide +kernel
theorem d_Se_compareValue_59 : decode b_Se_compareValue 59 = .ok (.ireturn, 1) := by decide +kernel

set_option maxHeartbeats 4000000 in
set_option maxRecDepth 100000 in
theorem c_Se_points (l : Launch) (D : jd_T) (a : Nat) (r0 : Nat) (f_letters : Value) (f_starts : Value) (f_signs : Value) (f_ends : Value)  : jc_C l D y_Se_points b_Se_points 1 (some (.object "WindowTables$Points")) { frames := 0, cells := 0, slots := 0, locals := 0 } [.ref a] [ob D a 9 [f_letters, f_starts, f_signs, f_ends, .ref r0]] (fun _ : Unit => (.returned (some (.ref r0)), True, [ob D a 9 [f_letters, f_starts, f_signs, f_ends, .ref r0]])) := by
  refine jc_of rfl (Nat.le_of_ble_eq_true rfl) ?_
  intro X hl hR hN ok hnm fin
  subst hl
  show jw X 0 0 [ob D a 9 [f_letters, f_starts, f_signs, f_ends, .ref r0]] [(0, .ref a)] 0 []
  refine jr_aload_n ok 0 d_Se_points_0 rfl rfl ?_
  refine jr_get ok 0 f_Se_12 rfl rfl d_Se_points_1 ?_
  exact jr_aret ok (Or.inr ⟨_, rfl⟩) fin (Nat.le_refl _) (Nat.le_refl _) () rfl trivial sg_same d_Se_points_4

