theorem d_Pg_init_0 : decode b_Pg_init 0 = .ok (.aload_n 0, 1) := by decide +kernel
theorem d_Pg_init_1 : decode b_Pg_init 1 = .ok (.invokespecial 3, 3) := by decide +kernel
theorem d_Pg_init_4 : decode b_Pg_init 4 = .ok (.aload_n 0, 1) := by decide +kernel
theorem d_Pg_init_5 : decode b_Pg_init 5 = .ok (.sipush 256, 3) := by decide +kernel
theorem d_Pg_init_8 : decode b_Pg_init 8 = .ok (.newarray .int, 2) := by decide +kernel
theorem d_Pg_init_10 : decode b_Pg_init 10 = .ok (.putfield 9, 3) := by decide +kernel
theorem d_Pg_init_13 : decode b_Pg_init 13 = .ok (.return_, 1) := by decide +kernel
theorem d_Pg_clear_0 : decode b_Pg_clear 0 = .ok (.aload_n 0, 1) := by decide +kernel
theorem d_Pg_clear_1 : decode b_Pg_clear 1 = .ok (.iconst 0, 1) := by decide +kernel
theorem d_Pg_clear_2 : decode b_Pg_clear 2 = .ok (.putfield 15, 3) := by decide +kernel
theorem d_Pg_clear_5 : decode b_Pg_clear 5 = .ok (.return_, 1) := by decide +kernel
theorem d_Pg_size_0 : decode b_Pg_size 0 = .ok (.aload_n 0, 1) := by decide +kernel
theorem d_Pg_size_1 : decode b_Pg_size 1 = .ok (.getfield 15, 3) := by decide +kernel
theorem d_Pg_size_4 : decode b_Pg_size 4 = .ok (.ireturn, 1) := by decide +kernel
theorem d_Pg_get_0 : decode b_Pg_get 0 = .ok (.iload_n 1, 1) := by decide +kernel
theorem d_Pg_get_1 : decode b_Pg_get 1 = .ok (.ifCond .lt 20, 3) := by decide +kernel
theorem d_Pg_get_4 : decode b_Pg_get 4 = .ok (.iload_n 1, 1) := by decide +kernel
theorem d_Pg_get_5 : decode b_Pg_get 5 = .ok (.aload_n 0, 1) := by decide +kernel
theorem d_Pg_get_6 : decode b_Pg_get 6 = .ok (.getfield 15, 3) := by decide +kernel
theorem d_Pg_get_9 : decode b_Pg_get 9 = .ok (.if_icmp .ge 12, 3) := by decide +kernel
theorem d_Pg_get_12 : decode b_Pg_get 12 = .ok (.aload_n 0, 1) := by decide +kernel
theorem d_Pg_get_13 : decode b_Pg_get 13 = .ok (.getfield 9, 3) := by decide +kernel
theorem d_Pg_get_16 : decode b_Pg_get 16 = .ok (.iload_n 1, 1) := by decide +kernel
theorem d_Pg_get_17 : decode b_Pg_get 17 = .ok (.iaload, 1) := by decide +kernel
theorem d_Pg_get_18 : decode b_Pg_get 18 = .ok (.goto 4, 3) := by decide +kernel
theorem d_Pg_get_21 : decode b_Pg_get 21 = .ok (.iconst 0, 1) := by decide +kernel
theorem d_Pg_get_22 : decode b_Pg_get 22 = .ok (.ireturn, 1) := by decide +kernel
theorem d_Pg_add_0 : decode b_Pg_add 0 = .ok (.aload_n 0, 1) := by decide +kernel
theorem d_Pg_add_1 : decode b_Pg_add 1 = .ok (.getfield 15, 3) := by decide +kernel
theorem d_Pg_add_4 : decode b_Pg_add 4 = .ok (.aload_n 0, 1) := by decide +kernel
theorem d_Pg_add_5 : decode b_Pg_add 5 = .ok (.getfield 9, 3) := by decide +kernel
theorem d_Pg_add_8 : decode b_Pg_add 8 = .ok (.arraylength, 1) := by decide +kernel
theorem d_Pg_add_9 : decode b_Pg_add 9 = .ok (.if_icmp .lt 21, 3) := by decide +kernel
theorem d_Pg_add_12 : decode b_Pg_add 12 = .ok (.aload_n 0, 1) := by decide +kernel
theorem d_Pg_add_13 : decode b_Pg_add 13 = .ok (.aload_n 0, 1) := by decide +kernel
theorem d_Pg_add_14 : decode b_Pg_add 14 = .ok (.getfield 9, 3) := by decide +kernel
theorem d_Pg_add_17 : decode b_Pg_add 17 = .ok (.iconst 2, 1) := by decide +kernel
theorem d_Pg_add_18 : decode b_Pg_add 18 = .ok (.aload_n 0, 1) := by decide +kernel
theorem d_Pg_add_19 : decode b_Pg_add 19 = .ok (.getfield 9, 3) := by decide +kernel
theorem d_Pg_add_22 : decode b_Pg_add 22 = .ok (.arraylength, 1) := by decide +kernel
theorem d_Pg_add_23 : decode b_Pg_add 23 = .ok (.imul, 1) := by decide +kernel
theorem d_Pg_add_24 : decode b_Pg_add 24 = .ok (.invokestatic 19, 3) := by decide +kernel
theorem d_Pg_add_27 : decode b_Pg_add 27 = .ok (.putfield 9, 3) := by decide +kernel
theorem d_Pg_add_30 : decode b_Pg_add 30 = .ok (.aload_n 0, 1) := by decide +kernel
theorem d_Pg_add_31 : decode b_Pg_add 31 = .ok (.getfield 9, 3) := by decide +kernel
theorem d_Pg_add_34 : decode b_Pg_add 34 = .ok (.aload_n 0, 1) := by decide +kernel
theorem d_Pg_add_35 : decode b_Pg_add 35 = .ok (.getfield 15, 3) := by decide +kernel
theorem d_Pg_add_38 : decode b_Pg_add 38 = .ok (.iload_n 1, 1) := by decide +kernel
theorem d_Pg_add_39 : decode b_Pg_add 39 = .ok (.iastore, 1) := by decide +kernel
theorem d_Pg_add_40 : decode b_Pg_add 40 = .ok (.aload_n 0, 1) := by decide +kernel
theorem d_Pg_add_41 : decode b_Pg_add 41 = .ok (.dup, 1) := by decide +kernel
theorem d_Pg_add_42 : decode b_Pg_add 42 = .ok (.getfield 15, 3) := by decide +kernel
theorem d_Pg_add_45 : decode b_Pg_add 45 = .ok (.iconst 1, 1) := by decide +kernel
theorem d_Pg_add_46 : decode b_Pg_add 46 = .ok (.iadd, 1) := by decide +kernel
theorem d_Pg_add_47 : decode b_Pg_add 47 = .ok (.putfield 15, 3) := by decide +kernel
theorem d_Pg_add_50 : decode b_Pg_add 50 = .ok (.return_, 1) := by decide +kernel
theorem d_Pg_countUp_0 : decode b_Pg_countUp 0 = .ok (.iload_n 1, 1) := by decide +kernel
theorem d_Pg_countUp_1 : decode b_Pg_countUp 1 = .ok (.ifCond .lt 21, 3) := by decide +kernel
theorem d_Pg_countUp_4 : decode b_Pg_countUp 4 = .ok (.iload_n 1, 1) := by decide +kernel
theorem d_Pg_countUp_5 : decode b_Pg_countUp 5 = .ok (.aload_n 0, 1) := by decide +kernel
theorem d_Pg_countUp_6 : decode b_Pg_countUp 6 = .ok (.getfield 15, 3) := by decide +kernel
theorem d_Pg_countUp_9 : decode b_Pg_countUp 9 = .ok (.if_icmp .ge 13, 3) := by decide +kernel
theorem d_Pg_countUp_12 : decode b_Pg_countUp 12 = .ok (.aload_n 0, 1) := by decide +kernel
theorem d_Pg_countUp_13 : decode b_Pg_countUp 13 = .ok (.getfield 9, 3) := by decide +kernel
theorem d_Pg_countUp_16 : decode b_Pg_countUp 16 = .ok (.iload_n 1, 1) := by decide +kernel
theorem d_Pg_countUp_17 : decode b_Pg_countUp 17 = .ok (.dup2, 1) := by decide +kernel
theorem d_Pg_countUp_18 : decode b_Pg_countUp 18 = .ok (.iaload, 1) := by decide +kernel
theorem d_Pg_countUp_19 : decode b_Pg_countUp 19 = .ok (.iconst 1, 1) := by decide +kernel
theorem d_Pg_countUp_20 : decode b_Pg_countUp 20 = .ok (.iadd, 1) := by decide +kernel
theorem d_Pg_countUp_21 : decode b_Pg_countUp 21 = .ok (.iastore, 1) := by decide +kernel
theorem d_Pg_countUp_22 : decode b_Pg_countUp 22 = .ok (.return_, 1) := by decide +kernel
theorem d_Pg_addNumber_0 : decode b_Pg_addNumber 0 = .ok (.aload_n 0, 1) := by decide +kernel
theorem d_Pg_addNumber_1 : decode b_Pg_addNumber 1 = .ok (.sipush 302, 3) := by decide +kernel
theorem d_Pg_addNumber_4 : decode b_Pg_addNumber 4 = .ok (.invokevirtual 25, 3) := by decide +kernel
theorem d_Pg_addNumber_7 : decode b_Pg_addNumber 7 = .ok (.aload_n 0, 1) := by decide +kernel
theorem d_Pg_addNumber_8 : decode b_Pg_addNumber 8 = .ok (.lload_n 1, 1) := by decide +kernel
theorem d_Pg_addNumber_9 : decode b_Pg_addNumber 9 = .ok (.bipush 32, 2) := by decide +kernel
theorem d_Pg_addNumber_11 : decode b_Pg_addNumber 11 = .ok (.lshr, 1) := by decide +kernel
theorem d_Pg_addNumber_12 : decode b_Pg_addNumber 12 = .ok (.l2i, 1) := by decide +kernel
theorem d_Pg_addNumber_13 : decode b_Pg_addNumber 13 = .ok (.invokevirtual 25, 3) := by decide +kernel
theorem d_Pg_addNumber_16 : decode b_Pg_addNumber 16 = .ok (.aload_n 0, 1) := by decide +kernel
theorem d_Pg_addNumber_17 : decode b_Pg_addNumber 17 = .ok (.lload_n 1, 1) := by decide +kernel
theorem d_Pg_addNumber_18 : decode b_Pg_addNumber 18 = .ok (.l2i, 1) := by decide +kernel
theorem d_Pg_addNumber_19 : decode b_Pg_addNumber 19 = .ok (.invokevirtual 25, 3) := by decide +kernel
theorem d_Pg_addNumber_22 : decode b_Pg_addNumber 22 = .ok (.return_, 1) := by decide +kernel
theorem d_Pg_numberOf_0 : decode b_Pg_numberOf 0 = .ok (.aload_n 0, 1) := by decide +kernel
theorem d_Pg_numberOf_1 : decode b_Pg_numberOf 1 = .ok (.iload_n 1, 1) := by decide +kernel
theorem d_Pg_numberOf_2 : decode b_Pg_numberOf 2 = .ok (.iconst 1, 1) := by decide +kernel
theorem d_Pg_numberOf_3 : decode b_Pg_numberOf 3 = .ok (.iadd, 1) := by decide +kernel
theorem d_Pg_numberOf_4 : decode b_Pg_numberOf 4 = .ok (.invokevirtual 29, 3) := by decide +kernel
theorem d_Pg_numberOf_7 : decode b_Pg_numberOf 7 = .ok (.i2l, 1) := by decide +kernel
theorem d_Pg_numberOf_8 : decode b_Pg_numberOf 8 = .ok (.bipush 32, 2) := by decide +kernel
theorem d_Pg_numberOf_10 : decode b_Pg_numberOf 10 = .ok (.lshl, 1) := by decide +kernel
theorem d_Pg_numberOf_11 : decode b_Pg_numberOf 11 = .ok (.aload_n 0, 1) := by decide +kernel
theorem d_Pg_numberOf_12 : decode b_Pg_numberOf 12 = .ok (.iload_n 1, 1) := by decide +kernel
theorem d_Pg_numberOf_13 : decode b_Pg_numberOf 13 = .ok (.iconst 2, 1) := by decide +kernel
theorem d_Pg_numberOf_14 : decode b_Pg_numberOf 14 = .ok (.iadd, 1) := by decide +kernel
theorem d_Pg_numberOf_15 : decode b_Pg_numberOf 15 = .ok (.invokevirtual 29, 3) := by decide +kernel
theorem d_Pg_numberOf_18 : decode b_Pg_numberOf 18 = .ok (.i2l, 1) := by decide +kernel
theorem d_Pg_numberOf_19 : decode b_Pg_numberOf 19 = .ok (.ldc2_w 33, 3) := by decide +kernel
theorem d_Pg_numberOf_22 : decode b_Pg_numberOf 22 = .ok (.land, 1) := by decide +kernel
theorem d_Pg_numberOf_23 : decode b_Pg_numberOf 23 = .ok (.lor, 1) := by decide +kernel
theorem d_Pg_numberOf_24 : decode b_Pg_numberOf 24 = .ok (.lreturn, 1) := by decide +kernel
theorem d_Pg_addFunc_0 : decode b_Pg_addFunc 0 = .ok (.aload_n 0, 1) := by decide +kernel
theorem d_Pg_addFunc_1 : decode b_Pg_addFunc 1 = .ok (.getfield 15, 3) := by decide +kernel
theorem d_Pg_addFunc_4 : decode b_Pg_addFunc 4 = .ok (.istore_n 2, 1) := by decide +kernel
theorem d_Pg_addFunc_5 : decode b_Pg_addFunc 5 = .ok (.aload_n 0, 1) := by decide +kernel
theorem d_Pg_addFunc_6 : decode b_Pg_addFunc 6 = .ok (.sipush 310, 3) := by decide +kernel
theorem d_Pg_addFunc_9 : decode b_Pg_addFunc 9 = .ok (.invokevirtual 25, 3) := by decide +kernel
theorem d_Pg_addFunc_12 : decode b_Pg_addFunc 12 = .ok (.aload_n 0, 1) := by decide +kernel
theorem d_Pg_addFunc_13 : decode b_Pg_addFunc 13 = .ok (.iload_n 1, 1) := by decide +kernel
theorem d_Pg_addFunc_14 : decode b_Pg_addFunc 14 = .ok (.invokevirtual 25, 3) := by decide +kernel
theorem d_Pg_addFunc_17 : decode b_Pg_addFunc 17 = .ok (.aload_n 0, 1) := by decide +kernel
theorem d_Pg_addFunc_18 : decode b_Pg_addFunc 18 = .ok (.iconst 0, 1) := by decide +kernel
theorem d_Pg_addFunc_19 : decode b_Pg_addFunc 19 = .ok (.invokevirtual 25, 3) := by decide +kernel
theorem d_Pg_addFunc_22 : decode b_Pg_addFunc 22 = .ok (.aload_n 0, 1) := by decide +kernel
theorem d_Pg_addFunc_23 : decode b_Pg_addFunc 23 = .ok (.iconst 0, 1) := by decide +kernel
theorem d_Pg_addFunc_24 : decode b_Pg_addFunc 24 = .ok (.invokevirtual 25, 3) := by decide +kernel
theorem d_Pg_addFunc_27 : decode b_Pg_addFunc 27 = .ok (.iload_n 2, 1) := by decide +kernel
theorem d_Pg_addFunc_28 : decode b_Pg_addFunc 28 = .ok (.ireturn, 1) := by decide +kernel
theorem d_Pg_addName_0 : decode b_Pg_addName 0 = .ok (.aload_n 0, 1) := by decide +kernel
theorem d_Pg_addName_1 : decode b_Pg_addName 1 = .ok (.iload_n 1, 1) := by decide +kernel
theorem d_Pg_addName_2 : decode b_Pg_addName 2 = .ok (.iconst 2, 1) := by decide +kernel
theorem d_Pg_addName_3 : decode b_Pg_addName 3 = .ok (.iadd, 1) := by decide +kernel
theorem d_Pg_addName_4 : decode b_Pg_addName 4 = .ok (.invokevirtual 35, 3) := by decide +kernel
theorem d_Pg_addName_7 : decode b_Pg_addName 7 = .ok (.return_, 1) := by decide +kernel
theorem d_Pg_addMatch_0 : decode b_Pg_addMatch 0 = .ok (.aload_n 0, 1) := by decide +kernel
theorem d_Pg_addMatch_1 : decode b_Pg_addMatch 1 = .ok (.iload_n 1, 1) := by decide +kernel
theorem d_Pg_addMatch_2 : decode b_Pg_addMatch 2 = .ok (.iconst 3, 1) := by decide +kernel
theorem d_Pg_addMatch_3 : decode b_Pg_addMatch 3 = .ok (.iadd, 1) := by decide +kernel
theorem d_Pg_addMatch_4 : decode b_Pg_addMatch 4 = .ok (.invokevirtual 35, 3) := by decide +kernel
theorem d_Pg_addMatch_7 : decode b_Pg_addMatch 7 = .ok (.return_, 1) := by decide +kernel
theorem d_Pg_addSlice_0 : decode b_Pg_addSlice 0 = .ok (.aload_n 0, 1) := by decide +kernel
theorem d_Pg_addSlice_1 : decode b_Pg_addSlice 1 = .ok (.iload_n 1, 1) := by decide +kernel
theorem d_Pg_addSlice_2 : decode b_Pg_addSlice 2 = .ok (.invokevirtual 25, 3) := by decide +kernel
theorem d_Pg_addSlice_5 : decode b_Pg_addSlice 5 = .ok (.aload_n 0, 1) := by decide +kernel
theorem d_Pg_addSlice_6 : decode b_Pg_addSlice 6 = .ok (.iload_n 2, 1) := by decide +kernel
theorem d_Pg_addSlice_7 : decode b_Pg_addSlice 7 = .ok (.iload_n 1, 1) := by decide +kernel
theorem d_Pg_addSlice_8 : decode b_Pg_addSlice 8 = .ok (.isub, 1) := by decide +kernel
theorem d_Pg_addSlice_9 : decode b_Pg_addSlice 9 = .ok (.invokevirtual 25, 3) := by decide +kernel
theorem d_Pg_addSlice_12 : decode b_Pg_addSlice 12 = .ok (.return_, 1) := by decide +kernel
theorem d_Pg_kindOf_0 : decode b_Pg_kindOf 0 = .ok (.aload_n 0, 1) := by decide +kernel
theorem d_Pg_kindOf_1 : decode b_Pg_kindOf 1 = .ok (.iload_n 1, 1) := by decide +kernel
theorem d_Pg_kindOf_2 : decode b_Pg_kindOf 2 = .ok (.iconst 1, 1) := by decide +kernel
theorem d_Pg_kindOf_3 : decode b_Pg_kindOf 3 = .ok (.iadd, 1) := by decide +kernel
theorem d_Pg_kindOf_4 : decode b_Pg_kindOf 4 = .ok (.invokevirtual 29, 3) := by decide +kernel
theorem d_Pg_kindOf_7 : decode b_Pg_kindOf 7 = .ok (.ireturn, 1) := by decide +kernel
theorem d_Pg_namesOf_0 : decode b_Pg_namesOf 0 = .ok (.aload_n 0, 1) := by decide +kernel
theorem d_Pg_namesOf_1 : decode b_Pg_namesOf 1 = .ok (.iload_n 1, 1) := by decide +kernel
theorem d_Pg_namesOf_2 : decode b_Pg_namesOf 2 = .ok (.iconst 2, 1) := by decide +kernel
theorem d_Pg_namesOf_3 : decode b_Pg_namesOf 3 = .ok (.iadd, 1) := by decide +kernel
theorem d_Pg_namesOf_4 : decode b_Pg_namesOf 4 = .ok (.invokevirtual 29, 3) := by decide +kernel
theorem d_Pg_namesOf_7 : decode b_Pg_namesOf 7 = .ok (.ireturn, 1) := by decide +kernel
theorem d_Pg_nameAt_0 : decode b_Pg_nameAt 0 = .ok (.aload_n 0, 1) := by decide +kernel
theorem d_Pg_nameAt_1 : decode b_Pg_nameAt 1 = .ok (.iload_n 1, 1) := by decide +kernel
theorem d_Pg_nameAt_2 : decode b_Pg_nameAt 2 = .ok (.iconst 4, 1) := by decide +kernel
theorem d_Pg_nameAt_3 : decode b_Pg_nameAt 3 = .ok (.iadd, 1) := by decide +kernel
theorem d_Pg_nameAt_4 : decode b_Pg_nameAt 4 = .ok (.iconst 2, 1) := by decide +kernel
theorem d_Pg_nameAt_5 : decode b_Pg_nameAt 5 = .ok (.iload_n 2, 1) := by decide +kernel
theorem d_Pg_nameAt_6 : decode b_Pg_nameAt 6 = .ok (.imul, 1) := by decide +kernel
theorem d_Pg_nameAt_7 : decode b_Pg_nameAt 7 = .ok (.iadd, 1) := by decide +kernel
theorem d_Pg_nameAt_8 : decode b_Pg_nameAt 8 = .ok (.invokevirtual 29, 3) := by decide +kernel
theorem d_Pg_nameAt_11 : decode b_Pg_nameAt 11 = .ok (.ireturn, 1) := by decide +kernel
theorem d_Pg_nameLength_0 : decode b_Pg_nameLength 0 = .ok (.aload_n 0, 1) := by decide +kernel
theorem d_Pg_nameLength_1 : decode b_Pg_nameLength 1 = .ok (.iload_n 1, 1) := by decide +kernel
theorem d_Pg_nameLength_2 : decode b_Pg_nameLength 2 = .ok (.iconst 4, 1) := by decide +kernel
theorem d_Pg_nameLength_3 : decode b_Pg_nameLength 3 = .ok (.iadd, 1) := by decide +kernel
theorem d_Pg_nameLength_4 : decode b_Pg_nameLength 4 = .ok (.iconst 2, 1) := by decide +kernel
theorem d_Pg_nameLength_5 : decode b_Pg_nameLength 5 = .ok (.iload_n 2, 1) := by decide +kernel
theorem d_Pg_nameLength_6 : decode b_Pg_nameLength 6 = .ok (.imul, 1) := by decide +kernel
theorem d_Pg_nameLength_7 : decode b_Pg_nameLength 7 = .ok (.iadd, 1) := by decide +kernel
theorem d_Pg_nameLength_8 : decode b_Pg_nameLength 8 = .ok (.iconst 1, 1) := by decide +kernel
theorem d_Pg_nameLength_9 : decode b_Pg_nameLength 9 = .ok (.iadd, 1) := by decide +kernel
theorem d_Pg_nameLength_10 : decode b_Pg_nameLength 10 = .ok (.invokevirtual 29, 3) := by decide +kernel
theorem d_Pg_nameLength_13 : decode b_Pg_nameLength 13 = .ok (.ireturn, 1) := by decide +kernel
theorem d_Pg_matchesOf_0 : decode b_Pg_matchesOf 0 = .ok (.aload_n 0, 1) := by decide +kernel
theorem d_Pg_matchesOf_1 : decode b_Pg_matchesOf 1 = .ok (.iload_n 1, 1) := by decide +kernel
theorem d_Pg_matchesOf_2 : decode b_Pg_matchesOf 2 = .ok (.iconst 3, 1) := by decide +kernel
theorem d_Pg_matchesOf_3 : decode b_Pg_matchesOf 3 = .ok (.iadd, 1) := by decide +kernel
theorem d_Pg_matchesOf_4 : decode b_Pg_matchesOf 4 = .ok (.invokevirtual 29, 3) := by decide +kernel
theorem d_Pg_matchesOf_7 : decode b_Pg_matchesOf 7 = .ok (.ireturn, 1) := by decide +kernel
theorem d_Pg_matchOf_0 : decode b_Pg_matchOf 0 = .ok (.iload_n 1, 1) := by decide +kernel
theorem d_Pg_matchOf_1 : decode b_Pg_matchOf 1 = .ok (.iconst 4, 1) := by decide +kernel
theorem d_Pg_matchOf_2 : decode b_Pg_matchOf 2 = .ok (.iadd, 1) := by decide +kernel
theorem d_Pg_matchOf_3 : decode b_Pg_matchOf 3 = .ok (.iconst 2, 1) := by decide +kernel
theorem d_Pg_matchOf_4 : decode b_Pg_matchOf 4 = .ok (.aload_n 0, 1) := by decide +kernel
theorem d_Pg_matchOf_5 : decode b_Pg_matchOf 5 = .ok (.iload_n 1, 1) := by decide +kernel
theorem d_Pg_matchOf_6 : decode b_Pg_matchOf 6 = .ok (.invokevirtual 38, 3) := by decide +kernel
theorem d_Pg_matchOf_9 : decode b_Pg_matchOf 9 = .ok (.imul, 1) := by decide +kernel
theorem d_Pg_matchOf_10 : decode b_Pg_matchOf 10 = .ok (.iadd, 1) := by decide +kernel
theorem d_Pg_matchOf_11 : decode b_Pg_matchOf 11 = .ok (.iconst 5, 1) := by decide +kernel
theorem d_Pg_matchOf_12 : decode b_Pg_matchOf 12 = .ok (.iload_n 2, 1) := by decide +kernel
theorem d_Pg_matchOf_13 : decode b_Pg_matchOf 13 = .ok (.imul, 1) := by decide +kernel
theorem d_Pg_matchOf_14 : decode b_Pg_matchOf 14 = .ok (.iadd, 1) := by decide +kernel
theorem d_Pg_matchOf_15 : decode b_Pg_matchOf 15 = .ok (.ireturn, 1) := by decide +kernel
theorem d_Pg_lengthOf_0 : decode b_Pg_lengthOf 0 = .ok (.aload_n 0, 1) := by decide +kernel
theorem d_Pg_lengthOf_1 : decode b_Pg_lengthOf 1 = .ok (.iload_n 1, 1) := by decide +kernel
theorem d_Pg_lengthOf_2 : decode b_Pg_lengthOf 2 = .ok (.invokevirtual 29, 3) := by decide +kernel
theorem d_Pg_lengthOf_5 : decode b_Pg_lengthOf 5 = .ok (.lookupswitch 42 #[(302, 27), (310, 29)], 27) := by decide +kernel
theorem d_Pg_lengthOf_32 : decode b_Pg_lengthOf 32 = .ok (.iconst 3, 1) := by decide +kernel
theorem d_Pg_lengthOf_33 : decode b_Pg_lengthOf 33 = .ok (.ireturn, 1) := by decide +kernel
theorem d_Pg_lengthOf_34 : decode b_Pg_lengthOf 34 = .ok (.aload_n 0, 1) := by decide +kernel
theorem d_Pg_lengthOf_35 : decode b_Pg_lengthOf 35 = .ok (.iload_n 1, 1) := by decide +kernel
theorem d_Pg_lengthOf_36 : decode b_Pg_lengthOf 36 = .ok (.aload_n 0, 1) := by decide +kernel
theorem d_Pg_lengthOf_37 : decode b_Pg_lengthOf 37 = .ok (.iload_n 1, 1) := by decide +kernel
theorem d_Pg_lengthOf_38 : decode b_Pg_lengthOf 38 = .ok (.invokevirtual 41, 3) := by decide +kernel
theorem d_Pg_lengthOf_41 : decode b_Pg_lengthOf 41 = .ok (.invokevirtual 44, 3) := by decide +kernel
theorem d_Pg_lengthOf_44 : decode b_Pg_lengthOf 44 = .ok (.iload_n 1, 1) := by decide +kernel
theorem d_Pg_lengthOf_45 : decode b_Pg_lengthOf 45 = .ok (.isub, 1) := by decide +kernel
theorem d_Pg_lengthOf_46 : decode b_Pg_lengthOf 46 = .ok (.ireturn, 1) := by decide +kernel
theorem d_Pg_lengthOf_47 : decode b_Pg_lengthOf 47 = .ok (.iconst 1, 1) := by decide +kernel
theorem d_Pg_lengthOf_48 : decode b_Pg_lengthOf 48 = .ok (.ireturn, 1) := by decide +kernel

set_option maxHeartbeats 4000000 in
set_option maxRecDepth 100000 in
theorem c_Pg_size (l : Launch) (D : jd_T) (a : Nat) (f_orders : Value) (f_size : Int)  : jc_C l D y_Pg_size b_Pg_size 1 (some .int) { frames := 0, cells := 0, slots := 0, locals := 0 } [.ref a] [ob D a 7 [f_orders, .int (ii f_size)]] (fun _ : Unit => (.returned (some (.int (ii f_size))), True, [ob D a 7 [f_orders, .int (ii f_size)]])) := by
  refine jc_of rfl (Nat.le_of_ble_eq_true rfl) ?_
  intro X hl hR hN ok hnm fin
  subst hl
  show jw X 0 0 [ob D a 7 [f_orders, .int (ii f_size)]] [(0, .ref a)] 0 []
  refine jr_aload_n ok 0 d_Pg_size_0 rfl rfl ?_
  refine jr_get ok 0 f_Pg_15 rfl rfl d_Pg_size_1 ?_
  exact jr_iret ok fin (Nat.le_refl _) (Nat.le_refl _) () rfl trivial sg_same d_Pg_size_4

