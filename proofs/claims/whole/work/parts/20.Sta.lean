theorem d_St_init_0 : decode b_St_init 0 = .ok (.aload_n 0, 1) := by decide +kernel
theorem d_St_init_1 : decode b_St_init 1 = .ok (.invokespecial 3, 3) := by decide +kernel
theorem d_St_init_4 : decode b_St_init 4 = .ok (.aload_n 0, 1) := by decide +kernel
theorem d_St_init_5 : decode b_St_init 5 = .ok (.sipush 256, 3) := by decide +kernel
theorem d_St_init_8 : decode b_St_init 8 = .ok (.anewarray 9, 3) := by decide +kernel
theorem d_St_init_11 : decode b_St_init 11 = .ok (.putfield 11, 3) := by decide +kernel
theorem d_St_init_14 : decode b_St_init 14 = .ok (.return_, 1) := by decide +kernel
theorem d_St_size_0 : decode b_St_size 0 = .ok (.aload_n 0, 1) := by decide +kernel
theorem d_St_size_1 : decode b_St_size 1 = .ok (.getfield 17, 3) := by decide +kernel
theorem d_St_size_4 : decode b_St_size 4 = .ok (.ireturn, 1) := by decide +kernel
theorem d_St_isFull_0 : decode b_St_isFull 0 = .ok (.aload_n 0, 1) := by decide +kernel
theorem d_St_isFull_1 : decode b_St_isFull 1 = .ok (.getfield 17, 3) := by decide +kernel
theorem d_St_isFull_4 : decode b_St_isFull 4 = .ok (.aload_n 0, 1) := by decide +kernel
theorem d_St_isFull_5 : decode b_St_isFull 5 = .ok (.getfield 11, 3) := by decide +kernel
theorem d_St_isFull_8 : decode b_St_isFull 8 = .ok (.arraylength, 1) := by decide +kernel
theorem d_St_isFull_9 : decode b_St_isFull 9 = .ok (.if_icmp .lt 7, 3) := by decide +kernel
theorem d_St_isFull_12 : decode b_St_isFull 12 = .ok (.iconst 1, 1) := by decide +kernel
theorem d_St_isFull_13 : decode b_St_isFull 13 = .ok (.goto 4, 3) := by decide +kernel
theorem d_St_isFull_16 : decode b_St_isFull 16 = .ok (.iconst 0, 1) := by decide +kernel
theorem d_St_isFull_17 : decode b_St_isFull 17 = .ok (.ireturn, 1) := by decide +kernel
theorem d_St_find_0 : decode b_St_find 0 = .ok (.iload_n 1, 1) := by decide +kernel
theorem d_St_find_1 : decode b_St_find 1 = .ok (.ifCond .lt 20, 3) := by decide +kernel
theorem d_St_find_4 : decode b_St_find 4 = .ok (.iload_n 1, 1) := by decide +kernel
theorem d_St_find_5 : decode b_St_find 5 = .ok (.aload_n 0, 1) := by decide +kernel
theorem d_St_find_6 : decode b_St_find 6 = .ok (.getfield 17, 3) := by decide +kernel
theorem d_St_find_9 : decode b_St_find 9 = .ok (.if_icmp .ge 12, 3) := by decide +kernel
theorem d_St_find_12 : decode b_St_find 12 = .ok (.aload_n 0, 1) := by decide +kernel
theorem d_St_find_13 : decode b_St_find 13 = .ok (.getfield 11, 3) := by decide +kernel
theorem d_St_find_16 : decode b_St_find 16 = .ok (.iload_n 1, 1) := by decide +kernel
theorem d_St_find_17 : decode b_St_find 17 = .ok (.aaload, 1) := by decide +kernel
theorem d_St_find_18 : decode b_St_find 18 = .ok (.goto 4, 3) := by decide +kernel
theorem d_St_find_21 : decode b_St_find 21 = .ok (.aconst_null, 1) := by decide +kernel
theorem d_St_find_22 : decode b_St_find 22 = .ok (.areturn, 1) := by decide +kernel
theorem d_St_numberOf_0 : decode b_St_numberOf 0 = .ok (.iconst 0, 1) := by decide +kernel
theorem d_St_numberOf_1 : decode b_St_numberOf 1 = .ok (.istore_n 2, 1) := by decide +kernel
theorem d_St_numberOf_2 : decode b_St_numberOf 2 = .ok (.iload_n 2, 1) := by decide +kernel
theorem d_St_numberOf_3 : decode b_St_numberOf 3 = .ok (.aload_n 0, 1) := by decide +kernel
theorem d_St_numberOf_4 : decode b_St_numberOf 4 = .ok (.getfield 17, 3) := by decide +kernel
theorem d_St_numberOf_7 : decode b_St_numberOf 7 = .ok (.if_icmp .ge 29, 3) := by decide +kernel
theorem d_St_numberOf_10 : decode b_St_numberOf 10 = .ok (.aload_n 0, 1) := by decide +kernel
theorem d_St_numberOf_11 : decode b_St_numberOf 11 = .ok (.iload_n 2, 1) := by decide +kernel
theorem d_St_numberOf_12 : decode b_St_numberOf 12 = .ok (.invokevirtual 21, 3) := by decide +kernel
theorem d_St_numberOf_15 : decode b_St_numberOf 15 = .ok (.astore_n 3, 1) := by decide +kernel
theorem d_St_numberOf_16 : decode b_St_numberOf 16 = .ok (.aload_n 3, 1) := by decide +kernel
theorem d_St_numberOf_17 : decode b_St_numberOf 17 = .ok (.ifnull 13, 3) := by decide +kernel
theorem d_St_numberOf_20 : decode b_St_numberOf 20 = .ok (.aload_n 3, 1) := by decide +kernel
theorem d_St_numberOf_21 : decode b_St_numberOf 21 = .ok (.aload_n 1, 1) := by decide +kernel
theorem d_St_numberOf_22 : decode b_St_numberOf 22 = .ok (.invokevirtual 25, 3) := by decide +kernel
theorem d_St_numberOf_25 : decode b_St_numberOf 25 = .ok (.ifCond .eq 5, 3) := by decide +kernel
theorem d_St_numberOf_28 : decode b_St_numberOf 28 = .ok (.iload_n 2, 1) := by decide +kernel
theorem d_St_numberOf_29 : decode b_St_numberOf 29 = .ok (.ireturn, 1) := by decide +kernel
theorem d_St_numberOf_30 : decode b_St_numberOf 30 = .ok (.iinc 2 1, 3) := by decide +kernel
theorem d_St_numberOf_33 : decode b_St_numberOf 33 = .ok (.goto (-31), 3) := by decide +kernel
theorem d_St_numberOf_36 : decode b_St_numberOf 36 = .ok (.iconst (-1), 1) := by decide +kernel
theorem d_St_numberOf_37 : decode b_St_numberOf 37 = .ok (.ireturn, 1) := by decide +kernel
theorem d_St_add_0 : decode b_St_add 0 = .ok (.aload_n 0, 1) := by decide +kernel
theorem d_St_add_1 : decode b_St_add 1 = .ok (.invokevirtual 29, 3) := by decide +kernel
theorem d_St_add_4 : decode b_St_add 4 = .ok (.ifCond .eq 5, 3) := by decide +kernel
theorem d_St_add_7 : decode b_St_add 7 = .ok (.iconst (-1), 1) := by decide +kernel
theorem d_St_add_8 : decode b_St_add 8 = .ok (.ireturn, 1) := by decide +kernel
theorem d_St_add_9 : decode b_St_add 9 = .ok (.aload_n 0, 1) := by decide +kernel
theorem d_St_add_10 : decode b_St_add 10 = .ok (.getfield 11, 3) := by decide +kernel
theorem d_St_add_13 : decode b_St_add 13 = .ok (.aload_n 0, 1) := by decide +kernel
theorem d_St_add_14 : decode b_St_add 14 = .ok (.getfield 17, 3) := by decide +kernel
theorem d_St_add_17 : decode b_St_add 17 = .ok (.aload_n 1, 1) := by decide +kernel
theorem d_St_add_18 : decode b_St_add 18 = .ok (.aastore, 1) := by decide +kernel
theorem d_St_add_19 : decode b_St_add 19 = .ok (.aload_n 0, 1) := by decide +kernel
theorem d_St_add_20 : decode b_St_add 20 = .ok (.dup, 1) := by decide +kernel
theorem d_St_add_21 : decode b_St_add 21 = .ok (.getfield 17, 3) := by decide +kernel
theorem d_St_add_24 : decode b_St_add 24 = .ok (.iconst 1, 1) := by decide +kernel
theorem d_St_add_25 : decode b_St_add 25 = .ok (.iadd, 1) := by decide +kernel
theorem d_St_add_26 : decode b_St_add 26 = .ok (.putfield 17, 3) := by decide +kernel
theorem d_St_add_29 : decode b_St_add 29 = .ok (.aload_n 0, 1) := by decide +kernel
theorem d_St_add_30 : decode b_St_add 30 = .ok (.getfield 17, 3) := by decide +kernel
theorem d_St_add_33 : decode b_St_add 33 = .ok (.iconst 1, 1) := by decide +kernel
theorem d_St_add_34 : decode b_St_add 34 = .ok (.isub, 1) := by decide +kernel
theorem d_St_add_35 : decode b_St_add 35 = .ok (.ireturn, 1) := by decide +kernel
theorem d_St_horizon_0 : decode b_St_horizon 0 = .ok (.aload_n 0, 1) := by decide +kernel
theorem d_St_horizon_1 : decode b_St_horizon 1 = .ok (.getfield 33, 3) := by decide +kernel
theorem d_St_horizon_4 : decode b_St_horizon 4 = .ok (.lreturn, 1) := by decide +kernel
theorem d_St_headSize_0 : decode b_St_headSize 0 = .ok (.aload_n 0, 1) := by decide +kernel
theorem d_St_headSize_1 : decode b_St_headSize 1 = .ok (.getfield 37, 3) := by decide +kernel
theorem d_St_headSize_4 : decode b_St_headSize 4 = .ok (.ireturn, 1) := by decide +kernel
theorem d_St_headIsFull_0 : decode b_St_headIsFull 0 = .ok (.aload_n 0, 1) := by decide +kernel
theorem d_St_headIsFull_1 : decode b_St_headIsFull 1 = .ok (.getfield 37, 3) := by decide +kernel
theorem d_St_headIsFull_4 : decode b_St_headIsFull 4 = .ok (.sipush 4096, 3) := by decide +kernel
theorem d_St_headIsFull_7 : decode b_St_headIsFull 7 = .ok (.if_icmp .lt 7, 3) := by decide +kernel
theorem d_St_headIsFull_10 : decode b_St_headIsFull 10 = .ok (.iconst 1, 1) := by decide +kernel
theorem d_St_headIsFull_11 : decode b_St_headIsFull 11 = .ok (.goto 4, 3) := by decide +kernel
theorem d_St_headIsFull_14 : decode b_St_headIsFull 14 = .ok (.iconst 0, 1) := by decide +kernel
theorem d_St_headIsFull_15 : decode b_St_headIsFull 15 = .ok (.ireturn, 1) := by decide +kernel
theorem d_St_parcels_0 : decode b_St_parcels 0 = .ok (.aload_n 0, 1) := by decide +kernel
theorem d_St_parcels_1 : decode b_St_parcels 1 = .ok (.getfield 40, 3) := by decide +kernel
theorem d_St_parcels_4 : decode b_St_parcels 4 = .ok (.ireturn, 1) := by decide +kernel
theorem d_St_scars_0 : decode b_St_scars 0 = .ok (.aload_n 0, 1) := by decide +kernel
theorem d_St_scars_1 : decode b_St_scars 1 = .ok (.getfield 43, 3) := by decide +kernel
theorem d_St_scars_4 : decode b_St_scars 4 = .ok (.ireturn, 1) := by decide +kernel
theorem d_St_addScar_0 : decode b_St_addScar 0 = .ok (.aload_n 0, 1) := by decide +kernel
theorem d_St_addScar_1 : decode b_St_addScar 1 = .ok (.dup, 1) := by decide +kernel
theorem d_St_addScar_2 : decode b_St_addScar 2 = .ok (.getfield 43, 3) := by decide +kernel
theorem d_St_addScar_5 : decode b_St_addScar 5 = .ok (.iconst 1, 1) := by decide +kernel
theorem d_St_addScar_6 : decode b_St_addScar 6 = .ok (.iadd, 1) := by decide +kernel
theorem d_St_addScar_7 : decode b_St_addScar 7 = .ok (.putfield 43, 3) := by decide +kernel
theorem d_St_addScar_10 : decode b_St_addScar 10 = .ok (.return_, 1) := by decide +kernel
theorem d_St_seenPoints_0 : decode b_St_seenPoints 0 = .ok (.iconst 0, 1) := by decide +kernel
theorem d_St_seenPoints_1 : decode b_St_seenPoints 1 = .ok (.istore_n 1, 1) := by decide +kernel
theorem d_St_seenPoints_2 : decode b_St_seenPoints 2 = .ok (.iconst 0, 1) := by decide +kernel
theorem d_St_seenPoints_3 : decode b_St_seenPoints 3 = .ok (.istore_n 2, 1) := by decide +kernel
theorem d_St_seenPoints_4 : decode b_St_seenPoints 4 = .ok (.iload_n 2, 1) := by decide +kernel
theorem d_St_seenPoints_5 : decode b_St_seenPoints 5 = .ok (.aload_n 0, 1) := by decide +kernel
theorem d_St_seenPoints_6 : decode b_St_seenPoints 6 = .ok (.getfield 17, 3) := by decide +kernel
theorem d_St_seenPoints_9 : decode b_St_seenPoints 9 = .ok (.if_icmp .ge 33, 3) := by decide +kernel
theorem d_St_seenPoints_12 : decode b_St_seenPoints 12 = .ok (.aload_n 0, 1) := by decide +kernel
theorem d_St_seenPoints_13 : decode b_St_seenPoints 13 = .ok (.iload_n 2, 1) := by decide +kernel
theorem d_St_seenPoints_14 : decode b_St_seenPoints 14 = .ok (.invokevirtual 21, 3) := by decide +kernel
theorem d_St_seenPoints_17 : decode b_St_seenPoints 17 = .ok (.astore_n 3, 1) := by decide +kernel
theorem d_St_seenPoints_18 : decode b_St_seenPoints 18 = .ok (.iload_n 1, 1) := by decide +kernel
theorem d_St_seenPoints_19 : decode b_St_seenPoints 19 = .ok (.aload_n 3, 1) := by decide +kernel
theorem d_St_seenPoints_20 : decode b_St_seenPoints 20 = .ok (.ifnonnull 7, 3) := by decide +kernel
theorem d_St_seenPoints_23 : decode b_St_seenPoints 23 = .ok (.iconst 0, 1) := by decide +kernel
theorem d_St_seenPoints_24 : decode b_St_seenPoints 24 = .ok (.goto 10, 3) := by decide +kernel
theorem d_St_seenPoints_27 : decode b_St_seenPoints 27 = .ok (.aload_n 3, 1) := by decide +kernel
theorem d_St_seenPoints_28 : decode b_St_seenPoints 28 = .ok (.invokevirtual 46, 3) := by decide +kernel
theorem d_St_seenPoints_31 : decode b_St_seenPoints 31 = .ok (.invokevirtual 50, 3) := by decide +kernel
theorem d_St_seenPoints_34 : decode b_St_seenPoints 34 = .ok (.iadd, 1) := by decide +kernel
theorem d_St_seenPoints_35 : decode b_St_seenPoints 35 = .ok (.istore_n 1, 1) := by decide +kernel
theorem d_St_seenPoints_36 : decode b_St_seenPoints 36 = .ok (.iinc 2 1, 3) := by decide +kernel
theorem d_St_seenPoints_39 : decode b_St_seenPoints 39 = .ok (.goto (-35), 3) := by decide +kernel
theorem d_St_seenPoints_42 : decode b_St_seenPoints 42 = .ok (.iload_n 1, 1) := by decide +kernel
theorem d_St_seenPoints_43 : decode b_St_seenPoints 43 = .ok (.ireturn, 1) := by decide +kernel
theorem d_St_isTime_0 : decode b_St_isTime 0 = .ok (.lload_n 1, 1) := by decide +kernel
theorem d_St_isTime_1 : decode b_St_isTime 1 = .ok (.lconst 0, 1) := by decide +kernel
theorem d_St_isTime_2 : decode b_St_isTime 2 = .ok (.lcmp, 1) := by decide +kernel
theorem d_St_isTime_3 : decode b_St_isTime 3 = .ok (.ifCond .lt 15, 3) := by decide +kernel
theorem d_St_isTime_6 : decode b_St_isTime 6 = .ok (.lload_n 1, 1) := by decide +kernel
theorem d_St_isTime_7 : decode b_St_isTime 7 = .ok (.ldc2_w 55, 3) := by decide +kernel
theorem d_St_isTime_10 : decode b_St_isTime 10 = .ok (.lcmp, 1) := by decide +kernel
theorem d_St_isTime_11 : decode b_St_isTime 11 = .ok (.ifCond .gt 7, 3) := by decide +kernel
theorem d_St_isTime_14 : decode b_St_isTime 14 = .ok (.iconst 1, 1) := by decide +kernel
theorem d_St_isTime_15 : decode b_St_isTime 15 = .ok (.goto 4, 3) := by decide +kernel
theorem d_St_isTime_18 : decode b_St_isTime 18 = .ok (.iconst 0, 1) := by decide +kernel
theorem d_St_isTime_19 : decode b_St_isTime 19 = .ok (.ireturn, 1) := by decide +kernel
theorem d_St_mayCome_0 : decode b_St_mayCome 0 = .ok (.aload_n 0, 1) := by decide +kernel
theorem d_St_mayCome_1 : decode b_St_mayCome 1 = .ok (.lload_n 2, 1) := by decide +kernel
theorem d_St_mayCome_2 : decode b_St_mayCome 2 = .ok (.invokevirtual 57, 3) := by decide +kernel
theorem d_St_mayCome_5 : decode b_St_mayCome 5 = .ok (.ifCond .eq 25, 3) := by decide +kernel
theorem d_St_mayCome_8 : decode b_St_mayCome 8 = .ok (.lload_n 2, 1) := by decide +kernel
theorem d_St_mayCome_9 : decode b_St_mayCome 9 = .ok (.aload_n 1, 1) := by decide +kernel
theorem d_St_mayCome_10 : decode b_St_mayCome 10 = .ok (.invokevirtual 61, 3) := by decide +kernel
theorem d_St_mayCome_13 : decode b_St_mayCome 13 = .ok (.lcmp, 1) := by decide +kernel
theorem d_St_mayCome_14 : decode b_St_mayCome 14 = .ok (.ifCond .le 16, 3) := by decide +kernel
theorem d_St_mayCome_17 : decode b_St_mayCome 17 = .ok (.lload_n 2, 1) := by decide +kernel
theorem d_St_mayCome_18 : decode b_St_mayCome 18 = .ok (.aload_n 0, 1) := by decide +kernel
theorem d_St_mayCome_19 : decode b_St_mayCome 19 = .ok (.getfield 33, 3) := by decide +kernel
theorem d_St_mayCome_22 : decode b_St_mayCome 22 = .ok (.lcmp, 1) := by decide +kernel
theorem d_St_mayCome_23 : decode b_St_mayCome 23 = .ok (.ifCond .lt 7, 3) := by decide +kernel
theorem d_St_mayCome_26 : decode b_St_mayCome 26 = .ok (.iconst 1, 1) := by decide +kernel
theorem d_St_mayCome_27 : decode b_St_mayCome 27 = .ok (.goto 4, 3) := by decide +kernel
theorem d_St_mayCome_30 : decode b_St_mayCome 30 = .ok (.iconst 0, 1) := by decide +kernel
theorem d_St_mayCome_31 : decode b_St_mayCome 31 = .ok (.ireturn, 1) := by decide +kernel
theorem d_St_putPoint_0 : decode b_St_putPoint 0 = .ok (.aload_n 1, 1) := by decide +kernel
theorem d_St_putPoint_1 : decode b_St_putPoint 1 = .ok (.lload_n 2, 1) := by decide +kernel
theorem d_St_putPoint_2 : decode b_St_putPoint 2 = .ok (.lload 4, 2) := by decide +kernel
theorem d_St_putPoint_4 : decode b_St_putPoint 4 = .ok (.invokevirtual 65, 3) := by decide +kernel
theorem d_St_putPoint_7 : decode b_St_putPoint 7 = .ok (.aload_n 0, 1) := by decide +kernel
theorem d_St_putPoint_8 : decode b_St_putPoint 8 = .ok (.dup, 1) := by decide +kernel
theorem d_St_putPoint_9 : decode b_St_putPoint 9 = .ok (.getfield 37, 3) := by decide +kernel
theorem d_St_putPoint_12 : decode b_St_putPoint 12 = .ok (.iconst 1, 1) := by decide +kernel
theorem d_St_putPoint_13 : decode b_St_putPoint 13 = .ok (.iadd, 1) := by decide +kernel
theorem d_St_putPoint_14 : decode b_St_putPoint 14 = .ok (.putfield 37, 3) := by decide +kernel
theorem d_St_putPoint_17 : decode b_St_putPoint 17 = .ok (.return_, 1) := by decide +kernel
theorem d_St_letGo_0 : decode b_St_letGo 0 = .ok (.iload_n 3, 1) := by decide +kernel
theorem d_St_letGo_1 : decode b_St_letGo 1 = .ok (.iload_n 2, 1) := by decide +kernel
theorem d_St_letGo_2 : decode b_St_letGo 2 = .ok (.if_icmp .gt 5, 3) := by decide +kernel
theorem d_St_letGo_5 : decode b_St_letGo 5 = .ok (.iconst 0, 1) := by decide +kernel
theorem d_St_letGo_6 : decode b_St_letGo 6 = .ok (.ireturn, 1) := by decide +kernel
theorem d_St_letGo_7 : decode b_St_letGo 7 = .ok (.aload_n 0, 1) := by decide +kernel
theorem d_St_letGo_8 : decode b_St_letGo 8 = .ok (.dup, 1) := by decide +kernel
theorem d_St_letGo_9 : decode b_St_letGo 9 = .ok (.getfield 37, 3) := by decide +kernel
theorem d_St_letGo_12 : decode b_St_letGo 12 = .ok (.iload_n 3, 1) := by decide +kernel
theorem d_St_letGo_13 : decode b_St_letGo 13 = .ok (.iload_n 2, 1) := by decide +kernel
theorem d_St_letGo_14 : decode b_St_letGo 14 = .ok (.isub, 1) := by decide +kernel
theorem d_St_letGo_15 : decode b_St_letGo 15 = .ok (.aload_n 1, 1) := by decide +kernel
theorem d_St_letGo_16 : decode b_St_letGo 16 = .ok (.iload_n 2, 1) := by decide +kernel
theorem d_St_letGo_17 : decode b_St_letGo 17 = .ok (.iload_n 3, 1) := by decide +kernel
theorem d_St_letGo_18 : decode b_St_letGo 18 = .ok (.invokevirtual 69, 3) := by decide +kernel
theorem d_St_letGo_21 : decode b_St_letGo 21 = .ok (.isub, 1) := by decide +kernel
theorem d_St_letGo_22 : decode b_St_letGo 22 = .ok (.isub, 1) := by decide +kernel
theorem d_St_letGo_23 : decode b_St_letGo 23 = .ok (.putfield 37, 3) := by decide +kernel
theorem d_St_letGo_26 : decode b_St_letGo 26 = .ok (.aload_n 1, 1) := by decide +kernel
theorem d_St_letGo_27 : decode b_St_letGo 27 = .ok (.iload_n 2, 1) := by decide +kernel
theorem d_St_letGo_28 : decode b_St_letGo 28 = .ok (.iload_n 3, 1) := by decide +kernel
theorem d_St_letGo_29 : decode b_St_letGo 29 = .ok (.invokevirtual 73, 3) := by decide +kernel
theorem d_St_letGo_32 : decode b_St_letGo 32 = .ok (.iload_n 3, 1) := by decide +kernel
theorem d_St_letGo_33 : decode b_St_letGo 33 = .ok (.iload_n 2, 1) := by decide +kernel
theorem d_St_letGo_34 : decode b_St_letGo 34 = .ok (.isub, 1) := by decide +kernel
theorem d_St_letGo_35 : decode b_St_letGo 35 = .ok (.ireturn, 1) := by decide +kernel
theorem d_St_moveHorizon_0 : decode b_St_moveHorizon 0 = .ok (.aload_n 0, 1) := by decide +kernel
theorem d_St_moveHorizon_1 : decode b_St_moveHorizon 1 = .ok (.lload_n 1, 1) := by decide +kernel
theorem d_St_moveHorizon_2 : decode b_St_moveHorizon 2 = .ok (.putfield 33, 3) := by decide +kernel
theorem d_St_moveHorizon_5 : decode b_St_moveHorizon 5 = .ok (.iconst 0, 1) := by decide +kernel
theorem d_St_moveHorizon_6 : decode b_St_moveHorizon 6 = .ok (.istore_n 3, 1) := by decide +kernel
theorem d_St_moveHorizon_7 : decode b_St_moveHorizon 7 = .ok (.iconst 0, 1) := by decide +kernel
theorem d_St_moveHorizon_8 : decode b_St_moveHorizon 8 = .ok (.istore 4, 2) := by decide +kernel
theorem d_St_moveHorizon_10 : decode b_St_moveHorizon 10 = .ok (.iload 4, 2) := by decide +kernel
theorem d_St_moveHorizon_12 : decode b_St_moveHorizon 12 = .ok (.aload_n 0, 1) := by decide +kernel
theorem d_St_moveHorizon_13 : decode b_St_moveHorizon 13 = .ok (.getfield 17, 3) := by decide +kernel
theorem d_St_moveHorizon_16 : decode b_St_moveHorizon 16 = .ok (.if_icmp .ge 44, 3) := by decide +kernel
theorem d_St_moveHorizon_19 : decode b_St_moveHorizon 19 = .ok (.aload_n 0, 1) := by decide +kernel
theorem d_St_moveHorizon_20 : decode b_St_moveHorizon 20 = .ok (.iload 4, 2) := by decide +kernel
theorem d_St_moveHorizon_22 : decode b_St_moveHorizon 22 = .ok (.invokevirtual 21, 3) := by decide +kernel
theorem d_St_moveHorizon_25 : decode b_St_moveHorizon 25 = .ok (.astore 5, 2) := by decide +kernel
theorem d_St_moveHorizon_27 : decode b_St_moveHorizon 27 = .ok (.aload 5, 2) := by decide +kernel
theorem d_St_moveHorizon_29 : decode b_St_moveHorizon 29 = .ok (.ifnull 25, 3) := by decide +kernel
theorem d_St_moveHorizon_32 : decode b_St_moveHorizon 32 = .ok (.iload_n 3, 1) := by decide +kernel
theorem d_St_moveHorizon_33 : decode b_St_moveHorizon 33 = .ok (.aload_n 0, 1) := by decide +kernel
theorem d_St_moveHorizon_34 : decode b_St_moveHorizon 34 = .ok (.aload 5, 2) := by decide +kernel
theorem d_St_moveHorizon_36 : decode b_St_moveHorizon 36 = .ok (.invokevirtual 46, 3) := by decide +kernel
theorem d_St_moveHorizon_39 : decode b_St_moveHorizon 39 = .ok (.iconst 0, 1) := by decide +kernel
theorem d_St_moveHorizon_40 : decode b_St_moveHorizon 40 = .ok (.aload 5, 2) := by decide +kernel
theorem d_St_moveHorizon_42 : decode b_St_moveHorizon 42 = .ok (.invokevirtual 46, 3) := by decide +kernel
theorem d_St_moveHorizon_45 : decode b_St_moveHorizon 45 = .ok (.lload_n 1, 1) := by decide +kernel
theorem d_St_moveHorizon_46 : decode b_St_moveHorizon 46 = .ok (.invokevirtual 77, 3) := by decide +kernel
theorem d_St_moveHorizon_49 : decode b_St_moveHorizon 49 = .ok (.invokevirtual 81, 3) := by decide +kernel
theorem d_St_moveHorizon_52 : decode b_St_moveHorizon 52 = .ok (.iadd, 1) := by decide +kernel
theorem d_St_moveHorizon_53 : decode b_St_moveHorizon 53 = .ok (.istore_n 3, 1) := by decide +kernel
theorem d_St_moveHorizon_54 : decode b_St_moveHorizon 54 = .ok (.iinc 4 1, 3) := by decide +kernel
theorem d_St_moveHorizon_57 : decode b_St_moveHorizon 57 = .ok (.goto (-47), 3) := by decide +kernel
theorem d_St_moveHorizon_60 : decode b_St_moveHorizon 60 = .ok (.iload_n 3, 1) := by decide +kernel
theorem d_St_moveHorizon_61 : decode b_St_moveHorizon 61 = .ok (.ireturn, 1) := by decide +kernel
theorem d_St_packHead_0 : decode b_St_packHead 0 = .ok (.aload_n 0, 1) := by decide +kernel
theorem d_St_packHead_1 : decode b_St_packHead 1 = .ok (.getfield 37, 3) := by decide +kernel
theorem d_St_packHead_4 : decode b_St_packHead 4 = .ok (.istore_n 1, 1) := by decide +kernel
theorem d_St_packHead_5 : decode b_St_packHead 5 = .ok (.iload_n 1, 1) := by decide +kernel
theorem d_St_packHead_6 : decode b_St_packHead 6 = .ok (.ifCond .le 13, 3) := by decide +kernel
theorem d_St_packHead_9 : decode b_St_packHead 9 = .ok (.aload_n 0, 1) := by decide +kernel
theorem d_St_packHead_10 : decode b_St_packHead 10 = .ok (.dup, 1) := by decide +kernel
theorem d_St_packHead_11 : decode b_St_packHead 11 = .ok (.getfield 40, 3) := by decide +kernel
theorem d_St_packHead_14 : decode b_St_packHead 14 = .ok (.iconst 1, 1) := by decide +kernel
theorem d_St_packHead_15 : decode b_St_packHead 15 = .ok (.iadd, 1) := by decide +kernel
theorem d_St_packHead_16 : decode b_St_packHead 16 = .ok (.putfield 40, 3) := by decide +kernel
theorem d_St_packHead_19 : decode b_St_packHead 19 = .ok (.aload_n 0, 1) := by decide +kernel
theorem d_St_packHead_20 : decode b_St_packHead 20 = .ok (.iconst 0, 1) := by decide +kernel
theorem d_St_packHead_21 : decode b_St_packHead 21 = .ok (.putfield 37, 3) := by decide +kernel
theorem d_St_packHead_24 : decode b_St_packHead 24 = .ok (.iconst 0, 1) := by decide +kernel
theorem d_St_packHead_25 : decode b_St_packHead 25 = .ok (.istore_n 2, 1) := by decide +kernel
theorem d_St_packHead_26 : decode b_St_packHead 26 = .ok (.iload_n 2, 1) := by decide +kernel
theorem d_St_packHead_27 : decode b_St_packHead 27 = .ok (.aload_n 0, 1) := by decide +kernel
theorem d_St_packHead_28 : decode b_St_packHead 28 = .ok (.getfield 17, 3) := by decide +kernel
theorem d_St_packHead_31 : decode b_St_packHead 31 = .ok (.if_icmp .ge 26, 3) := by decide +kernel
theorem d_St_packHead_34 : decode b_St_packHead 34 = .ok (.aload_n 0, 1) := by decide +kernel
theorem d_St_packHead_35 : decode b_St_packHead 35 = .ok (.iload_n 2, 1) := by decide +kernel
theorem d_St_packHead_36 : decode b_St_packHead 36 = .ok (.invokevirtual 21, 3) := by decide +kernel
theorem d_St_packHead_39 : decode b_St_packHead 39 = .ok (.astore_n 3, 1) := by decide +kernel
theorem d_St_packHead_40 : decode b_St_packHead 40 = .ok (.aload_n 3, 1) := by decide +kernel
theorem d_St_packHead_41 : decode b_St_packHead 41 = .ok (.ifnull 10, 3) := by decide +kernel
theorem d_St_packHead_44 : decode b_St_packHead 44 = .ok (.aload_n 3, 1) := by decide +kernel
theorem d_St_packHead_45 : decode b_St_packHead 45 = .ok (.invokevirtual 46, 3) := by decide +kernel
theorem d_St_packHead_48 : decode b_St_packHead 48 = .ok (.invokevirtual 85, 3) := by decide +kernel
theorem d_St_packHead_51 : decode b_St_packHead 51 = .ok (.iinc 2 1, 3) := by decide +kernel
theorem d_St_packHead_54 : decode b_St_packHead 54 = .ok (.goto (-28), 3) := by decide +kernel
theorem d_St_packHead_57 : decode b_St_packHead 57 = .ok (.iload_n 1, 1) := by decide +kernel
theorem d_St_packHead_58 : decode b_St_packHead 58 = .ok (.ireturn, 1) := by decide +kernel

set_option maxHeartbeats 4000000 in
set_option maxRecDepth 100000 in
theorem c_St_size (l : Launch) (D : jd_T) (a : Nat) (f_rows : Value) (f_size : Int) (f_horizon : Int64) (f_headSize : Int) (f_parcels : Int) (f_scars : Int)  : jc_C l D y_St_size b_St_size 1 (some .int) { frames := 0, cells := 0, slots := 0, locals := 0 } [.ref a] [ob D a 10 [f_rows, .int (ii f_size), .long f_horizon, .int (ii f_headSize), .int (ii f_parcels), .int (ii f_scars)]] (fun _ : Unit => (.returned (some (.int (ii f_size))), True, [ob D a 10 [f_rows, .int (ii f_size), .long f_horizon, .int (ii f_headSize), .int (ii f_parcels), .int (ii f_scars)]])) := by
  refine jc_of rfl (Nat.le_of_ble_eq_true rfl) ?_
  intro X hl hR hN ok hnm fin
  subst hl
  show jw X 0 0 [ob D a 10 [f_rows, .int (ii f_size), .long f_horizon, .int (ii f_headSize), .int (ii f_parcels), .int (ii f_scars)]] [(0, .ref a)] 0 []
  refine jr_aload_n ok 0 d_St_size_0 rfl rfl ?_
  refine jr_get ok 0 f_St_17 rfl rfl d_St_size_1 ?_
  exact jr_iret ok fin (Nat.le_refl _) (Nat.le_refl _) () rfl trivial sg_same d_St_size_4

set_option maxHeartbeats 4000000 in
set_option maxRecDepth 100000 in
theorem c_St_horizon (l : Launch) (D : jd_T) (a : Nat) (f_rows : Value) (f_size : Int) (f_horizon : Int64) (f_headSize : Int) (f_parcels : Int) (f_scars : Int)  : jc_C l D y_St_horizon b_St_horizon 1 (some .long) { frames := 0, cells := 0, slots := 0, locals := 0 } [.ref a] [ob D a 10 [f_rows, .int (ii f_size), .long f_horizon, .int (ii f_headSize), .int (ii f_parcels), .int (ii f_scars)]] (fun _ : Unit => (.returned (some (.long f_horizon)), True, [ob D a 10 [f_rows, .int (ii f_size), .long f_horizon, .int (ii f_headSize), .int (ii f_parcels), .int (ii f_scars)]])) := by
  refine jc_of rfl (Nat.le_of_ble_eq_true rfl) ?_
  intro X hl hR hN ok hnm fin
  subst hl
  show jw X 0 0 [ob D a 10 [f_rows, .int (ii f_size), .long f_horizon, .int (ii f_headSize), .int (ii f_parcels), .int (ii f_scars)]] [(0, .ref a)] 0 []
  refine jr_aload_n ok 0 d_St_horizon_0 rfl rfl ?_
  refine jr_get ok 0 f_St_33 rfl rfl d_St_horizon_1 ?_
  exact jr_lret ok fin (Nat.le_refl _) (Nat.le_refl _) () rfl trivial sg_same d_St_horizon_4

set_option maxHeartbeats 4000000 in
set_option maxRecDepth 100000 in
theorem c_St_headSize (l : Launch) (D : jd_T) (a : Nat) (f_rows : Value) (f_size : Int) (f_horizon : Int64) (f_headSize : Int) (f_parcels : Int) (f_scars : Int)  : jc_C l D y_St_headSize b_St_headSize 1 (some .int) { frames := 0, cells := 0, slots := 0, locals := 0 } [.ref a] [ob D a 10 [f_rows, .int (ii f_size), .long f_horizon, .int (ii f_headSize), .int (ii f_parcels), .int (ii f_scars)]] (fun _ : Unit => (.returned (some (.int (ii f_headSize))), True, [ob D a 10 [f_rows, .int (ii f_size), .long f_horizon, .int (ii f_headSize), .int (ii f_parcels), .int (ii f_scars)]])) := by
  refine jc_of rfl (Nat.le_of_ble_eq_true rfl) ?_
  intro X hl hR hN ok hnm fin
  subst hl
  show jw X 0 0 [ob D a 10 [f_rows, .int (ii f_size), .long f_horizon, .int (ii f_headSize), .int (ii f_parcels), .int (ii f_scars)]] [(0, .ref a)] 0 []
  refine jr_aload_n ok 0 d_St_headSize_0 rfl rfl ?_
  refine jr_get ok 0 f_St_37 rfl rfl d_St_headSize_1 ?_
  exact jr_iret ok fin (Nat.le_refl _) (Nat.le_refl _) () rfl trivial sg_same d_St_headSize_4

set_option maxHeartbeats 4000000 in
set_option maxRecDepth 100000 in
theorem c_St_parcels (l : Launch) (D : jd_T) (a : Nat) (f_rows : Value) (f_size : Int) (f_horizon : Int64) (f_headSize : Int) (f_parcels : Int) (f_scars : Int)  : jc_C l D y_St_parcels b_St_parcels 1 (some .int) { frames := 0, cells := 0, slots := 0, locals := 0 } [.ref a] [ob D a 10 [f_rows, .int (ii f_size), .long f_horizon, .int (ii f_headSize), .int (ii f_parcels), .int (ii f_scars)]] (fun _ : Unit => (.returned (some (.int (ii f_parcels))), True, [ob D a 10 [f_rows, .int (ii f_size), .long f_horizon, .int (ii f_headSize), .int (ii f_parcels), .int (ii f_scars)]])) := by
  refine jc_of rfl (Nat.le_of_ble_eq_true rfl) ?_
  intro X hl hR hN ok hnm fin
  subst hl
  show jw X 0 0 [ob D a 10 [f_rows, .int (ii f_size), .long f_horizon, .int (ii f_headSize), .int (ii f_parcels), .int (ii f_scars)]] [(0, .ref a)] 0 []
  refine jr_aload_n ok 0 d_St_parcels_0 rfl rfl ?_
  refine jr_get ok 0 f_St_40 rfl rfl d_St_parcels_1 ?_
  exact jr_iret ok fin (Nat.le_refl _) (Nat.le_refl _) () rfl trivial sg_same d_St_parcels_4

set_option maxHeartbeats 4000000 in
set_option maxRecDepth 100000 in
theorem c_St_scars (l : Launch) (D : jd_T) (a : Nat) (f_rows : Value) (f_size : Int) (f_horizon : Int64) (f_headSize : Int) (f_parcels : Int) (f_scars : Int)  : jc_C l D y_St_scars b_St_scars 1 (some .int) { frames := 0, cells := 0, slots := 0, locals := 0 } [.ref a] [ob D a 10 [f_rows, .int (ii f_size), .long f_horizon, .int (ii f_headSize), .int (ii f_parcels), .int (ii f_scars)]] (fun _ : Unit => (.returned (some (.int (ii f_scars))), True, [ob D a 10 [f_rows, .int (ii f_size), .long f_horizon, .int (ii f_headSize), .int (ii f_parcels), .int (ii f_scars)]])) := by
  refine jc_of rfl (Nat.le_of_ble_eq_true rfl) ?_
  intro X hl hR hN ok hnm fin
  subst hl
  show jw X 0 0 [ob D a 10 [f_rows, .int (ii f_size), .long f_horizon, .int (ii f_headSize), .int (ii f_parcels), .int (ii f_scars)]] [(0, .ref a)] 0 []
  refine jr_aload_n ok 0 d_St_scars_0 rfl rfl ?_
  refine jr_get ok 0 f_St_43 rfl rfl d_St_scars_1 ?_
  exact jr_iret ok fin (Nat.le_refl _) (Nat.le_refl _) () rfl trivial sg_same d_St_scars_4

