theorem d_Pt_init_0 : decode b_Pt_init 0 = .ok (.aload_n 0, 1) := by decide +kernel
theorem d_Pt_init_1 : decode b_Pt_init 1 = .ok (.invokespecial 3, 3) := by decide +kernel
theorem d_Pt_init_4 : decode b_Pt_init 4 = .ok (.aload_n 0, 1) := by decide +kernel
theorem d_Pt_init_5 : decode b_Pt_init 5 = .ok (.iconst 0, 1) := by decide +kernel
theorem d_Pt_init_6 : decode b_Pt_init 6 = .ok (.newarray .long, 2) := by decide +kernel
theorem d_Pt_init_8 : decode b_Pt_init 8 = .ok (.putfield 9, 3) := by decide +kernel
theorem d_Pt_init_11 : decode b_Pt_init 11 = .ok (.aload_n 0, 1) := by decide +kernel
theorem d_Pt_init_12 : decode b_Pt_init 12 = .ok (.iconst 0, 1) := by decide +kernel
theorem d_Pt_init_13 : decode b_Pt_init 13 = .ok (.newarray .long, 2) := by decide +kernel
theorem d_Pt_init_15 : decode b_Pt_init 15 = .ok (.putfield 15, 3) := by decide +kernel
theorem d_Pt_init_18 : decode b_Pt_init 18 = .ok (.aload_n 0, 1) := by decide +kernel
theorem d_Pt_init_19 : decode b_Pt_init 19 = .ok (.ldc2_w 18, 3) := by decide +kernel
theorem d_Pt_init_22 : decode b_Pt_init 22 = .ok (.putfield 20, 3) := by decide +kernel
theorem d_Pt_init_25 : decode b_Pt_init 25 = .ok (.return_, 1) := by decide +kernel
theorem d_Pt_size_0 : decode b_Pt_size 0 = .ok (.aload_n 0, 1) := by decide +kernel
theorem d_Pt_size_1 : decode b_Pt_size 1 = .ok (.getfield 24, 3) := by decide +kernel
theorem d_Pt_size_4 : decode b_Pt_size 4 = .ok (.ireturn, 1) := by decide +kernel
theorem d_Pt_lastTime_0 : decode b_Pt_lastTime 0 = .ok (.aload_n 0, 1) := by decide +kernel
theorem d_Pt_lastTime_1 : decode b_Pt_lastTime 1 = .ok (.getfield 20, 3) := by decide +kernel
theorem d_Pt_lastTime_4 : decode b_Pt_lastTime 4 = .ok (.lreturn, 1) := by decide +kernel
theorem d_Pt_timeAt_0 : decode b_Pt_timeAt 0 = .ok (.iload_n 1, 1) := by decide +kernel
theorem d_Pt_timeAt_1 : decode b_Pt_timeAt 1 = .ok (.ifCond .lt 20, 3) := by decide +kernel
theorem d_Pt_timeAt_4 : decode b_Pt_timeAt 4 = .ok (.iload_n 1, 1) := by decide +kernel
theorem d_Pt_timeAt_5 : decode b_Pt_timeAt 5 = .ok (.aload_n 0, 1) := by decide +kernel
theorem d_Pt_timeAt_6 : decode b_Pt_timeAt 6 = .ok (.getfield 24, 3) := by decide +kernel
theorem d_Pt_timeAt_9 : decode b_Pt_timeAt 9 = .ok (.if_icmp .ge 12, 3) := by decide +kernel
theorem d_Pt_timeAt_12 : decode b_Pt_timeAt 12 = .ok (.aload_n 0, 1) := by decide +kernel
theorem d_Pt_timeAt_13 : decode b_Pt_timeAt 13 = .ok (.getfield 9, 3) := by decide +kernel
theorem d_Pt_timeAt_16 : decode b_Pt_timeAt 16 = .ok (.iload_n 1, 1) := by decide +kernel
theorem d_Pt_timeAt_17 : decode b_Pt_timeAt 17 = .ok (.laload, 1) := by decide +kernel
theorem d_Pt_timeAt_18 : decode b_Pt_timeAt 18 = .ok (.goto 6, 3) := by decide +kernel
theorem d_Pt_timeAt_21 : decode b_Pt_timeAt 21 = .ok (.ldc2_w 18, 3) := by decide +kernel
theorem d_Pt_timeAt_24 : decode b_Pt_timeAt 24 = .ok (.lreturn, 1) := by decide +kernel
theorem d_Pt_valueAt_0 : decode b_Pt_valueAt 0 = .ok (.iload_n 1, 1) := by decide +kernel
theorem d_Pt_valueAt_1 : decode b_Pt_valueAt 1 = .ok (.ifCond .lt 20, 3) := by decide +kernel
theorem d_Pt_valueAt_4 : decode b_Pt_valueAt 4 = .ok (.iload_n 1, 1) := by decide +kernel
theorem d_Pt_valueAt_5 : decode b_Pt_valueAt 5 = .ok (.aload_n 0, 1) := by decide +kernel
theorem d_Pt_valueAt_6 : decode b_Pt_valueAt 6 = .ok (.getfield 24, 3) := by decide +kernel
theorem d_Pt_valueAt_9 : decode b_Pt_valueAt 9 = .ok (.if_icmp .ge 12, 3) := by decide +kernel
theorem d_Pt_valueAt_12 : decode b_Pt_valueAt 12 = .ok (.aload_n 0, 1) := by decide +kernel
theorem d_Pt_valueAt_13 : decode b_Pt_valueAt 13 = .ok (.getfield 15, 3) := by decide +kernel
theorem d_Pt_valueAt_16 : decode b_Pt_valueAt 16 = .ok (.iload_n 1, 1) := by decide +kernel
theorem d_Pt_valueAt_17 : decode b_Pt_valueAt 17 = .ok (.laload, 1) := by decide +kernel
theorem d_Pt_valueAt_18 : decode b_Pt_valueAt 18 = .ok (.goto 4, 3) := by decide +kernel
theorem d_Pt_valueAt_21 : decode b_Pt_valueAt 21 = .ok (.lconst 0, 1) := by decide +kernel
theorem d_Pt_valueAt_22 : decode b_Pt_valueAt 22 = .ok (.lreturn, 1) := by decide +kernel
theorem d_Pt_add_0 : decode b_Pt_add 0 = .ok (.aload_n 0, 1) := by decide +kernel
theorem d_Pt_add_1 : decode b_Pt_add 1 = .ok (.getfield 24, 3) := by decide +kernel
theorem d_Pt_add_4 : decode b_Pt_add 4 = .ok (.aload_n 0, 1) := by decide +kernel
theorem d_Pt_add_5 : decode b_Pt_add 5 = .ok (.getfield 9, 3) := by decide +kernel
theorem d_Pt_add_8 : decode b_Pt_add 8 = .ok (.arraylength, 1) := by decide +kernel
theorem d_Pt_add_9 : decode b_Pt_add 9 = .ok (.if_icmp .ge 15, 3) := by decide +kernel
theorem d_Pt_add_12 : decode b_Pt_add 12 = .ok (.aload_n 0, 1) := by decide +kernel
theorem d_Pt_add_13 : decode b_Pt_add 13 = .ok (.getfield 24, 3) := by decide +kernel
theorem d_Pt_add_16 : decode b_Pt_add 16 = .ok (.aload_n 0, 1) := by decide +kernel
theorem d_Pt_add_17 : decode b_Pt_add 17 = .ok (.getfield 15, 3) := by decide +kernel
theorem d_Pt_add_20 : decode b_Pt_add 20 = .ok (.arraylength, 1) := by decide +kernel
theorem d_Pt_add_21 : decode b_Pt_add 21 = .ok (.if_icmp .lt 41, 3) := by decide +kernel
theorem d_Pt_add_24 : decode b_Pt_add 24 = .ok (.iconst 4, 1) := by decide +kernel
theorem d_Pt_add_25 : decode b_Pt_add 25 = .ok (.iconst 2, 1) := by decide +kernel
theorem d_Pt_add_26 : decode b_Pt_add 26 = .ok (.aload_n 0, 1) := by decide +kernel
theorem d_Pt_add_27 : decode b_Pt_add 27 = .ok (.getfield 24, 3) := by decide +kernel
theorem d_Pt_add_30 : decode b_Pt_add 30 = .ok (.imul, 1) := by decide +kernel
theorem d_Pt_add_31 : decode b_Pt_add 31 = .ok (.invokestatic 28, 3) := by decide +kernel
theorem d_Pt_add_34 : decode b_Pt_add 34 = .ok (.istore 5, 2) := by decide +kernel
theorem d_Pt_add_36 : decode b_Pt_add 36 = .ok (.aload_n 0, 1) := by decide +kernel
theorem d_Pt_add_37 : decode b_Pt_add 37 = .ok (.aload_n 0, 1) := by decide +kernel
theorem d_Pt_add_38 : decode b_Pt_add 38 = .ok (.getfield 9, 3) := by decide +kernel
theorem d_Pt_add_41 : decode b_Pt_add 41 = .ok (.iload 5, 2) := by decide +kernel
theorem d_Pt_add_43 : decode b_Pt_add 43 = .ok (.invokestatic 34, 3) := by decide +kernel
theorem d_Pt_add_46 : decode b_Pt_add 46 = .ok (.putfield 9, 3) := by decide +kernel
theorem d_Pt_add_49 : decode b_Pt_add 49 = .ok (.aload_n 0, 1) := by decide +kernel
theorem d_Pt_add_50 : decode b_Pt_add 50 = .ok (.aload_n 0, 1) := by decide +kernel
theorem d_Pt_add_51 : decode b_Pt_add 51 = .ok (.getfield 15, 3) := by decide +kernel
theorem d_Pt_add_54 : decode b_Pt_add 54 = .ok (.iload 5, 2) := by decide +kernel
theorem d_Pt_add_56 : decode b_Pt_add 56 = .ok (.invokestatic 34, 3) := by decide +kernel
theorem d_Pt_add_59 : decode b_Pt_add 59 = .ok (.putfield 15, 3) := by decide +kernel
theorem d_Pt_add_62 : decode b_Pt_add 62 = .ok (.aload_n 0, 1) := by decide +kernel
theorem d_Pt_add_63 : decode b_Pt_add 63 = .ok (.getfield 9, 3) := by decide +kernel
theorem d_Pt_add_66 : decode b_Pt_add 66 = .ok (.aload_n 0, 1) := by decide +kernel
theorem d_Pt_add_67 : decode b_Pt_add 67 = .ok (.getfield 24, 3) := by decide +kernel
theorem d_Pt_add_70 : decode b_Pt_add 70 = .ok (.lload_n 1, 1) := by decide +kernel
theorem d_Pt_add_71 : decode b_Pt_add 71 = .ok (.lastore, 1) := by decide +kernel
theorem d_Pt_add_72 : decode b_Pt_add 72 = .ok (.aload_n 0, 1) := by decide +kernel
theorem d_Pt_add_73 : decode b_Pt_add 73 = .ok (.getfield 15, 3) := by decide +kernel
theorem d_Pt_add_76 : decode b_Pt_add 76 = .ok (.aload_n 0, 1) := by decide +kernel
theorem d_Pt_add_77 : decode b_Pt_add 77 = .ok (.getfield 24, 3) := by decide +kernel
theorem d_Pt_add_80 : decode b_Pt_add 80 = .ok (.lload_n 3, 1) := by decide +kernel
theorem d_Pt_add_81 : decode b_Pt_add 81 = .ok (.lastore, 1) := by decide +kernel
theorem d_Pt_add_82 : decode b_Pt_add 82 = .ok (.aload_n 0, 1) := by decide +kernel
theorem d_Pt_add_83 : decode b_Pt_add 83 = .ok (.dup, 1) := by decide +kernel
theorem d_Pt_add_84 : decode b_Pt_add 84 = .ok (.getfield 24, 3) := by decide +kernel
theorem d_Pt_add_87 : decode b_Pt_add 87 = .ok (.iconst 1, 1) := by decide +kernel
theorem d_Pt_add_88 : decode b_Pt_add 88 = .ok (.iadd, 1) := by decide +kernel
theorem d_Pt_add_89 : decode b_Pt_add 89 = .ok (.putfield 24, 3) := by decide +kernel
theorem d_Pt_add_92 : decode b_Pt_add 92 = .ok (.aload_n 0, 1) := by decide +kernel
theorem d_Pt_add_93 : decode b_Pt_add 93 = .ok (.lload_n 1, 1) := by decide +kernel
theorem d_Pt_add_94 : decode b_Pt_add 94 = .ok (.putfield 20, 3) := by decide +kernel
theorem d_Pt_add_97 : decode b_Pt_add 97 = .ok (.return_, 1) := by decide +kernel
theorem d_Pt_firstFrom_0 : decode b_Pt_firstFrom 0 = .ok (.iconst 0, 1) := by decide +kernel
theorem d_Pt_firstFrom_1 : decode b_Pt_firstFrom 1 = .ok (.istore_n 3, 1) := by decide +kernel
theorem d_Pt_firstFrom_2 : decode b_Pt_firstFrom 2 = .ok (.aload_n 0, 1) := by decide +kernel
theorem d_Pt_firstFrom_3 : decode b_Pt_firstFrom 3 = .ok (.getfield 24, 3) := by decide +kernel
theorem d_Pt_firstFrom_6 : decode b_Pt_firstFrom 6 = .ok (.istore 4, 2) := by decide +kernel
theorem d_Pt_firstFrom_8 : decode b_Pt_firstFrom 8 = .ok (.iconst 0, 1) := by decide +kernel
theorem d_Pt_firstFrom_9 : decode b_Pt_firstFrom 9 = .ok (.istore 5, 2) := by decide +kernel
theorem d_Pt_firstFrom_11 : decode b_Pt_firstFrom 11 = .ok (.iload 5, 2) := by decide +kernel
theorem d_Pt_firstFrom_13 : decode b_Pt_firstFrom 13 = .ok (.bipush 32, 2) := by decide +kernel
theorem d_Pt_firstFrom_15 : decode b_Pt_firstFrom 15 = .ok (.if_icmp .ge 46, 3) := by decide +kernel
theorem d_Pt_firstFrom_18 : decode b_Pt_firstFrom 18 = .ok (.iload_n 3, 1) := by decide +kernel
theorem d_Pt_firstFrom_19 : decode b_Pt_firstFrom 19 = .ok (.iload 4, 2) := by decide +kernel
theorem d_Pt_firstFrom_21 : decode b_Pt_firstFrom 21 = .ok (.if_icmp .ge 40, 3) := by decide +kernel
theorem d_Pt_firstFrom_24 : decode b_Pt_firstFrom 24 = .ok (.iload_n 3, 1) := by decide +kernel
theorem d_Pt_firstFrom_25 : decode b_Pt_firstFrom 25 = .ok (.iload 4, 2) := by decide +kernel
theorem d_Pt_firstFrom_27 : decode b_Pt_firstFrom 27 = .ok (.iadd, 1) := by decide +kernel
theorem d_Pt_firstFrom_28 : decode b_Pt_firstFrom 28 = .ok (.iconst 2, 1) := by decide +kernel
theorem d_Pt_firstFrom_29 : decode b_Pt_firstFrom 29 = .ok (.idiv, 1) := by decide +kernel
theorem d_Pt_firstFrom_30 : decode b_Pt_firstFrom 30 = .ok (.istore 6, 2) := by decide +kernel
theorem d_Pt_firstFrom_32 : decode b_Pt_firstFrom 32 = .ok (.aload_n 0, 1) := by decide +kernel
theorem d_Pt_firstFrom_33 : decode b_Pt_firstFrom 33 = .ok (.iload 6, 2) := by decide +kernel
theorem d_Pt_firstFrom_35 : decode b_Pt_firstFrom 35 = .ok (.invokevirtual 40, 3) := by decide +kernel
theorem d_Pt_firstFrom_38 : decode b_Pt_firstFrom 38 = .ok (.lload_n 1, 1) := by decide +kernel
theorem d_Pt_firstFrom_39 : decode b_Pt_firstFrom 39 = .ok (.lcmp, 1) := by decide +kernel
theorem d_Pt_firstFrom_40 : decode b_Pt_firstFrom 40 = .ok (.ifCond .ge 11, 3) := by decide +kernel
theorem d_Pt_firstFrom_43 : decode b_Pt_firstFrom 43 = .ok (.iload 6, 2) := by decide +kernel
theorem d_Pt_firstFrom_45 : decode b_Pt_firstFrom 45 = .ok (.iconst 1, 1) := by decide +kernel
theorem d_Pt_firstFrom_46 : decode b_Pt_firstFrom 46 = .ok (.iadd, 1) := by decide +kernel
theorem d_Pt_firstFrom_47 : decode b_Pt_firstFrom 47 = .ok (.istore_n 3, 1) := by decide +kernel
theorem d_Pt_firstFrom_48 : decode b_Pt_firstFrom 48 = .ok (.goto 7, 3) := by decide +kernel
theorem d_Pt_firstFrom_51 : decode b_Pt_firstFrom 51 = .ok (.iload 6, 2) := by decide +kernel
theorem d_Pt_firstFrom_53 : decode b_Pt_firstFrom 53 = .ok (.istore 4, 2) := by decide +kernel
theorem d_Pt_firstFrom_55 : decode b_Pt_firstFrom 55 = .ok (.iinc 5 1, 3) := by decide +kernel
theorem d_Pt_firstFrom_58 : decode b_Pt_firstFrom 58 = .ok (.goto (-47), 3) := by decide +kernel
theorem d_Pt_firstFrom_61 : decode b_Pt_firstFrom 61 = .ok (.iload_n 3, 1) := by decide +kernel
theorem d_Pt_firstFrom_62 : decode b_Pt_firstFrom 62 = .ok (.ireturn, 1) := by decide +kernel
theorem d_Pt_packedAmong_0 : decode b_Pt_packedAmong 0 = .ok (.iconst 0, 1) := by decide +kernel
theorem d_Pt_packedAmong_1 : decode b_Pt_packedAmong 1 = .ok (.iload_n 2, 1) := by decide +kernel
theorem d_Pt_packedAmong_2 : decode b_Pt_packedAmong 2 = .ok (.aload_n 0, 1) := by decide +kernel
theorem d_Pt_packedAmong_3 : decode b_Pt_packedAmong 3 = .ok (.getfield 44, 3) := by decide +kernel
theorem d_Pt_packedAmong_6 : decode b_Pt_packedAmong 6 = .ok (.invokestatic 47, 3) := by decide +kernel
theorem d_Pt_packedAmong_9 : decode b_Pt_packedAmong 9 = .ok (.iload_n 1, 1) := by decide +kernel
theorem d_Pt_packedAmong_10 : decode b_Pt_packedAmong 10 = .ok (.isub, 1) := by decide +kernel
theorem d_Pt_packedAmong_11 : decode b_Pt_packedAmong 11 = .ok (.invokestatic 28, 3) := by decide +kernel
theorem d_Pt_packedAmong_14 : decode b_Pt_packedAmong 14 = .ok (.ireturn, 1) := by decide +kernel
theorem d_Pt_packAll_0 : decode b_Pt_packAll 0 = .ok (.aload_n 0, 1) := by decide +kernel
theorem d_Pt_packAll_1 : decode b_Pt_packAll 1 = .ok (.aload_n 0, 1) := by decide +kernel
theorem d_Pt_packAll_2 : decode b_Pt_packAll 2 = .ok (.getfield 24, 3) := by decide +kernel
theorem d_Pt_packAll_5 : decode b_Pt_packAll 5 = .ok (.putfield 44, 3) := by decide +kernel
theorem d_Pt_packAll_8 : decode b_Pt_packAll 8 = .ok (.return_, 1) := by decide +kernel
theorem d_Pt_remove_0 : decode b_Pt_remove 0 = .ok (.iload_n 1, 1) := by decide +kernel
theorem d_Pt_remove_1 : decode b_Pt_remove 1 = .ok (.ifCond .lt 16, 3) := by decide +kernel
theorem d_Pt_remove_4 : decode b_Pt_remove 4 = .ok (.iload_n 2, 1) := by decide +kernel
theorem d_Pt_remove_5 : decode b_Pt_remove 5 = .ok (.iload_n 1, 1) := by decide +kernel
theorem d_Pt_remove_6 : decode b_Pt_remove 6 = .ok (.if_icmp .le 11, 3) := by decide +kernel
theorem d_Pt_remove_9 : decode b_Pt_remove 9 = .ok (.iload_n 2, 1) := by decide +kernel
theorem d_Pt_remove_10 : decode b_Pt_remove 10 = .ok (.aload_n 0, 1) := by decide +kernel
theorem d_Pt_remove_11 : decode b_Pt_remove 11 = .ok (.getfield 24, 3) := by decide +kernel
theorem d_Pt_remove_14 : decode b_Pt_remove 14 = .ok (.if_icmp .le 4, 3) := by decide +kernel
theorem d_Pt_remove_17 : decode b_Pt_remove 17 = .ok (.return_, 1) := by decide +kernel
theorem d_Pt_remove_18 : decode b_Pt_remove 18 = .ok (.aload_n 0, 1) := by decide +kernel
theorem d_Pt_remove_19 : decode b_Pt_remove 19 = .ok (.dup, 1) := by decide +kernel
theorem d_Pt_remove_20 : decode b_Pt_remove 20 = .ok (.getfield 44, 3) := by decide +kernel
theorem d_Pt_remove_23 : decode b_Pt_remove 23 = .ok (.aload_n 0, 1) := by decide +kernel
theorem d_Pt_remove_24 : decode b_Pt_remove 24 = .ok (.iload_n 1, 1) := by decide +kernel
theorem d_Pt_remove_25 : decode b_Pt_remove 25 = .ok (.iload_n 2, 1) := by decide +kernel
theorem d_Pt_remove_26 : decode b_Pt_remove 26 = .ok (.invokevirtual 50, 3) := by decide +kernel
theorem d_Pt_remove_29 : decode b_Pt_remove 29 = .ok (.isub, 1) := by decide +kernel
theorem d_Pt_remove_30 : decode b_Pt_remove 30 = .ok (.putfield 44, 3) := by decide +kernel
theorem d_Pt_remove_33 : decode b_Pt_remove 33 = .ok (.aload_n 0, 1) := by decide +kernel
theorem d_Pt_remove_34 : decode b_Pt_remove 34 = .ok (.getfield 9, 3) := by decide +kernel
theorem d_Pt_remove_37 : decode b_Pt_remove 37 = .ok (.iload_n 2, 1) := by decide +kernel
theorem d_Pt_remove_38 : decode b_Pt_remove 38 = .ok (.aload_n 0, 1) := by decide +kernel
theorem d_Pt_remove_39 : decode b_Pt_remove 39 = .ok (.getfield 9, 3) := by decide +kernel
theorem d_Pt_remove_42 : decode b_Pt_remove 42 = .ok (.iload_n 1, 1) := by decide +kernel
theorem d_Pt_remove_43 : decode b_Pt_remove 43 = .ok (.aload_n 0, 1) := by decide +kernel
theorem d_Pt_remove_44 : decode b_Pt_remove 44 = .ok (.getfield 24, 3) := by decide +kernel
theorem d_Pt_remove_47 : decode b_Pt_remove 47 = .ok (.iload_n 2, 1) := by decide +kernel
theorem d_Pt_remove_48 : decode b_Pt_remove 48 = .ok (.isub, 1) := by decide +kernel
theorem d_Pt_remove_49 : decode b_Pt_remove 49 = .ok (.invokestatic 53, 3) := by decide +kernel
theorem d_Pt_remove_52 : decode b_Pt_remove 52 = .ok (.aload_n 0, 1) := by decide +kernel
theorem d_Pt_remove_53 : decode b_Pt_remove 53 = .ok (.getfield 15, 3) := by decide +kernel
theorem d_Pt_remove_56 : decode b_Pt_remove 56 = .ok (.iload_n 2, 1) := by decide +kernel
theorem d_Pt_remove_57 : decode b_Pt_remove 57 = .ok (.aload_n 0, 1) := by decide +kernel
theorem d_Pt_remove_58 : decode b_Pt_remove 58 = .ok (.getfield 15, 3) := by decide +kernel
theorem d_Pt_remove_61 : decode b_Pt_remove 61 = .ok (.iload_n 1, 1) := by decide +kernel
theorem d_Pt_remove_62 : decode b_Pt_remove 62 = .ok (.aload_n 0, 1) := by decide +kernel
theorem d_Pt_remove_63 : decode b_Pt_remove 63 = .ok (.getfield 24, 3) := by decide +kernel
theorem d_Pt_remove_66 : decode b_Pt_remove 66 = .ok (.iload_n 2, 1) := by decide +kernel
theorem d_Pt_remove_67 : decode b_Pt_remove 67 = .ok (.isub, 1) := by decide +kernel
theorem d_Pt_remove_68 : decode b_Pt_remove 68 = .ok (.invokestatic 53, 3) := by decide +kernel
theorem d_Pt_remove_71 : decode b_Pt_remove 71 = .ok (.aload_n 0, 1) := by decide +kernel
theorem d_Pt_remove_72 : decode b_Pt_remove 72 = .ok (.dup, 1) := by decide +kernel
theorem d_Pt_remove_73 : decode b_Pt_remove 73 = .ok (.getfield 24, 3) := by decide +kernel
theorem d_Pt_remove_76 : decode b_Pt_remove 76 = .ok (.iload_n 2, 1) := by decide +kernel
theorem d_Pt_remove_77 : decode b_Pt_remove 77 = .ok (.iload_n 1, 1) := by decide +kernel
theorem d_Pt_remove_78 : decode b_Pt_remove 78 = .ok (.isub, 1) := by decide +kernel
theorem d_Pt_remove_79 : decode b_Pt_remove 79 = .ok (.isub, 1) := by decide +kernel
theorem d_Pt_remove_80 : decode b_Pt_remove 80 = .ok (.putfield 24, 3) := by decide +kernel
theorem d_Pt_remove_83 : decode b_Pt_remove 83 = .ok (.return_, 1) := by decide +kernel

set_option maxHeartbeats 4000000 in
set_option maxRecDepth 100000 in
theorem c_Pt_size (l : Launch) (D : jd_T) (a : Nat) (f_times : Value) (f_values : Value) (f_size : Int) (f_packed : Int) (f_lastTime : Int64)  : jc_C l D y_Pt_size b_Pt_size 1 (some .int) { frames := 0, cells := 0, slots := 0, locals := 0 } [.ref a] [ob D a 6 [f_times, f_values, .int (ii f_size), .int (ii f_packed), .long f_lastTime]] (fun _ : Unit => (.returned (some (.int (ii f_size))), True, [ob D a 6 [f_times, f_values, .int (ii f_size), .int (ii f_packed), .long f_lastTime]])) := by
  refine jc_of rfl (Nat.le_of_ble_eq_true rfl) ?_
  intro X hl hR hN ok hnm fin
  subst hl
  show jw X 0 0 [ob D a 6 [f_times, f_values, .int (ii f_size), .int (ii f_packed), .long f_lastTime]] [(0, .ref a)] 0 []
  refine jr_aload_n ok 0 d_Pt_size_0 rfl rfl ?_
  refine jr_get ok 0 f_Pt_24 rfl rfl d_Pt_size_1 ?_
  exact jr_iret ok fin (Nat.le_refl _) (Nat.le_refl _) () rfl trivial sg_same d_Pt_size_4

set_option maxHeartbeats 4000000 in
set_option maxRecDepth 100000 in
theorem c_Pt_lastTime (l : Launch) (D : jd_T) (a : Nat) (f_times : Value) (f_values : Value) (f_size : Int) (f_packed : Int) (f_lastTime : Int64)  : jc_C l D y_Pt_lastTime b_Pt_lastTime 1 (some .long) { frames := 0, cells := 0, slots := 0, locals := 0 } [.ref a] [ob D a 6 [f_times, f_values, .int (ii f_size), .int (ii f_packed), .long f_lastTime]] (fun _ : Unit => (.returned (some (.long f_lastTime)), True, [ob D a 6 [f_times, f_values, .int (ii f_size), .int (ii f_packed), .long f_lastTime]])) := by
  refine jc_of rfl (Nat.le_of_ble_eq_true rfl) ?_
  intro X hl hR hN ok hnm fin
  subst hl
  show jw X 0 0 [ob D a 6 [f_times, f_values, .int (ii f_size), .int (ii f_packed), .long f_lastTime]] [(0, .ref a)] 0 []
  refine jr_aload_n ok 0 d_Pt_lastTime_0 rfl rfl ?_
  refine jr_get ok 0 f_Pt_20 rfl rfl d_Pt_lastTime_1 ?_
  exact jr_lret ok fin (Nat.le_refl _) (Nat.le_refl _) () rfl trivial sg_same d_Pt_lastTime_4

