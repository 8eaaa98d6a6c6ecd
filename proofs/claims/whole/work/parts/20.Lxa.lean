theorem d_Lx_init_0 : decode b_Lx_init 0 = .ok (.aload_n 0, 1) := by decide +kernel
theorem d_Lx_init_1 : decode b_Lx_init 1 = .ok (.invokespecial 3, 3) := by decide +kernel
theorem d_Lx_init_4 : decode b_Lx_init 4 = .ok (.aload_n 0, 1) := by decide +kernel
theorem d_Lx_init_5 : decode b_Lx_init 5 = .ok (.aload_n 1, 1) := by decide +kernel
theorem d_Lx_init_6 : decode b_Lx_init 6 = .ok (.putfield 9, 3) := by decide +kernel
theorem d_Lx_init_9 : decode b_Lx_init 9 = .ok (.return_, 1) := by decide +kernel
theorem d_Lx_kind_0 : decode b_Lx_kind 0 = .ok (.aload_n 0, 1) := by decide +kernel
theorem d_Lx_kind_1 : decode b_Lx_kind 1 = .ok (.getfield 15, 3) := by decide +kernel
theorem d_Lx_kind_4 : decode b_Lx_kind 4 = .ok (.ireturn, 1) := by decide +kernel
theorem d_Lx_at_0 : decode b_Lx_at 0 = .ok (.aload_n 0, 1) := by decide +kernel
theorem d_Lx_at_1 : decode b_Lx_at 1 = .ok (.getfield 19, 3) := by decide +kernel
theorem d_Lx_at_4 : decode b_Lx_at 4 = .ok (.ireturn, 1) := by decide +kernel
theorem d_Lx_behind_0 : decode b_Lx_behind 0 = .ok (.aload_n 0, 1) := by decide +kernel
theorem d_Lx_behind_1 : decode b_Lx_behind 1 = .ok (.getfield 22, 3) := by decide +kernel
theorem d_Lx_behind_4 : decode b_Lx_behind 4 = .ok (.ireturn, 1) := by decide +kernel
theorem d_Lx_number_0 : decode b_Lx_number 0 = .ok (.aload_n 0, 1) := by decide +kernel
theorem d_Lx_number_1 : decode b_Lx_number 1 = .ok (.getfield 25, 3) := by decide +kernel
theorem d_Lx_number_4 : decode b_Lx_number 4 = .ok (.lreturn, 1) := by decide +kernel
theorem d_Lx_start_0 : decode b_Lx_start 0 = .ok (.aload_n 0, 1) := by decide +kernel
theorem d_Lx_start_1 : decode b_Lx_start 1 = .ok (.iconst 0, 1) := by decide +kernel
theorem d_Lx_start_2 : decode b_Lx_start 2 = .ok (.putfield 22, 3) := by decide +kernel
theorem d_Lx_start_5 : decode b_Lx_start 5 = .ok (.aload_n 0, 1) := by decide +kernel
theorem d_Lx_start_6 : decode b_Lx_start 6 = .ok (.invokevirtual 29, 3) := by decide +kernel
theorem d_Lx_start_9 : decode b_Lx_start 9 = .ok (.return_, 1) := by decide +kernel
theorem d_Lx_stop_0 : decode b_Lx_stop 0 = .ok (.aload_n 0, 1) := by decide +kernel
theorem d_Lx_stop_1 : decode b_Lx_stop 1 = .ok (.sipush 300, 3) := by decide +kernel
theorem d_Lx_stop_4 : decode b_Lx_stop 4 = .ok (.putfield 15, 3) := by decide +kernel
theorem d_Lx_stop_7 : decode b_Lx_stop 7 = .ok (.return_, 1) := by decide +kernel
theorem d_Lx_advance_0 : decode b_Lx_advance 0 = .ok (.aload_n 0, 1) := by decide +kernel
theorem d_Lx_advance_1 : decode b_Lx_advance 1 = .ok (.aload_n 0, 1) := by decide +kernel
theorem d_Lx_advance_2 : decode b_Lx_advance 2 = .ok (.getfield 22, 3) := by decide +kernel
theorem d_Lx_advance_5 : decode b_Lx_advance 5 = .ok (.putfield 19, 3) := by decide +kernel
theorem d_Lx_advance_8 : decode b_Lx_advance 8 = .ok (.aload_n 0, 1) := by decide +kernel
theorem d_Lx_advance_9 : decode b_Lx_advance 9 = .ok (.getfield 19, 3) := by decide +kernel
theorem d_Lx_advance_12 : decode b_Lx_advance 12 = .ok (.aload_n 0, 1) := by decide +kernel
theorem d_Lx_advance_13 : decode b_Lx_advance 13 = .ok (.getfield 9, 3) := by decide +kernel
theorem d_Lx_advance_16 : decode b_Lx_advance 16 = .ok (.invokevirtual 32, 3) := by decide +kernel
theorem d_Lx_advance_19 : decode b_Lx_advance 19 = .ok (.if_icmp .ge 32, 3) := by decide +kernel
theorem d_Lx_advance_22 : decode b_Lx_advance 22 = .ok (.aload_n 0, 1) := by decide +kernel
theorem d_Lx_advance_23 : decode b_Lx_advance 23 = .ok (.getfield 9, 3) := by decide +kernel
theorem d_Lx_advance_26 : decode b_Lx_advance 26 = .ok (.aload_n 0, 1) := by decide +kernel
theorem d_Lx_advance_27 : decode b_Lx_advance 27 = .ok (.getfield 19, 3) := by decide +kernel
theorem d_Lx_advance_30 : decode b_Lx_advance 30 = .ok (.invokevirtual 38, 3) := by decide +kernel
theorem d_Lx_advance_33 : decode b_Lx_advance 33 = .ok (.bipush 32, 2) := by decide +kernel
theorem d_Lx_advance_35 : decode b_Lx_advance 35 = .ok (.if_icmp .ne 16, 3) := by decide +kernel
theorem d_Lx_advance_38 : decode b_Lx_advance 38 = .ok (.aload_n 0, 1) := by decide +kernel
theorem d_Lx_advance_39 : decode b_Lx_advance 39 = .ok (.dup, 1) := by decide +kernel
theorem d_Lx_advance_40 : decode b_Lx_advance 40 = .ok (.getfield 19, 3) := by decide +kernel
theorem d_Lx_advance_43 : decode b_Lx_advance 43 = .ok (.iconst 1, 1) := by decide +kernel
theorem d_Lx_advance_44 : decode b_Lx_advance 44 = .ok (.iadd, 1) := by decide +kernel
theorem d_Lx_advance_45 : decode b_Lx_advance 45 = .ok (.putfield 19, 3) := by decide +kernel
theorem d_Lx_advance_48 : decode b_Lx_advance 48 = .ok (.goto (-40), 3) := by decide +kernel
theorem d_Lx_advance_51 : decode b_Lx_advance 51 = .ok (.aload_n 0, 1) := by decide +kernel
theorem d_Lx_advance_52 : decode b_Lx_advance 52 = .ok (.aload_n 0, 1) := by decide +kernel
theorem d_Lx_advance_53 : decode b_Lx_advance 53 = .ok (.getfield 19, 3) := by decide +kernel
theorem d_Lx_advance_56 : decode b_Lx_advance 56 = .ok (.putfield 22, 3) := by decide +kernel
theorem d_Lx_advance_59 : decode b_Lx_advance 59 = .ok (.aload_n 0, 1) := by decide +kernel
theorem d_Lx_advance_60 : decode b_Lx_advance 60 = .ok (.getfield 9, 3) := by decide +kernel
theorem d_Lx_advance_63 : decode b_Lx_advance 63 = .ok (.aload_n 0, 1) := by decide +kernel
theorem d_Lx_advance_64 : decode b_Lx_advance 64 = .ok (.getfield 19, 3) := by decide +kernel
theorem d_Lx_advance_67 : decode b_Lx_advance 67 = .ok (.invokevirtual 38, 3) := by decide +kernel
theorem d_Lx_advance_70 : decode b_Lx_advance 70 = .ok (.istore_n 1, 1) := by decide +kernel
theorem d_Lx_advance_71 : decode b_Lx_advance 71 = .ok (.iload_n 1, 1) := by decide +kernel
theorem d_Lx_advance_72 : decode b_Lx_advance 72 = .ok (.iconst (-1), 1) := by decide +kernel
theorem d_Lx_advance_73 : decode b_Lx_advance 73 = .ok (.if_icmp .ne 13, 3) := by decide +kernel
theorem d_Lx_advance_76 : decode b_Lx_advance 76 = .ok (.aload_n 0, 1) := by decide +kernel
theorem d_Lx_advance_77 : decode b_Lx_advance 77 = .ok (.sipush 301, 3) := by decide +kernel
theorem d_Lx_advance_80 : decode b_Lx_advance 80 = .ok (.putfield 15, 3) := by decide +kernel
theorem d_Lx_advance_83 : decode b_Lx_advance 83 = .ok (.goto 62, 3) := by decide +kernel
theorem d_Lx_advance_86 : decode b_Lx_advance 86 = .ok (.iload_n 1, 1) := by decide +kernel
theorem d_Lx_advance_87 : decode b_Lx_advance 87 = .ok (.invokestatic 42, 3) := by decide +kernel
theorem d_Lx_advance_90 : decode b_Lx_advance 90 = .ok (.ifCond .eq 10, 3) := by decide +kernel
theorem d_Lx_advance_93 : decode b_Lx_advance 93 = .ok (.aload_n 0, 1) := by decide +kernel
theorem d_Lx_advance_94 : decode b_Lx_advance 94 = .ok (.invokevirtual 46, 3) := by decide +kernel
theorem d_Lx_advance_97 : decode b_Lx_advance 97 = .ok (.goto 48, 3) := by decide +kernel
theorem d_Lx_advance_100 : decode b_Lx_advance 100 = .ok (.iload_n 1, 1) := by decide +kernel
theorem d_Lx_advance_101 : decode b_Lx_advance 101 = .ok (.invokestatic 49, 3) := by decide +kernel
theorem d_Lx_advance_104 : decode b_Lx_advance 104 = .ok (.ifCond .eq 10, 3) := by decide +kernel
theorem d_Lx_advance_107 : decode b_Lx_advance 107 = .ok (.aload_n 0, 1) := by decide +kernel
theorem d_Lx_advance_108 : decode b_Lx_advance 108 = .ok (.invokevirtual 52, 3) := by decide +kernel
theorem d_Lx_advance_111 : decode b_Lx_advance 111 = .ok (.goto 34, 3) := by decide +kernel
theorem d_Lx_advance_114 : decode b_Lx_advance 114 = .ok (.iload_n 1, 1) := by decide +kernel
theorem d_Lx_advance_115 : decode b_Lx_advance 115 = .ok (.bipush 34, 2) := by decide +kernel
theorem d_Lx_advance_117 : decode b_Lx_advance 117 = .ok (.if_icmp .ne 10, 3) := by decide +kernel
theorem d_Lx_advance_120 : decode b_Lx_advance 120 = .ok (.aload_n 0, 1) := by decide +kernel
theorem d_Lx_advance_121 : decode b_Lx_advance 121 = .ok (.invokevirtual 55, 3) := by decide +kernel
theorem d_Lx_advance_124 : decode b_Lx_advance 124 = .ok (.goto 21, 3) := by decide +kernel
theorem d_Lx_advance_127 : decode b_Lx_advance 127 = .ok (.aload_n 0, 1) := by decide +kernel
theorem d_Lx_advance_128 : decode b_Lx_advance 128 = .ok (.iload_n 1, 1) := by decide +kernel
theorem d_Lx_advance_129 : decode b_Lx_advance 129 = .ok (.aload_n 0, 1) := by decide +kernel
theorem d_Lx_advance_130 : decode b_Lx_advance 130 = .ok (.getfield 9, 3) := by decide +kernel
theorem d_Lx_advance_133 : decode b_Lx_advance 133 = .ok (.aload_n 0, 1) := by decide +kernel
theorem d_Lx_advance_134 : decode b_Lx_advance 134 = .ok (.getfield 19, 3) := by decide +kernel
theorem d_Lx_advance_137 : decode b_Lx_advance 137 = .ok (.iconst 1, 1) := by decide +kernel
theorem d_Lx_advance_138 : decode b_Lx_advance 138 = .ok (.iadd, 1) := by decide +kernel
theorem d_Lx_advance_139 : decode b_Lx_advance 139 = .ok (.invokevirtual 38, 3) := by decide +kernel
theorem d_Lx_advance_142 : decode b_Lx_advance 142 = .ok (.invokevirtual 58, 3) := by decide +kernel
theorem d_Lx_advance_145 : decode b_Lx_advance 145 = .ok (.return_, 1) := by decide +kernel
theorem d_Lx_isDigit_0 : decode b_Lx_isDigit 0 = .ok (.iload_n 0, 1) := by decide +kernel
theorem d_Lx_isDigit_1 : decode b_Lx_isDigit 1 = .ok (.bipush 48, 2) := by decide +kernel
theorem d_Lx_isDigit_3 : decode b_Lx_isDigit 3 = .ok (.if_icmp .lt 13, 3) := by decide +kernel
theorem d_Lx_isDigit_6 : decode b_Lx_isDigit 6 = .ok (.iload_n 0, 1) := by decide +kernel
theorem d_Lx_isDigit_7 : decode b_Lx_isDigit 7 = .ok (.bipush 57, 2) := by decide +kernel
theorem d_Lx_isDigit_9 : decode b_Lx_isDigit 9 = .ok (.if_icmp .gt 7, 3) := by decide +kernel
theorem d_Lx_isDigit_12 : decode b_Lx_isDigit 12 = .ok (.iconst 1, 1) := by decide +kernel
theorem d_Lx_isDigit_13 : decode b_Lx_isDigit 13 = .ok (.goto 4, 3) := by decide +kernel
theorem d_Lx_isDigit_16 : decode b_Lx_isDigit 16 = .ok (.iconst 0, 1) := by decide +kernel
theorem d_Lx_isDigit_17 : decode b_Lx_isDigit 17 = .ok (.ireturn, 1) := by decide +kernel
theorem d_Lx_isNameByte_0 : decode b_Lx_isNameByte 0 = .ok (.iload_n 0, 1) := by decide +kernel
theorem d_Lx_isNameByte_1 : decode b_Lx_isNameByte 1 = .ok (.bipush 97, 2) := by decide +kernel
theorem d_Lx_isNameByte_3 : decode b_Lx_isNameByte 3 = .ok (.if_icmp .lt 9, 3) := by decide +kernel
theorem d_Lx_isNameByte_6 : decode b_Lx_isNameByte 6 = .ok (.iload_n 0, 1) := by decide +kernel
theorem d_Lx_isNameByte_7 : decode b_Lx_isNameByte 7 = .ok (.bipush 122, 2) := by decide +kernel
theorem d_Lx_isNameByte_9 : decode b_Lx_isNameByte 9 = .ok (.if_icmp .le 33, 3) := by decide +kernel
theorem d_Lx_isNameByte_12 : decode b_Lx_isNameByte 12 = .ok (.iload_n 0, 1) := by decide +kernel
theorem d_Lx_isNameByte_13 : decode b_Lx_isNameByte 13 = .ok (.bipush 65, 2) := by decide +kernel
theorem d_Lx_isNameByte_15 : decode b_Lx_isNameByte 15 = .ok (.if_icmp .lt 9, 3) := by decide +kernel
theorem d_Lx_isNameByte_18 : decode b_Lx_isNameByte 18 = .ok (.iload_n 0, 1) := by decide +kernel
theorem d_Lx_isNameByte_19 : decode b_Lx_isNameByte 19 = .ok (.bipush 90, 2) := by decide +kernel
theorem d_Lx_isNameByte_21 : decode b_Lx_isNameByte 21 = .ok (.if_icmp .le 21, 3) := by decide +kernel
theorem d_Lx_isNameByte_24 : decode b_Lx_isNameByte 24 = .ok (.iload_n 0, 1) := by decide +kernel
theorem d_Lx_isNameByte_25 : decode b_Lx_isNameByte 25 = .ok (.bipush 48, 2) := by decide +kernel
theorem d_Lx_isNameByte_27 : decode b_Lx_isNameByte 27 = .ok (.if_icmp .lt 9, 3) := by decide +kernel
theorem d_Lx_isNameByte_30 : decode b_Lx_isNameByte 30 = .ok (.iload_n 0, 1) := by decide +kernel
theorem d_Lx_isNameByte_31 : decode b_Lx_isNameByte 31 = .ok (.bipush 57, 2) := by decide +kernel
theorem d_Lx_isNameByte_33 : decode b_Lx_isNameByte 33 = .ok (.if_icmp .le 9, 3) := by decide +kernel
theorem d_Lx_isNameByte_36 : decode b_Lx_isNameByte 36 = .ok (.iload_n 0, 1) := by decide +kernel
theorem d_Lx_isNameByte_37 : decode b_Lx_isNameByte 37 = .ok (.bipush 95, 2) := by decide +kernel
theorem d_Lx_isNameByte_39 : decode b_Lx_isNameByte 39 = .ok (.if_icmp .ne 7, 3) := by decide +kernel
theorem d_Lx_isNameByte_42 : decode b_Lx_isNameByte 42 = .ok (.iconst 1, 1) := by decide +kernel
theorem d_Lx_isNameByte_43 : decode b_Lx_isNameByte 43 = .ok (.goto 4, 3) := by decide +kernel
theorem d_Lx_isNameByte_46 : decode b_Lx_isNameByte 46 = .ok (.iconst 0, 1) := by decide +kernel
theorem d_Lx_isNameByte_47 : decode b_Lx_isNameByte 47 = .ok (.ireturn, 1) := by decide +kernel
theorem d_Lx_readNumber_0 : decode b_Lx_readNumber 0 = .ok (.aload_n 0, 1) := by decide +kernel
theorem d_Lx_readNumber_1 : decode b_Lx_readNumber 1 = .ok (.sipush 302, 3) := by decide +kernel
theorem d_Lx_readNumber_4 : decode b_Lx_readNumber 4 = .ok (.putfield 15, 3) := by decide +kernel
theorem d_Lx_readNumber_7 : decode b_Lx_readNumber 7 = .ok (.aload_n 0, 1) := by decide +kernel
theorem d_Lx_readNumber_8 : decode b_Lx_readNumber 8 = .ok (.lconst 0, 1) := by decide +kernel
theorem d_Lx_readNumber_9 : decode b_Lx_readNumber 9 = .ok (.putfield 25, 3) := by decide +kernel
theorem d_Lx_readNumber_12 : decode b_Lx_readNumber 12 = .ok (.aload_n 0, 1) := by decide +kernel
theorem d_Lx_readNumber_13 : decode b_Lx_readNumber 13 = .ok (.getfield 22, 3) := by decide +kernel
theorem d_Lx_readNumber_16 : decode b_Lx_readNumber 16 = .ok (.aload_n 0, 1) := by decide +kernel
theorem d_Lx_readNumber_17 : decode b_Lx_readNumber 17 = .ok (.getfield 9, 3) := by decide +kernel
theorem d_Lx_readNumber_20 : decode b_Lx_readNumber 20 = .ok (.invokevirtual 32, 3) := by decide +kernel
theorem d_Lx_readNumber_23 : decode b_Lx_readNumber 23 = .ok (.if_icmp .ge 89, 3) := by decide +kernel
theorem d_Lx_readNumber_26 : decode b_Lx_readNumber 26 = .ok (.aload_n 0, 1) := by decide +kernel
theorem d_Lx_readNumber_27 : decode b_Lx_readNumber 27 = .ok (.getfield 9, 3) := by decide +kernel
theorem d_Lx_readNumber_30 : decode b_Lx_readNumber 30 = .ok (.aload_n 0, 1) := by decide +kernel
theorem d_Lx_readNumber_31 : decode b_Lx_readNumber 31 = .ok (.getfield 22, 3) := by decide +kernel
theorem d_Lx_readNumber_34 : decode b_Lx_readNumber 34 = .ok (.invokevirtual 38, 3) := by decide +kernel
theorem d_Lx_readNumber_37 : decode b_Lx_readNumber 37 = .ok (.invokestatic 42, 3) := by decide +kernel
theorem d_Lx_readNumber_40 : decode b_Lx_readNumber 40 = .ok (.ifCond .eq 72, 3) := by decide +kernel
theorem d_Lx_readNumber_43 : decode b_Lx_readNumber 43 = .ok (.aload_n 0, 1) := by decide +kernel
theorem d_Lx_readNumber_44 : decode b_Lx_readNumber 44 = .ok (.getfield 9, 3) := by decide +kernel
theorem d_Lx_readNumber_47 : decode b_Lx_readNumber 47 = .ok (.aload_n 0, 1) := by decide +kernel
theorem d_Lx_readNumber_48 : decode b_Lx_readNumber 48 = .ok (.getfield 22, 3) := by decide +kernel
theorem d_Lx_readNumber_51 : decode b_Lx_readNumber 51 = .ok (.invokevirtual 38, 3) := by decide +kernel
theorem d_Lx_readNumber_54 : decode b_Lx_readNumber 54 = .ok (.bipush 48, 2) := by decide +kernel
theorem d_Lx_readNumber_56 : decode b_Lx_readNumber 56 = .ok (.isub, 1) := by decide +kernel
theorem d_Lx_readNumber_57 : decode b_Lx_readNumber 57 = .ok (.istore_n 1, 1) := by decide +kernel
theorem d_Lx_readNumber_58 : decode b_Lx_readNumber 58 = .ok (.aload_n 0, 1) := by decide +kernel
theorem d_Lx_readNumber_59 : decode b_Lx_readNumber 59 = .ok (.getfield 25, 3) := by decide +kernel
theorem d_Lx_readNumber_62 : decode b_Lx_readNumber 62 = .ok (.ldc2_w 62, 3) := by decide +kernel
theorem d_Lx_readNumber_65 : decode b_Lx_readNumber 65 = .ok (.iload_n 1, 1) := by decide +kernel
theorem d_Lx_readNumber_66 : decode b_Lx_readNumber 66 = .ok (.i2l, 1) := by decide +kernel
theorem d_Lx_readNumber_67 : decode b_Lx_readNumber 67 = .ok (.lsub, 1) := by decide +kernel
theorem d_Lx_readNumber_68 : decode b_Lx_readNumber 68 = .ok (.ldc2_w 64, 3) := by decide +kernel
theorem d_Lx_readNumber_71 : decode b_Lx_readNumber 71 = .ok (.ldiv, 1) := by decide +kernel
theorem d_Lx_readNumber_72 : decode b_Lx_readNumber 72 = .ok (.lcmp, 1) := by decide +kernel
theorem d_Lx_readNumber_73 : decode b_Lx_readNumber 73 = .ok (.ifCond .le 11, 3) := by decide +kernel
theorem d_Lx_readNumber_76 : decode b_Lx_readNumber 76 = .ok (.aload_n 0, 1) := by decide +kernel
theorem d_Lx_readNumber_77 : decode b_Lx_readNumber 77 = .ok (.sipush 300, 3) := by decide +kernel
theorem d_Lx_readNumber_80 : decode b_Lx_readNumber 80 = .ok (.putfield 15, 3) := by decide +kernel
theorem d_Lx_readNumber_83 : decode b_Lx_readNumber 83 = .ok (.return_, 1) := by decide +kernel
theorem d_Lx_readNumber_84 : decode b_Lx_readNumber 84 = .ok (.aload_n 0, 1) := by decide +kernel
theorem d_Lx_readNumber_85 : decode b_Lx_readNumber 85 = .ok (.aload_n 0, 1) := by decide +kernel
theorem d_Lx_readNumber_86 : decode b_Lx_readNumber 86 = .ok (.getfield 25, 3) := by decide +kernel
theorem d_Lx_readNumber_89 : decode b_Lx_readNumber 89 = .ok (.ldc2_w 64, 3) := by decide +kernel
theorem d_Lx_readNumber_92 : decode b_Lx_readNumber 92 = .ok (.lmul, 1) := by decide +kernel
theorem d_Lx_readNumber_93 : decode b_Lx_readNumber 93 = .ok (.iload_n 1, 1) := by decide +kernel
theorem d_Lx_readNumber_94 : decode b_Lx_readNumber 94 = .ok (.i2l, 1) := by decide +kernel
theorem d_Lx_readNumber_95 : decode b_Lx_readNumber 95 = .ok (.ladd, 1) := by decide +kernel
theorem d_Lx_readNumber_96 : decode b_Lx_readNumber 96 = .ok (.putfield 25, 3) := by decide +kernel
theorem d_Lx_readNumber_99 : decode b_Lx_readNumber 99 = .ok (.aload_n 0, 1) := by decide +kernel
theorem d_Lx_readNumber_100 : decode b_Lx_readNumber 100 = .ok (.dup, 1) := by decide +kernel
theorem d_Lx_readNumber_101 : decode b_Lx_readNumber 101 = .ok (.getfield 22, 3) := by decide +kernel
theorem d_Lx_readNumber_104 : decode b_Lx_readNumber 104 = .ok (.iconst 1, 1) := by decide +kernel
theorem d_Lx_readNumber_105 : decode b_Lx_readNumber 105 = .ok (.iadd, 1) := by decide +kernel
theorem d_Lx_readNumber_106 : decode b_Lx_readNumber 106 = .ok (.putfield 22, 3) := by decide +kernel
theorem d_Lx_readNumber_109 : decode b_Lx_readNumber 109 = .ok (.goto (-97), 3) := by decide +kernel
theorem d_Lx_readNumber_112 : decode b_Lx_readNumber 112 = .ok (.return_, 1) := by decide +kernel
theorem d_Lx_readName_0 : decode b_Lx_readName 0 = .ok (.aload_n 0, 1) := by decide +kernel
theorem d_Lx_readName_1 : decode b_Lx_readName 1 = .ok (.sipush 303, 3) := by decide +kernel
theorem d_Lx_readName_4 : decode b_Lx_readName 4 = .ok (.putfield 15, 3) := by decide +kernel
theorem d_Lx_readName_7 : decode b_Lx_readName 7 = .ok (.aload_n 0, 1) := by decide +kernel
theorem d_Lx_readName_8 : decode b_Lx_readName 8 = .ok (.getfield 22, 3) := by decide +kernel
theorem d_Lx_readName_11 : decode b_Lx_readName 11 = .ok (.aload_n 0, 1) := by decide +kernel
theorem d_Lx_readName_12 : decode b_Lx_readName 12 = .ok (.getfield 9, 3) := by decide +kernel
theorem d_Lx_readName_15 : decode b_Lx_readName 15 = .ok (.invokevirtual 32, 3) := by decide +kernel
theorem d_Lx_readName_18 : decode b_Lx_readName 18 = .ok (.if_icmp .ge 33, 3) := by decide +kernel
theorem d_Lx_readName_21 : decode b_Lx_readName 21 = .ok (.aload_n 0, 1) := by decide +kernel
theorem d_Lx_readName_22 : decode b_Lx_readName 22 = .ok (.getfield 9, 3) := by decide +kernel
theorem d_Lx_readName_25 : decode b_Lx_readName 25 = .ok (.aload_n 0, 1) := by decide +kernel
theorem d_Lx_readName_26 : decode b_Lx_readName 26 = .ok (.getfield 22, 3) := by decide +kernel
theorem d_Lx_readName_29 : decode b_Lx_readName 29 = .ok (.invokevirtual 38, 3) := by decide +kernel
theorem d_Lx_readName_32 : decode b_Lx_readName 32 = .ok (.invokestatic 49, 3) := by decide +kernel
theorem d_Lx_readName_35 : decode b_Lx_readName 35 = .ok (.ifCond .eq 16, 3) := by decide +kernel
theorem d_Lx_readName_38 : decode b_Lx_readName 38 = .ok (.aload_n 0, 1) := by decide +kernel
theorem d_Lx_readName_39 : decode b_Lx_readName 39 = .ok (.dup, 1) := by decide +kernel
theorem d_Lx_readName_40 : decode b_Lx_readName 40 = .ok (.getfield 22, 3) := by decide +kernel
theorem d_Lx_readName_43 : decode b_Lx_readName 43 = .ok (.iconst 1, 1) := by decide +kernel
theorem d_Lx_readName_44 : decode b_Lx_readName 44 = .ok (.iadd, 1) := by decide +kernel
theorem d_Lx_readName_45 : decode b_Lx_readName 45 = .ok (.putfield 22, 3) := by decide +kernel
theorem d_Lx_readName_48 : decode b_Lx_readName 48 = .ok (.goto (-41), 3) := by decide +kernel
theorem d_Lx_readName_51 : decode b_Lx_readName 51 = .ok (.return_, 1) := by decide +kernel
theorem d_Lx_readQuoted_0 : decode b_Lx_readQuoted 0 = .ok (.aload_n 0, 1) := by decide +kernel
theorem d_Lx_readQuoted_1 : decode b_Lx_readQuoted 1 = .ok (.dup, 1) := by decide +kernel
theorem d_Lx_readQuoted_2 : decode b_Lx_readQuoted 2 = .ok (.getfield 22, 3) := by decide +kernel
theorem d_Lx_readQuoted_5 : decode b_Lx_readQuoted 5 = .ok (.iconst 1, 1) := by decide +kernel
theorem d_Lx_readQuoted_6 : decode b_Lx_readQuoted 6 = .ok (.iadd, 1) := by decide +kernel
theorem d_Lx_readQuoted_7 : decode b_Lx_readQuoted 7 = .ok (.putfield 22, 3) := by decide +kernel
theorem d_Lx_readQuoted_10 : decode b_Lx_readQuoted 10 = .ok (.aload_n 0, 1) := by decide +kernel
theorem d_Lx_readQuoted_11 : decode b_Lx_readQuoted 11 = .ok (.getfield 22, 3) := by decide +kernel
theorem d_Lx_readQuoted_14 : decode b_Lx_readQuoted 14 = .ok (.aload_n 0, 1) := by decide +kernel
theorem d_Lx_readQuoted_15 : decode b_Lx_readQuoted 15 = .ok (.getfield 9, 3) := by decide +kernel
theorem d_Lx_readQuoted_18 : decode b_Lx_readQuoted 18 = .ok (.invokevirtual 32, 3) := by decide +kernel
theorem d_Lx_readQuoted_21 : decode b_Lx_readQuoted 21 = .ok (.if_icmp .ge 33, 3) := by decide +kernel
theorem d_Lx_readQuoted_24 : decode b_Lx_readQuoted 24 = .ok (.aload_n 0, 1) := by decide +kernel
theorem d_Lx_readQuoted_25 : decode b_Lx_readQuoted 25 = .ok (.getfield 9, 3) := by decide +kernel
theorem d_Lx_readQuoted_28 : decode b_Lx_readQuoted 28 = .ok (.aload_n 0, 1) := by decide +kernel
theorem d_Lx_readQuoted_29 : decode b_Lx_readQuoted 29 = .ok (.getfield 22, 3) := by decide +kernel
theorem d_Lx_readQuoted_32 : decode b_Lx_readQuoted 32 = .ok (.invokevirtual 38, 3) := by decide +kernel
theorem d_Lx_readQuoted_35 : decode b_Lx_readQuoted 35 = .ok (.invokestatic 66, 3) := by decide +kernel
theorem d_Lx_readQuoted_38 : decode b_Lx_readQuoted 38 = .ok (.ifCond .eq 16, 3) := by decide +kernel
theorem d_Lx_readQuoted_41 : decode b_Lx_readQuoted 41 = .ok (.aload_n 0, 1) := by decide +kernel
theorem d_Lx_readQuoted_42 : decode b_Lx_readQuoted 42 = .ok (.dup, 1) := by decide +kernel
theorem d_Lx_readQuoted_43 : decode b_Lx_readQuoted 43 = .ok (.getfield 22, 3) := by decide +kernel
theorem d_Lx_readQuoted_46 : decode b_Lx_readQuoted 46 = .ok (.iconst 1, 1) := by decide +kernel
theorem d_Lx_readQuoted_47 : decode b_Lx_readQuoted 47 = .ok (.iadd, 1) := by decide +kernel
theorem d_Lx_readQuoted_48 : decode b_Lx_readQuoted 48 = .ok (.putfield 22, 3) := by decide +kernel
theorem d_Lx_readQuoted_51 : decode b_Lx_readQuoted 51 = .ok (.goto (-41), 3) := by decide +kernel
theorem d_Lx_readQuoted_54 : decode b_Lx_readQuoted 54 = .ok (.aload_n 0, 1) := by decide +kernel
theorem d_Lx_readQuoted_55 : decode b_Lx_readQuoted 55 = .ok (.aload_n 0, 1) := by decide +kernel
theorem d_Lx_readQuoted_56 : decode b_Lx_readQuoted 56 = .ok (.getfield 9, 3) := by decide +kernel
theorem d_Lx_readQuoted_59 : decode b_Lx_readQuoted 59 = .ok (.aload_n 0, 1) := by decide +kernel
theorem d_Lx_readQuoted_60 : decode b_Lx_readQuoted 60 = .ok (.getfield 22, 3) := by decide +kernel
theorem d_Lx_readQuoted_63 : decode b_Lx_readQuoted 63 = .ok (.invokevirtual 38, 3) := by decide +kernel
theorem d_Lx_readQuoted_66 : decode b_Lx_readQuoted 66 = .ok (.bipush 34, 2) := by decide +kernel
theorem d_Lx_readQuoted_68 : decode b_Lx_readQuoted 68 = .ok (.if_icmp .ne 9, 3) := by decide +kernel
theorem d_Lx_readQuoted_71 : decode b_Lx_readQuoted 71 = .ok (.sipush 304, 3) := by decide +kernel
theorem d_Lx_readQuoted_74 : decode b_Lx_readQuoted 74 = .ok (.goto 6, 3) := by decide +kernel
theorem d_Lx_readQuoted_77 : decode b_Lx_readQuoted 77 = .ok (.sipush 300, 3) := by decide +kernel
theorem d_Lx_readQuoted_80 : decode b_Lx_readQuoted 80 = .ok (.putfield 15, 3) := by decide +kernel
theorem d_Lx_readQuoted_83 : decode b_Lx_readQuoted 83 = .ok (.aload_n 0, 1) := by decide +kernel
theorem d_Lx_readQuoted_84 : decode b_Lx_readQuoted 84 = .ok (.dup, 1) := by decide +kernel
theorem d_Lx_readQuoted_85 : decode b_Lx_readQuoted 85 = .ok (.getfield 22, 3) := by decide +kernel
theorem d_Lx_readQuoted_88 : decode b_Lx_readQuoted 88 = .ok (.iconst 1, 1) := by decide +kernel
theorem d_Lx_readQuoted_89 : decode b_Lx_readQuoted 89 = .ok (.iadd, 1) := by decide +kernel
theorem d_Lx_readQuoted_90 : decode b_Lx_readQuoted 90 = .ok (.putfield 22, 3) := by decide +kernel
theorem d_Lx_readQuoted_93 : decode b_Lx_readQuoted 93 = .ok (.return_, 1) := by decide +kernel
theorem d_Lx_isQuotable_0 : decode b_Lx_isQuotable 0 = .ok (.iload_n 0, 1) := by decide +kernel
theorem d_Lx_isQuotable_1 : decode b_Lx_isQuotable 1 = .ok (.bipush 32, 2) := by decide +kernel
theorem d_Lx_isQuotable_3 : decode b_Lx_isQuotable 3 = .ok (.if_icmp .lt 19, 3) := by decide +kernel
theorem d_Lx_isQuotable_6 : decode b_Lx_isQuotable 6 = .ok (.iload_n 0, 1) := by decide +kernel
theorem d_Lx_isQuotable_7 : decode b_Lx_isQuotable 7 = .ok (.bipush 126, 2) := by decide +kernel
theorem d_Lx_isQuotable_9 : decode b_Lx_isQuotable 9 = .ok (.if_icmp .gt 13, 3) := by decide +kernel
theorem d_Lx_isQuotable_12 : decode b_Lx_isQuotable 12 = .ok (.iload_n 0, 1) := by decide +kernel
theorem d_Lx_isQuotable_13 : decode b_Lx_isQuotable 13 = .ok (.bipush 34, 2) := by decide +kernel
theorem d_Lx_isQuotable_15 : decode b_Lx_isQuotable 15 = .ok (.if_icmp .eq 7, 3) := by decide +kernel
theorem d_Lx_isQuotable_18 : decode b_Lx_isQuotable 18 = .ok (.iconst 1, 1) := by decide +kernel
theorem d_Lx_isQuotable_19 : decode b_Lx_isQuotable 19 = .ok (.goto 4, 3) := by decide +kernel
theorem d_Lx_isQuotable_22 : decode b_Lx_isQuotable 22 = .ok (.iconst 0, 1) := by decide +kernel
theorem d_Lx_isQuotable_23 : decode b_Lx_isQuotable 23 = .ok (.ireturn, 1) := by decide +kernel
theorem d_Lx_readSign_0 : decode b_Lx_readSign 0 = .ok (.aload_n 0, 1) := by decide +kernel
theorem d_Lx_readSign_1 : decode b_Lx_readSign 1 = .ok (.iload_n 1, 1) := by decide +kernel
theorem d_Lx_readSign_2 : decode b_Lx_readSign 2 = .ok (.iload_n 2, 1) := by decide +kernel
theorem d_Lx_readSign_3 : decode b_Lx_readSign 3 = .ok (.invokestatic 69, 3) := by decide +kernel
theorem d_Lx_readSign_6 : decode b_Lx_readSign 6 = .ok (.putfield 15, 3) := by decide +kernel
theorem d_Lx_readSign_9 : decode b_Lx_readSign 9 = .ok (.aload_n 0, 1) := by decide +kernel
theorem d_Lx_readSign_10 : decode b_Lx_readSign 10 = .ok (.getfield 15, 3) := by decide +kernel
theorem d_Lx_readSign_13 : decode b_Lx_readSign 13 = .ok (.sipush 305, 3) := by decide +kernel
theorem d_Lx_readSign_16 : decode b_Lx_readSign 16 = .ok (.if_icmp .eq 23, 3) := by decide +kernel
theorem d_Lx_readSign_19 : decode b_Lx_readSign 19 = .ok (.aload_n 0, 1) := by decide +kernel
theorem d_Lx_readSign_20 : decode b_Lx_readSign 20 = .ok (.getfield 15, 3) := by decide +kernel
theorem d_Lx_readSign_23 : decode b_Lx_readSign 23 = .ok (.sipush 306, 3) := by decide +kernel
theorem d_Lx_readSign_26 : decode b_Lx_readSign 26 = .ok (.if_icmp .eq 13, 3) := by decide +kernel
theorem d_Lx_readSign_29 : decode b_Lx_readSign 29 = .ok (.aload_n 0, 1) := by decide +kernel
theorem d_Lx_readSign_30 : decode b_Lx_readSign 30 = .ok (.getfield 15, 3) := by decide +kernel
theorem d_Lx_readSign_33 : decode b_Lx_readSign 33 = .ok (.sipush 307, 3) := by decide +kernel
theorem d_Lx_readSign_36 : decode b_Lx_readSign 36 = .ok (.if_icmp .ne 7, 3) := by decide +kernel
theorem d_Lx_readSign_39 : decode b_Lx_readSign 39 = .ok (.iconst 1, 1) := by decide +kernel
theorem d_Lx_readSign_40 : decode b_Lx_readSign 40 = .ok (.goto 4, 3) := by decide +kernel
theorem d_Lx_readSign_43 : decode b_Lx_readSign 43 = .ok (.iconst 0, 1) := by decide +kernel
theorem d_Lx_readSign_44 : decode b_Lx_readSign 44 = .ok (.istore_n 3, 1) := by decide +kernel
theorem d_Lx_readSign_45 : decode b_Lx_readSign 45 = .ok (.aload_n 0, 1) := by decide +kernel
theorem d_Lx_readSign_46 : decode b_Lx_readSign 46 = .ok (.dup, 1) := by decide +kernel
theorem d_Lx_readSign_47 : decode b_Lx_readSign 47 = .ok (.getfield 22, 3) := by decide +kernel
theorem d_Lx_readSign_50 : decode b_Lx_readSign 50 = .ok (.iload_n 3, 1) := by decide +kernel
theorem d_Lx_readSign_51 : decode b_Lx_readSign 51 = .ok (.ifCond .eq 7, 3) := by decide +kernel
theorem d_Lx_readSign_54 : decode b_Lx_readSign 54 = .ok (.iconst 2, 1) := by decide +kernel
theorem d_Lx_readSign_55 : decode b_Lx_readSign 55 = .ok (.goto 4, 3) := by decide +kernel
theorem d_Lx_readSign_58 : decode b_Lx_readSign 58 = .ok (.iconst 1, 1) := by decide +kernel
theorem d_Lx_readSign_59 : decode b_Lx_readSign 59 = .ok (.iadd, 1) := by decide +kernel
theorem d_Lx_readSign_60 : decode b_Lx_readSign 60 = .ok (.putfield 22, 3) := by decide +kernel
theorem d_Lx_readSign_63 : decode b_Lx_readSign 63 = .ok (.return_, 1) := by decide +kernel
theorem d_Lx_signKind_0 : decode b_Lx_signKind 0 = .ok (.iload_n 0, 1) := by decide +kernel
theorem d_Lx_signKind_1 : decode b_Lx_signKind 1 = .ok (.lookupswitch 161 #[(33, 133), (37, 115), (40, 115), (41, 115), (42, 115), (43, 115), (44, 115), (45, 115), (47, 115), (61, 115), (94, 117), (123, 115), (125, 115)], 115) := by decide +kernel
theorem d_Lx_signKind_116 : decode b_Lx_signKind 116 = .ok (.iload_n 0, 1) := by decide +kernel
theorem d_Lx_signKind_117 : decode b_Lx_signKind 117 = .ok (.ireturn, 1) := by decide +kernel
theorem d_Lx_signKind_118 : decode b_Lx_signKind 118 = .ok (.iload_n 1, 1) := by decide +kernel
theorem d_Lx_signKind_119 : decode b_Lx_signKind 119 = .ok (.bipush 61, 2) := by decide +kernel
theorem d_Lx_signKind_121 : decode b_Lx_signKind 121 = .ok (.if_icmp .ne 9, 3) := by decide +kernel
theorem d_Lx_signKind_124 : decode b_Lx_signKind 124 = .ok (.sipush 306, 3) := by decide +kernel
theorem d_Lx_signKind_127 : decode b_Lx_signKind 127 = .ok (.goto 6, 3) := by decide +kernel
theorem d_Lx_signKind_130 : decode b_Lx_signKind 130 = .ok (.sipush 300, 3) := by decide +kernel
theorem d_Lx_signKind_133 : decode b_Lx_signKind 133 = .ok (.ireturn, 1) := by decide +kernel
theorem d_Lx_signKind_134 : decode b_Lx_signKind 134 = .ok (.iload_n 1, 1) := by decide +kernel
theorem d_Lx_signKind_135 : decode b_Lx_signKind 135 = .ok (.bipush 61, 2) := by decide +kernel
theorem d_Lx_signKind_137 : decode b_Lx_signKind 137 = .ok (.if_icmp .ne 9, 3) := by decide +kernel
theorem d_Lx_signKind_140 : decode b_Lx_signKind 140 = .ok (.sipush 305, 3) := by decide +kernel
theorem d_Lx_signKind_143 : decode b_Lx_signKind 143 = .ok (.goto 18, 3) := by decide +kernel
theorem d_Lx_signKind_146 : decode b_Lx_signKind 146 = .ok (.iload_n 1, 1) := by decide +kernel
theorem d_Lx_signKind_147 : decode b_Lx_signKind 147 = .ok (.bipush 94, 2) := by decide +kernel
theorem d_Lx_signKind_149 : decode b_Lx_signKind 149 = .ok (.if_icmp .ne 9, 3) := by decide +kernel
theorem d_Lx_signKind_152 : decode b_Lx_signKind 152 = .ok (.sipush 307, 3) := by decide +kernel
theorem d_Lx_signKind_155 : decode b_Lx_signKind 155 = .ok (.goto 6, 3) := by decide +kernel
theorem d_Lx_signKind_158 : decode b_Lx_signKind 158 = .ok (.sipush 300, 3) := by decide +kernel
theorem d_Lx_signKind_161 : decode b_Lx_signKind 161 = .ok (.ireturn, 1) := by decide +kernel
theorem d_Lx_signKind_162 : decode b_Lx_signKind 162 = .ok (.sipush 300, 3) := by decide +kernel
theorem d_Lx_signKind_165 : decode b_Lx_signKind 165 = .ok (.ireturn, 1) := by decide +kernel
theorem d_Lx_spells_0 : decode b_Lx_spells 0 = .ok (.aload_n 0, 1) := by decide +kernel
theorem d_Lx_spells_1 : decode b_Lx_spells 1 = .ok (.getfield 15, 3) := by decide +kernel
theorem d_Lx_spells_4 : decode b_Lx_spells 4 = .ok (.sipush 303, 3) := by decide +kernel
theorem d_Lx_spells_7 : decode b_Lx_spells 7 = .ok (.if_icmp .ne 19, 3) := by decide +kernel
theorem d_Lx_spells_10 : decode b_Lx_spells 10 = .ok (.aload_n 0, 1) := by decide +kernel
theorem d_Lx_spells_11 : decode b_Lx_spells 11 = .ok (.getfield 22, 3) := by decide +kernel
theorem d_Lx_spells_14 : decode b_Lx_spells 14 = .ok (.aload_n 0, 1) := by decide +kernel
theorem d_Lx_spells_15 : decode b_Lx_spells 15 = .ok (.getfield 19, 3) := by decide +kernel
theorem d_Lx_spells_18 : decode b_Lx_spells 18 = .ok (.isub, 1) := by decide +kernel
theorem d_Lx_spells_19 : decode b_Lx_spells 19 = .ok (.aload_n 1, 1) := by decide +kernel
theorem d_Lx_spells_20 : decode b_Lx_spells 20 = .ok (.invokevirtual 73, 3) := by decide +kernel
theorem d_Lx_spells_23 : decode b_Lx_spells 23 = .ok (.if_icmp .eq 5, 3) := by decide +kernel
theorem d_Lx_spells_26 : decode b_Lx_spells 26 = .ok (.iconst 0, 1) := by decide +kernel
theorem d_Lx_spells_27 : decode b_Lx_spells 27 = .ok (.ireturn, 1) := by decide +kernel
theorem d_Lx_spells_28 : decode b_Lx_spells 28 = .ok (.iconst 0, 1) := by decide +kernel
theorem d_Lx_spells_29 : decode b_Lx_spells 29 = .ok (.istore_n 2, 1) := by decide +kernel
theorem d_Lx_spells_30 : decode b_Lx_spells 30 = .ok (.iload_n 2, 1) := by decide +kernel
theorem d_Lx_spells_31 : decode b_Lx_spells 31 = .ok (.aload_n 1, 1) := by decide +kernel
theorem d_Lx_spells_32 : decode b_Lx_spells 32 = .ok (.invokevirtual 73, 3) := by decide +kernel
theorem d_Lx_spells_35 : decode b_Lx_spells 35 = .ok (.if_icmp .ge 32, 3) := by decide +kernel
theorem d_Lx_spells_38 : decode b_Lx_spells 38 = .ok (.aload_n 0, 1) := by decide +kernel
theorem d_Lx_spells_39 : decode b_Lx_spells 39 = .ok (.getfield 9, 3) := by decide +kernel
theorem d_Lx_spells_42 : decode b_Lx_spells 42 = .ok (.aload_n 0, 1) := by decide +kernel
theorem d_Lx_spells_43 : decode b_Lx_spells 43 = .ok (.getfield 19, 3) := by decide +kernel
theorem d_Lx_spells_46 : decode b_Lx_spells 46 = .ok (.iload_n 2, 1) := by decide +kernel
theorem d_Lx_spells_47 : decode b_Lx_spells 47 = .ok (.iadd, 1) := by decide +kernel
theorem d_Lx_spells_48 : decode b_Lx_spells 48 = .ok (.invokevirtual 38, 3) := by decide +kernel
theorem d_Lx_spells_51 : decode b_Lx_spells 51 = .ok (.aload_n 1, 1) := by decide +kernel
theorem d_Lx_spells_52 : decode b_Lx_spells 52 = .ok (.iload_n 2, 1) := by decide +kernel
theorem d_Lx_spells_53 : decode b_Lx_spells 53 = .ok (.invokevirtual 78, 3) := by decide +kernel
theorem d_Lx_spells_56 : decode b_Lx_spells 56 = .ok (.if_icmp .eq 5, 3) := by decide +kernel
theorem d_Lx_spells_59 : decode b_Lx_spells 59 = .ok (.iconst 0, 1) := by decide +kernel
theorem d_Lx_spells_60 : decode b_Lx_spells 60 = .ok (.ireturn, 1) := by decide +kernel
theorem d_Lx_spells_61 : decode b_Lx_spells 61 = .ok (.iinc 2 1, 3) := by decide +kernel
theorem d_Lx_spells_64 : decode b_Lx_spells 64 = .ok (.goto (-34), 3) := by decide +kernel
theorem d_Lx_spells_67 : decode b_Lx_spells 67 = .ok (.iconst 1, 1) := by decide +kernel
theorem d_Lx_spells_68 : decode b_Lx_spells 68 = .ok (.ireturn, 1) := by decide +kernel

set_option maxHeartbeats 4000000 in
set_option maxRecDepth 100000 in
theorem c_Lx_kind (l : Launch) (D : jd_T) (a : Nat) (f_tape : Value) (f_kind : Int) (f_at : Int) (f_behind : Int) (f_number : Int64)  : jc_C l D y_Lx_kind b_Lx_kind 1 (some .int) { frames := 0, cells := 0, slots := 0, locals := 0 } [.ref a] [ob D a 5 [f_tape, .int (ii f_kind), .int (ii f_at), .int (ii f_behind), .long f_number]] (fun _ : Unit => (.returned (some (.int (ii f_kind))), True, [ob D a 5 [f_tape, .int (ii f_kind), .int (ii f_at), .int (ii f_behind), .long f_number]])) := by
  refine jc_of rfl (Nat.le_of_ble_eq_true rfl) ?_
  intro X hl hR hN ok hnm fin
  subst hl
  show jw X 0 0 [ob D a 5 [f_tape, .int (ii f_kind), .int (ii f_at), .int (ii f_behind), .long f_number]] [(0, .ref a)] 0 []
  refine jr_aload_n ok 0 d_Lx_kind_0 rfl rfl ?_
  refine jr_get ok 0 f_Lx_15 rfl rfl d_Lx_kind_1 ?_
  exact jr_iret ok fin (Nat.le_refl _) (Nat.le_refl _) () rfl trivial sg_same d_Lx_kind_4

set_option maxHeartbeats 4000000 in
set_option maxRecDepth 100000 in
theorem c_Lx_at (l : Launch) (D : jd_T) (a : Nat) (f_tape : Value) (f_kind : Int) (f_at : Int) (f_behind : Int) (f_number : Int64)  : jc_C l D y_Lx_at b_Lx_at 1 (some .int) { frames := 0, cells := 0, slots := 0, locals := 0 } [.ref a] [ob D a 5 [f_tape, .int (ii f_kind), .int (ii f_at), .int (ii f_behind), .long f_number]] (fun _ : Unit => (.returned (some (.int (ii f_at))), True, [ob D a 5 [f_tape, .int (ii f_kind), .int (ii f_at), .int (ii f_behind), .long f_number]])) := by
  refine jc_of rfl (Nat.le_of_ble_eq_true rfl) ?_
  intro X hl hR hN ok hnm fin
  subst hl
  show jw X 0 0 [ob D a 5 [f_tape, .int (ii f_kind), .int (ii f_at), .int (ii f_behind), .long f_number]] [(0, .ref a)] 0 []
  refine jr_aload_n ok 0 d_Lx_at_0 rfl rfl ?_
  refine jr_get ok 0 f_Lx_19 rfl rfl d_Lx_at_1 ?_
  exact jr_iret ok fin (Nat.le_refl _) (Nat.le_refl _) () rfl trivial sg_same d_Lx_at_4

set_option maxHeartbeats 4000000 in
set_option maxRecDepth 100000 in
theorem c_Lx_behind (l : Launch) (D : jd_T) (a : Nat) (f_tape : Value) (f_kind : Int) (f_at : Int) (f_behind : Int) (f_number : Int64)  : jc_C l D y_Lx_behind b_Lx_behind 1 (some .int) { frames := 0, cells := 0, slots := 0, locals := 0 } [.ref a] [ob D a 5 [f_tape, .int (ii f_kind), .int (ii f_at), .int (ii f_behind), .long f_number]] (fun _ : Unit => (.returned (some (.int (ii f_behind))), True, [ob D a 5 [f_tape, .int (ii f_kind), .int (ii f_at), .int (ii f_behind), .long f_number]])) := by
  refine jc_of rfl (Nat.le_of_ble_eq_true rfl) ?_
  intro X hl hR hN ok hnm fin
  subst hl
  show jw X 0 0 [ob D a 5 [f_tape, .int (ii f_kind), .int (ii f_at), .int (ii f_behind), .long f_number]] [(0, .ref a)] 0 []
  refine jr_aload_n ok 0 d_Lx_behind_0 rfl rfl ?_
  refine jr_get ok 0 f_Lx_22 rfl rfl d_Lx_behind_1 ?_
  exact jr_iret ok fin (Nat.le_refl _) (Nat.le_refl _) () rfl trivial sg_same d_Lx_behind_4

set_option maxHeartbeats 4000000 in
set_option maxRecDepth 100000 in
theorem c_Lx_number (l : Launch) (D : jd_T) (a : Nat) (f_tape : Value) (f_kind : Int) (f_at : Int) (f_behind : Int) (f_number : Int64)  : jc_C l D y_Lx_number b_Lx_number 1 (some .long) { frames := 0, cells := 0, slots := 0, locals := 0 } [.ref a] [ob D a 5 [f_tape, .int (ii f_kind), .int (ii f_at), .int (ii f_behind), .long f_number]] (fun _ : Unit => (.returned (some (.long f_number)), True, [ob D a 5 [f_tape, .int (ii f_kind), .int (ii f_at), .int (ii f_behind), .long f_number]])) := by
  refine jc_of rfl (Nat.le_of_ble_eq_true rfl) ?_
  intro X hl hR hN ok hnm fin
  subst hl
  show jw X 0 0 [ob D a 5 [f_tape, .int (ii f_kind), .int (ii f_at), .int (ii f_behind), .long f_number]] [(0, .ref a)] 0 []
  refine jr_aload_n ok 0 d_Lx_number_0 rfl rfl ?_
  refine jr_get ok 0 f_Lx_25 rfl rfl d_Lx_number_1 ?_
  exact jr_lret ok fin (Nat.le_refl _) (Nat.le_refl _) () rfl trivial sg_same d_Lx_number_4

