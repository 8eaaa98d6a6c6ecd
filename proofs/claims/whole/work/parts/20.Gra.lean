theorem d_Gr_init_0 : decode b_Gr_init 0 = .ok (.aload_n 0, 1) := by decide +kernel
theorem d_Gr_init_1 : decode b_Gr_init 1 = .ok (.invokespecial 3, 3) := by decide +kernel
theorem d_Gr_init_4 : decode b_Gr_init 4 = .ok (.aload_n 0, 1) := by decide +kernel
theorem d_Gr_init_5 : decode b_Gr_init 5 = .ok (.sipush 1536, 3) := by decide +kernel
theorem d_Gr_init_8 : decode b_Gr_init 8 = .ok (.newarray .int, 2) := by decide +kernel
theorem d_Gr_init_10 : decode b_Gr_init 10 = .ok (.putfield 9, 3) := by decide +kernel
theorem d_Gr_init_13 : decode b_Gr_init 13 = .ok (.aload_n 0, 1) := by decide +kernel
theorem d_Gr_init_14 : decode b_Gr_init 14 = .ok (.sipush 256, 3) := by decide +kernel
theorem d_Gr_init_17 : decode b_Gr_init 17 = .ok (.newarray .int, 2) := by decide +kernel
theorem d_Gr_init_19 : decode b_Gr_init 19 = .ok (.putfield 15, 3) := by decide +kernel
theorem d_Gr_init_22 : decode b_Gr_init 22 = .ok (.aload_n 0, 1) := by decide +kernel
theorem d_Gr_init_23 : decode b_Gr_init 23 = .ok (.sipush 256, 3) := by decide +kernel
theorem d_Gr_init_26 : decode b_Gr_init 26 = .ok (.newarray .int, 2) := by decide +kernel
theorem d_Gr_init_28 : decode b_Gr_init 28 = .ok (.putfield 18, 3) := by decide +kernel
theorem d_Gr_init_31 : decode b_Gr_init 31 = .ok (.aload_n 0, 1) := by decide +kernel
theorem d_Gr_init_32 : decode b_Gr_init 32 = .ok (.sipush 256, 3) := by decide +kernel
theorem d_Gr_init_35 : decode b_Gr_init 35 = .ok (.newarray .int, 2) := by decide +kernel
theorem d_Gr_init_37 : decode b_Gr_init 37 = .ok (.putfield 21, 3) := by decide +kernel
theorem d_Gr_init_40 : decode b_Gr_init 40 = .ok (.aload_n 0, 1) := by decide +kernel
theorem d_Gr_init_41 : decode b_Gr_init 41 = .ok (.aload_n 1, 1) := by decide +kernel
theorem d_Gr_init_42 : decode b_Gr_init 42 = .ok (.putfield 24, 3) := by decide +kernel
theorem d_Gr_init_45 : decode b_Gr_init 45 = .ok (.aload_n 0, 1) := by decide +kernel
theorem d_Gr_init_46 : decode b_Gr_init 46 = .ok (.aload_n 2, 1) := by decide +kernel
theorem d_Gr_init_47 : decode b_Gr_init 47 = .ok (.putfield 28, 3) := by decide +kernel
theorem d_Gr_init_50 : decode b_Gr_init 50 = .ok (.aload_n 0, 1) := by decide +kernel
theorem d_Gr_init_51 : decode b_Gr_init 51 = .ok (.aload_n 3, 1) := by decide +kernel
theorem d_Gr_init_52 : decode b_Gr_init 52 = .ok (.putfield 32, 3) := by decide +kernel
theorem d_Gr_init_55 : decode b_Gr_init 55 = .ok (.return_, 1) := by decide +kernel
theorem d_Gr_nameCount_0 : decode b_Gr_nameCount 0 = .ok (.aload_n 0, 1) := by decide +kernel
theorem d_Gr_nameCount_1 : decode b_Gr_nameCount 1 = .ok (.getfield 36, 3) := by decide +kernel
theorem d_Gr_nameCount_4 : decode b_Gr_nameCount 4 = .ok (.ireturn, 1) := by decide +kernel
theorem d_Gr_size_0 : decode b_Gr_size 0 = .ok (.aload_n 0, 1) := by decide +kernel
theorem d_Gr_size_1 : decode b_Gr_size 1 = .ok (.getfield 40, 3) := by decide +kernel
theorem d_Gr_size_4 : decode b_Gr_size 4 = .ok (.ireturn, 1) := by decide +kernel
theorem d_Gr_groupOf_0 : decode b_Gr_groupOf 0 = .ok (.iload_n 1, 1) := by decide +kernel
theorem d_Gr_groupOf_1 : decode b_Gr_groupOf 1 = .ok (.ifCond .lt 21, 3) := by decide +kernel
theorem d_Gr_groupOf_4 : decode b_Gr_groupOf 4 = .ok (.iload_n 1, 1) := by decide +kernel
theorem d_Gr_groupOf_5 : decode b_Gr_groupOf 5 = .ok (.aload_n 0, 1) := by decide +kernel
theorem d_Gr_groupOf_6 : decode b_Gr_groupOf 6 = .ok (.getfield 18, 3) := by decide +kernel
theorem d_Gr_groupOf_9 : decode b_Gr_groupOf 9 = .ok (.arraylength, 1) := by decide +kernel
theorem d_Gr_groupOf_10 : decode b_Gr_groupOf 10 = .ok (.if_icmp .ge 12, 3) := by decide +kernel
theorem d_Gr_groupOf_13 : decode b_Gr_groupOf 13 = .ok (.aload_n 0, 1) := by decide +kernel
theorem d_Gr_groupOf_14 : decode b_Gr_groupOf 14 = .ok (.getfield 18, 3) := by decide +kernel
theorem d_Gr_groupOf_17 : decode b_Gr_groupOf 17 = .ok (.iload_n 1, 1) := by decide +kernel
theorem d_Gr_groupOf_18 : decode b_Gr_groupOf 18 = .ok (.iaload, 1) := by decide +kernel
theorem d_Gr_groupOf_19 : decode b_Gr_groupOf 19 = .ok (.goto 4, 3) := by decide +kernel
theorem d_Gr_groupOf_22 : decode b_Gr_groupOf 22 = .ok (.iconst 0, 1) := by decide +kernel
theorem d_Gr_groupOf_23 : decode b_Gr_groupOf 23 = .ok (.ireturn, 1) := by decide +kernel
theorem d_Gr_form_0 : decode b_Gr_form 0 = .ok (.aload_n 0, 1) := by decide +kernel
theorem d_Gr_form_1 : decode b_Gr_form 1 = .ok (.iload_n 1, 1) := by decide +kernel
theorem d_Gr_form_2 : decode b_Gr_form 2 = .ok (.iconst (-1), 1) := by decide +kernel
theorem d_Gr_form_3 : decode b_Gr_form 3 = .ok (.if_icmp .ne 7, 3) := by decide +kernel
theorem d_Gr_form_6 : decode b_Gr_form 6 = .ok (.iconst 0, 1) := by decide +kernel
theorem d_Gr_form_7 : decode b_Gr_form 7 = .ok (.goto 16, 3) := by decide +kernel
theorem d_Gr_form_10 : decode b_Gr_form 10 = .ok (.aload_n 0, 1) := by decide +kernel
theorem d_Gr_form_11 : decode b_Gr_form 11 = .ok (.getfield 32, 3) := by decide +kernel
theorem d_Gr_form_14 : decode b_Gr_form 14 = .ok (.iload_n 1, 1) := by decide +kernel
theorem d_Gr_form_15 : decode b_Gr_form 15 = .ok (.invokevirtual 43, 3) := by decide +kernel
theorem d_Gr_form_18 : decode b_Gr_form 18 = .ok (.bipush 6, 2) := by decide +kernel
theorem d_Gr_form_20 : decode b_Gr_form 20 = .ok (.invokestatic 49, 3) := by decide +kernel
theorem d_Gr_form_23 : decode b_Gr_form 23 = .ok (.putfield 36, 3) := by decide +kernel
theorem d_Gr_form_26 : decode b_Gr_form 26 = .ok (.aload_n 0, 1) := by decide +kernel
theorem d_Gr_form_27 : decode b_Gr_form 27 = .ok (.iconst 0, 1) := by decide +kernel
theorem d_Gr_form_28 : decode b_Gr_form 28 = .ok (.putfield 40, 3) := by decide +kernel
theorem d_Gr_form_31 : decode b_Gr_form 31 = .ok (.aload_n 0, 1) := by decide +kernel
theorem d_Gr_form_32 : decode b_Gr_form 32 = .ok (.getfield 36, 3) := by decide +kernel
theorem d_Gr_form_35 : decode b_Gr_form 35 = .ok (.ifCond .ne 4, 3) := by decide +kernel
theorem d_Gr_form_38 : decode b_Gr_form 38 = .ok (.return_, 1) := by decide +kernel
theorem d_Gr_form_39 : decode b_Gr_form 39 = .ok (.aload_n 0, 1) := by decide +kernel
theorem d_Gr_form_40 : decode b_Gr_form 40 = .ok (.getfield 28, 3) := by decide +kernel
theorem d_Gr_form_43 : decode b_Gr_form 43 = .ok (.invokevirtual 55, 3) := by decide +kernel
theorem d_Gr_form_46 : decode b_Gr_form 46 = .ok (.sipush 256, 3) := by decide +kernel
theorem d_Gr_form_49 : decode b_Gr_form 49 = .ok (.invokestatic 49, 3) := by decide +kernel
theorem d_Gr_form_52 : decode b_Gr_form 52 = .ok (.istore_n 2, 1) := by decide +kernel
theorem d_Gr_form_53 : decode b_Gr_form 53 = .ok (.iconst 0, 1) := by decide +kernel
theorem d_Gr_form_54 : decode b_Gr_form 54 = .ok (.istore_n 3, 1) := by decide +kernel
theorem d_Gr_form_55 : decode b_Gr_form 55 = .ok (.iload_n 3, 1) := by decide +kernel
theorem d_Gr_form_56 : decode b_Gr_form 56 = .ok (.iload_n 2, 1) := by decide +kernel
theorem d_Gr_form_57 : decode b_Gr_form 57 = .ok (.if_icmp .ge 20, 3) := by decide +kernel
theorem d_Gr_form_60 : decode b_Gr_form 60 = .ok (.aload_n 0, 1) := by decide +kernel
theorem d_Gr_form_61 : decode b_Gr_form 61 = .ok (.iload_n 3, 1) := by decide +kernel
theorem d_Gr_form_62 : decode b_Gr_form 62 = .ok (.iload_n 1, 1) := by decide +kernel
theorem d_Gr_form_63 : decode b_Gr_form 63 = .ok (.invokevirtual 60, 3) := by decide +kernel
theorem d_Gr_form_66 : decode b_Gr_form 66 = .ok (.aload_n 0, 1) := by decide +kernel
theorem d_Gr_form_67 : decode b_Gr_form 67 = .ok (.iload_n 3, 1) := by decide +kernel
theorem d_Gr_form_68 : decode b_Gr_form 68 = .ok (.invokevirtual 64, 3) := by decide +kernel
theorem d_Gr_form_71 : decode b_Gr_form 71 = .ok (.iinc 3 1, 3) := by decide +kernel
theorem d_Gr_form_74 : decode b_Gr_form 74 = .ok (.goto (-19), 3) := by decide +kernel
theorem d_Gr_form_77 : decode b_Gr_form 77 = .ok (.iconst 0, 1) := by decide +kernel
theorem d_Gr_form_78 : decode b_Gr_form 78 = .ok (.istore_n 3, 1) := by decide +kernel
theorem d_Gr_form_79 : decode b_Gr_form 79 = .ok (.iload_n 3, 1) := by decide +kernel
theorem d_Gr_form_80 : decode b_Gr_form 80 = .ok (.iload_n 2, 1) := by decide +kernel
theorem d_Gr_form_81 : decode b_Gr_form 81 = .ok (.if_icmp .ge 76, 3) := by decide +kernel
theorem d_Gr_form_84 : decode b_Gr_form 84 = .ok (.iload_n 3, 1) := by decide +kernel
theorem d_Gr_form_85 : decode b_Gr_form 85 = .ok (.ifCond .eq 24, 3) := by decide +kernel
theorem d_Gr_form_88 : decode b_Gr_form 88 = .ok (.aload_n 0, 1) := by decide +kernel
theorem d_Gr_form_89 : decode b_Gr_form 89 = .ok (.aload_n 0, 1) := by decide +kernel
theorem d_Gr_form_90 : decode b_Gr_form 90 = .ok (.getfield 15, 3) := by decide +kernel
theorem d_Gr_form_93 : decode b_Gr_form 93 = .ok (.iload_n 3, 1) := by decide +kernel
theorem d_Gr_form_94 : decode b_Gr_form 94 = .ok (.iconst 1, 1) := by decide +kernel
theorem d_Gr_form_95 : decode b_Gr_form 95 = .ok (.isub, 1) := by decide +kernel
theorem d_Gr_form_96 : decode b_Gr_form 96 = .ok (.iaload, 1) := by decide +kernel
theorem d_Gr_form_97 : decode b_Gr_form 97 = .ok (.aload_n 0, 1) := by decide +kernel
theorem d_Gr_form_98 : decode b_Gr_form 98 = .ok (.getfield 15, 3) := by decide +kernel
theorem d_Gr_form_101 : decode b_Gr_form 101 = .ok (.iload_n 3, 1) := by decide +kernel
theorem d_Gr_form_102 : decode b_Gr_form 102 = .ok (.iaload, 1) := by decide +kernel
theorem d_Gr_form_103 : decode b_Gr_form 103 = .ok (.invokevirtual 68, 3) := by decide +kernel
theorem d_Gr_form_106 : decode b_Gr_form 106 = .ok (.ifCond .eq 28, 3) := by decide +kernel
theorem d_Gr_form_109 : decode b_Gr_form 109 = .ok (.aload_n 0, 1) := by decide +kernel
theorem d_Gr_form_110 : decode b_Gr_form 110 = .ok (.getfield 21, 3) := by decide +kernel
theorem d_Gr_form_113 : decode b_Gr_form 113 = .ok (.aload_n 0, 1) := by decide +kernel
theorem d_Gr_form_114 : decode b_Gr_form 114 = .ok (.getfield 40, 3) := by decide +kernel
theorem d_Gr_form_117 : decode b_Gr_form 117 = .ok (.aload_n 0, 1) := by decide +kernel
theorem d_Gr_form_118 : decode b_Gr_form 118 = .ok (.getfield 15, 3) := by decide +kernel
theorem d_Gr_form_121 : decode b_Gr_form 121 = .ok (.iload_n 3, 1) := by decide +kernel
theorem d_Gr_form_122 : decode b_Gr_form 122 = .ok (.iaload, 1) := by decide +kernel
theorem d_Gr_form_123 : decode b_Gr_form 123 = .ok (.iastore, 1) := by decide +kernel
theorem d_Gr_form_124 : decode b_Gr_form 124 = .ok (.aload_n 0, 1) := by decide +kernel
theorem d_Gr_form_125 : decode b_Gr_form 125 = .ok (.dup, 1) := by decide +kernel
theorem d_Gr_form_126 : decode b_Gr_form 126 = .ok (.getfield 40, 3) := by decide +kernel
theorem d_Gr_form_129 : decode b_Gr_form 129 = .ok (.iconst 1, 1) := by decide +kernel
theorem d_Gr_form_130 : decode b_Gr_form 130 = .ok (.iadd, 1) := by decide +kernel
theorem d_Gr_form_131 : decode b_Gr_form 131 = .ok (.putfield 40, 3) := by decide +kernel
theorem d_Gr_form_134 : decode b_Gr_form 134 = .ok (.aload_n 0, 1) := by decide +kernel
theorem d_Gr_form_135 : decode b_Gr_form 135 = .ok (.getfield 18, 3) := by decide +kernel
theorem d_Gr_form_138 : decode b_Gr_form 138 = .ok (.aload_n 0, 1) := by decide +kernel
theorem d_Gr_form_139 : decode b_Gr_form 139 = .ok (.getfield 15, 3) := by decide +kernel
theorem d_Gr_form_142 : decode b_Gr_form 142 = .ok (.iload_n 3, 1) := by decide +kernel
theorem d_Gr_form_143 : decode b_Gr_form 143 = .ok (.iaload, 1) := by decide +kernel
theorem d_Gr_form_144 : decode b_Gr_form 144 = .ok (.aload_n 0, 1) := by decide +kernel
theorem d_Gr_form_145 : decode b_Gr_form 145 = .ok (.getfield 40, 3) := by decide +kernel
theorem d_Gr_form_148 : decode b_Gr_form 148 = .ok (.iconst 1, 1) := by decide +kernel
theorem d_Gr_form_149 : decode b_Gr_form 149 = .ok (.isub, 1) := by decide +kernel
theorem d_Gr_form_150 : decode b_Gr_form 150 = .ok (.iastore, 1) := by decide +kernel
theorem d_Gr_form_151 : decode b_Gr_form 151 = .ok (.iinc 3 1, 3) := by decide +kernel
theorem d_Gr_form_154 : decode b_Gr_form 154 = .ok (.goto (-75), 3) := by decide +kernel
theorem d_Gr_form_157 : decode b_Gr_form 157 = .ok (.return_, 1) := by decide +kernel
theorem d_Gr_findLabels_0 : decode b_Gr_findLabels 0 = .ok (.aload_n 0, 1) := by decide +kernel
theorem d_Gr_findLabels_1 : decode b_Gr_findLabels 1 = .ok (.getfield 28, 3) := by decide +kernel
theorem d_Gr_findLabels_4 : decode b_Gr_findLabels 4 = .ok (.iload_n 1, 1) := by decide +kernel
theorem d_Gr_findLabels_5 : decode b_Gr_findLabels 5 = .ok (.invokevirtual 71, 3) := by decide +kernel
theorem d_Gr_findLabels_8 : decode b_Gr_findLabels 8 = .ok (.astore_n 3, 1) := by decide +kernel
theorem d_Gr_findLabels_9 : decode b_Gr_findLabels 9 = .ok (.iconst 0, 1) := by decide +kernel
theorem d_Gr_findLabels_10 : decode b_Gr_findLabels 10 = .ok (.istore 4, 2) := by decide +kernel
theorem d_Gr_findLabels_12 : decode b_Gr_findLabels 12 = .ok (.iload 4, 2) := by decide +kernel
theorem d_Gr_findLabels_14 : decode b_Gr_findLabels 14 = .ok (.aload_n 0, 1) := by decide +kernel
theorem d_Gr_findLabels_15 : decode b_Gr_findLabels 15 = .ok (.getfield 36, 3) := by decide +kernel
theorem d_Gr_findLabels_18 : decode b_Gr_findLabels 18 = .ok (.if_icmp .ge 53, 3) := by decide +kernel
theorem d_Gr_findLabels_21 : decode b_Gr_findLabels 21 = .ok (.aload_n 3, 1) := by decide +kernel
theorem d_Gr_findLabels_22 : decode b_Gr_findLabels 22 = .ok (.ifnull 49, 3) := by decide +kernel
theorem d_Gr_findLabels_25 : decode b_Gr_findLabels 25 = .ok (.aload_n 0, 1) := by decide +kernel
theorem d_Gr_findLabels_26 : decode b_Gr_findLabels 26 = .ok (.getfield 9, 3) := by decide +kernel
theorem d_Gr_findLabels_29 : decode b_Gr_findLabels 29 = .ok (.iload_n 1, 1) := by decide +kernel
theorem d_Gr_findLabels_30 : decode b_Gr_findLabels 30 = .ok (.bipush 6, 2) := by decide +kernel
theorem d_Gr_findLabels_32 : decode b_Gr_findLabels 32 = .ok (.imul, 1) := by decide +kernel
theorem d_Gr_findLabels_33 : decode b_Gr_findLabels 33 = .ok (.iload 4, 2) := by decide +kernel
theorem d_Gr_findLabels_35 : decode b_Gr_findLabels 35 = .ok (.iadd, 1) := by decide +kernel
theorem d_Gr_findLabels_36 : decode b_Gr_findLabels 36 = .ok (.aload_n 3, 1) := by decide +kernel
theorem d_Gr_findLabels_37 : decode b_Gr_findLabels 37 = .ok (.aload_n 0, 1) := by decide +kernel
theorem d_Gr_findLabels_38 : decode b_Gr_findLabels 38 = .ok (.getfield 24, 3) := by decide +kernel
theorem d_Gr_findLabels_41 : decode b_Gr_findLabels 41 = .ok (.aload_n 0, 1) := by decide +kernel
theorem d_Gr_findLabels_42 : decode b_Gr_findLabels 42 = .ok (.getfield 32, 3) := by decide +kernel
theorem d_Gr_findLabels_45 : decode b_Gr_findLabels 45 = .ok (.iload_n 2, 1) := by decide +kernel
theorem d_Gr_findLabels_46 : decode b_Gr_findLabels 46 = .ok (.iload 4, 2) := by decide +kernel
theorem d_Gr_findLabels_48 : decode b_Gr_findLabels 48 = .ok (.invokevirtual 75, 3) := by decide +kernel
theorem d_Gr_findLabels_51 : decode b_Gr_findLabels 51 = .ok (.aload_n 0, 1) := by decide +kernel
theorem d_Gr_findLabels_52 : decode b_Gr_findLabels 52 = .ok (.getfield 32, 3) := by decide +kernel
theorem d_Gr_findLabels_55 : decode b_Gr_findLabels 55 = .ok (.iload_n 2, 1) := by decide +kernel
theorem d_Gr_findLabels_56 : decode b_Gr_findLabels 56 = .ok (.iload 4, 2) := by decide +kernel
theorem d_Gr_findLabels_58 : decode b_Gr_findLabels 58 = .ok (.invokevirtual 78, 3) := by decide +kernel
theorem d_Gr_findLabels_61 : decode b_Gr_findLabels 61 = .ok (.invokevirtual 81, 3) := by decide +kernel
theorem d_Gr_findLabels_64 : decode b_Gr_findLabels 64 = .ok (.iastore, 1) := by decide +kernel
theorem d_Gr_findLabels_65 : decode b_Gr_findLabels 65 = .ok (.iinc 4 1, 3) := by decide +kernel
theorem d_Gr_findLabels_68 : decode b_Gr_findLabels 68 = .ok (.goto (-56), 3) := by decide +kernel
theorem d_Gr_findLabels_71 : decode b_Gr_findLabels 71 = .ok (.return_, 1) := by decide +kernel
theorem d_Gr_putInOrder_0 : decode b_Gr_putInOrder 0 = .ok (.iconst 0, 1) := by decide +kernel
theorem d_Gr_putInOrder_1 : decode b_Gr_putInOrder 1 = .ok (.istore_n 2, 1) := by decide +kernel
theorem d_Gr_putInOrder_2 : decode b_Gr_putInOrder 2 = .ok (.iload_n 1, 1) := by decide +kernel
theorem d_Gr_putInOrder_3 : decode b_Gr_putInOrder 3 = .ok (.istore_n 3, 1) := by decide +kernel
theorem d_Gr_putInOrder_4 : decode b_Gr_putInOrder 4 = .ok (.iconst 0, 1) := by decide +kernel
theorem d_Gr_putInOrder_5 : decode b_Gr_putInOrder 5 = .ok (.istore 4, 2) := by decide +kernel
theorem d_Gr_putInOrder_7 : decode b_Gr_putInOrder 7 = .ok (.iload 4, 2) := by decide +kernel
theorem d_Gr_putInOrder_9 : decode b_Gr_putInOrder 9 = .ok (.bipush 32, 2) := by decide +kernel
theorem d_Gr_putInOrder_11 : decode b_Gr_putInOrder 11 = .ok (.if_icmp .ge 47, 3) := by decide +kernel
theorem d_Gr_putInOrder_14 : decode b_Gr_putInOrder 14 = .ok (.iload_n 2, 1) := by decide +kernel
theorem d_Gr_putInOrder_15 : decode b_Gr_putInOrder 15 = .ok (.iload_n 3, 1) := by decide +kernel
theorem d_Gr_putInOrder_16 : decode b_Gr_putInOrder 16 = .ok (.if_icmp .ge 42, 3) := by decide +kernel
theorem d_Gr_putInOrder_19 : decode b_Gr_putInOrder 19 = .ok (.iload_n 2, 1) := by decide +kernel
theorem d_Gr_putInOrder_20 : decode b_Gr_putInOrder 20 = .ok (.iload_n 3, 1) := by decide +kernel
theorem d_Gr_putInOrder_21 : decode b_Gr_putInOrder 21 = .ok (.iadd, 1) := by decide +kernel
theorem d_Gr_putInOrder_22 : decode b_Gr_putInOrder 22 = .ok (.iconst 2, 1) := by decide +kernel
theorem d_Gr_putInOrder_23 : decode b_Gr_putInOrder 23 = .ok (.idiv, 1) := by decide +kernel
theorem d_Gr_putInOrder_24 : decode b_Gr_putInOrder 24 = .ok (.istore 5, 2) := by decide +kernel
theorem d_Gr_putInOrder_26 : decode b_Gr_putInOrder 26 = .ok (.aload_n 0, 1) := by decide +kernel
theorem d_Gr_putInOrder_27 : decode b_Gr_putInOrder 27 = .ok (.aload_n 0, 1) := by decide +kernel
theorem d_Gr_putInOrder_28 : decode b_Gr_putInOrder 28 = .ok (.getfield 15, 3) := by decide +kernel
theorem d_Gr_putInOrder_31 : decode b_Gr_putInOrder 31 = .ok (.iload 5, 2) := by decide +kernel
theorem d_Gr_putInOrder_33 : decode b_Gr_putInOrder 33 = .ok (.iaload, 1) := by decide +kernel
theorem d_Gr_putInOrder_34 : decode b_Gr_putInOrder 34 = .ok (.iload_n 1, 1) := by decide +kernel
theorem d_Gr_putInOrder_35 : decode b_Gr_putInOrder 35 = .ok (.invokevirtual 68, 3) := by decide +kernel
theorem d_Gr_putInOrder_38 : decode b_Gr_putInOrder 38 = .ok (.ifCond .gt 11, 3) := by decide +kernel
theorem d_Gr_putInOrder_41 : decode b_Gr_putInOrder 41 = .ok (.iload 5, 2) := by decide +kernel
theorem d_Gr_putInOrder_43 : decode b_Gr_putInOrder 43 = .ok (.iconst 1, 1) := by decide +kernel
theorem d_Gr_putInOrder_44 : decode b_Gr_putInOrder 44 = .ok (.iadd, 1) := by decide +kernel
theorem d_Gr_putInOrder_45 : decode b_Gr_putInOrder 45 = .ok (.istore_n 2, 1) := by decide +kernel
theorem d_Gr_putInOrder_46 : decode b_Gr_putInOrder 46 = .ok (.goto 6, 3) := by decide +kernel
theorem d_Gr_putInOrder_49 : decode b_Gr_putInOrder 49 = .ok (.iload 5, 2) := by decide +kernel
theorem d_Gr_putInOrder_51 : decode b_Gr_putInOrder 51 = .ok (.istore_n 3, 1) := by decide +kernel
theorem d_Gr_putInOrder_52 : decode b_Gr_putInOrder 52 = .ok (.iinc 4 1, 3) := by decide +kernel
theorem d_Gr_putInOrder_55 : decode b_Gr_putInOrder 55 = .ok (.goto (-48), 3) := by decide +kernel
theorem d_Gr_putInOrder_58 : decode b_Gr_putInOrder 58 = .ok (.aload_n 0, 1) := by decide +kernel
theorem d_Gr_putInOrder_59 : decode b_Gr_putInOrder 59 = .ok (.getfield 15, 3) := by decide +kernel
theorem d_Gr_putInOrder_62 : decode b_Gr_putInOrder 62 = .ok (.iload_n 2, 1) := by decide +kernel
theorem d_Gr_putInOrder_63 : decode b_Gr_putInOrder 63 = .ok (.aload_n 0, 1) := by decide +kernel
theorem d_Gr_putInOrder_64 : decode b_Gr_putInOrder 64 = .ok (.getfield 15, 3) := by decide +kernel
theorem d_Gr_putInOrder_67 : decode b_Gr_putInOrder 67 = .ok (.iload_n 2, 1) := by decide +kernel
theorem d_Gr_putInOrder_68 : decode b_Gr_putInOrder 68 = .ok (.iconst 1, 1) := by decide +kernel
theorem d_Gr_putInOrder_69 : decode b_Gr_putInOrder 69 = .ok (.iadd, 1) := by decide +kernel
theorem d_Gr_putInOrder_70 : decode b_Gr_putInOrder 70 = .ok (.iload_n 1, 1) := by decide +kernel
theorem d_Gr_putInOrder_71 : decode b_Gr_putInOrder 71 = .ok (.iload_n 2, 1) := by decide +kernel
theorem d_Gr_putInOrder_72 : decode b_Gr_putInOrder 72 = .ok (.isub, 1) := by decide +kernel
theorem d_Gr_putInOrder_73 : decode b_Gr_putInOrder 73 = .ok (.invokestatic 87, 3) := by decide +kernel
theorem d_Gr_putInOrder_76 : decode b_Gr_putInOrder 76 = .ok (.aload_n 0, 1) := by decide +kernel
theorem d_Gr_putInOrder_77 : decode b_Gr_putInOrder 77 = .ok (.getfield 15, 3) := by decide +kernel
theorem d_Gr_putInOrder_80 : decode b_Gr_putInOrder 80 = .ok (.iload_n 2, 1) := by decide +kernel
theorem d_Gr_putInOrder_81 : decode b_Gr_putInOrder 81 = .ok (.iload_n 1, 1) := by decide +kernel
theorem d_Gr_putInOrder_82 : decode b_Gr_putInOrder 82 = .ok (.iastore, 1) := by decide +kernel
theorem d_Gr_putInOrder_83 : decode b_Gr_putInOrder 83 = .ok (.return_, 1) := by decide +kernel
theorem d_Gr_compare_0 : decode b_Gr_compare 0 = .ok (.aload_n 0, 1) := by decide +kernel
theorem d_Gr_compare_1 : decode b_Gr_compare 1 = .ok (.getfield 28, 3) := by decide +kernel
theorem d_Gr_compare_4 : decode b_Gr_compare 4 = .ok (.iload_n 1, 1) := by decide +kernel
theorem d_Gr_compare_5 : decode b_Gr_compare 5 = .ok (.invokevirtual 71, 3) := by decide +kernel
theorem d_Gr_compare_8 : decode b_Gr_compare 8 = .ok (.astore_n 3, 1) := by decide +kernel
theorem d_Gr_compare_9 : decode b_Gr_compare 9 = .ok (.aload_n 0, 1) := by decide +kernel
theorem d_Gr_compare_10 : decode b_Gr_compare 10 = .ok (.getfield 28, 3) := by decide +kernel
theorem d_Gr_compare_13 : decode b_Gr_compare 13 = .ok (.iload_n 2, 1) := by decide +kernel
theorem d_Gr_compare_14 : decode b_Gr_compare 14 = .ok (.invokevirtual 71, 3) := by decide +kernel
theorem d_Gr_compare_17 : decode b_Gr_compare 17 = .ok (.astore 4, 2) := by decide +kernel
theorem d_Gr_compare_19 : decode b_Gr_compare 19 = .ok (.aload_n 3, 1) := by decide +kernel
theorem d_Gr_compare_20 : decode b_Gr_compare 20 = .ok (.ifnull 8, 3) := by decide +kernel
theorem d_Gr_compare_23 : decode b_Gr_compare 23 = .ok (.aload 4, 2) := by decide +kernel
theorem d_Gr_compare_25 : decode b_Gr_compare 25 = .ok (.ifnonnull 5, 3) := by decide +kernel
theorem d_Gr_compare_28 : decode b_Gr_compare 28 = .ok (.iconst 0, 1) := by decide +kernel
theorem d_Gr_compare_29 : decode b_Gr_compare 29 = .ok (.ireturn, 1) := by decide +kernel
theorem d_Gr_compare_30 : decode b_Gr_compare 30 = .ok (.iconst 0, 1) := by decide +kernel
theorem d_Gr_compare_31 : decode b_Gr_compare 31 = .ok (.istore 5, 2) := by decide +kernel
theorem d_Gr_compare_33 : decode b_Gr_compare 33 = .ok (.iload 5, 2) := by decide +kernel
theorem d_Gr_compare_35 : decode b_Gr_compare 35 = .ok (.aload_n 0, 1) := by decide +kernel
theorem d_Gr_compare_36 : decode b_Gr_compare 36 = .ok (.getfield 36, 3) := by decide +kernel
theorem d_Gr_compare_39 : decode b_Gr_compare 39 = .ok (.if_icmp .ge 39, 3) := by decide +kernel
theorem d_Gr_compare_42 : decode b_Gr_compare 42 = .ok (.aload_n 3, 1) := by decide +kernel
theorem d_Gr_compare_43 : decode b_Gr_compare 43 = .ok (.aload_n 0, 1) := by decide +kernel
theorem d_Gr_compare_44 : decode b_Gr_compare 44 = .ok (.iload_n 1, 1) := by decide +kernel
theorem d_Gr_compare_45 : decode b_Gr_compare 45 = .ok (.iload 5, 2) := by decide +kernel
theorem d_Gr_compare_47 : decode b_Gr_compare 47 = .ok (.invokevirtual 93, 3) := by decide +kernel
theorem d_Gr_compare_50 : decode b_Gr_compare 50 = .ok (.aload 4, 2) := by decide +kernel
theorem d_Gr_compare_52 : decode b_Gr_compare 52 = .ok (.aload_n 0, 1) := by decide +kernel
theorem d_Gr_compare_53 : decode b_Gr_compare 53 = .ok (.iload_n 2, 1) := by decide +kernel
theorem d_Gr_compare_54 : decode b_Gr_compare 54 = .ok (.iload 5, 2) := by decide +kernel
theorem d_Gr_compare_56 : decode b_Gr_compare 56 = .ok (.invokevirtual 93, 3) := by decide +kernel
theorem d_Gr_compare_59 : decode b_Gr_compare 59 = .ok (.invokevirtual 96, 3) := by decide +kernel
theorem d_Gr_compare_62 : decode b_Gr_compare 62 = .ok (.istore 6, 2) := by decide +kernel
theorem d_Gr_compare_64 : decode b_Gr_compare 64 = .ok (.iload 6, 2) := by decide +kernel
theorem d_Gr_compare_66 : decode b_Gr_compare 66 = .ok (.ifCond .eq 6, 3) := by decide +kernel
theorem d_Gr_compare_69 : decode b_Gr_compare 69 = .ok (.iload 6, 2) := by decide +kernel
theorem d_Gr_compare_71 : decode b_Gr_compare 71 = .ok (.ireturn, 1) := by decide +kernel
theorem d_Gr_compare_72 : decode b_Gr_compare 72 = .ok (.iinc 5 1, 3) := by decide +kernel
theorem d_Gr_compare_75 : decode b_Gr_compare 75 = .ok (.goto (-42), 3) := by decide +kernel
theorem d_Gr_compare_78 : decode b_Gr_compare 78 = .ok (.iconst 0, 1) := by decide +kernel
theorem d_Gr_compare_79 : decode b_Gr_compare 79 = .ok (.ireturn, 1) := by decide +kernel
theorem d_Gr_labelOf_0 : decode b_Gr_labelOf 0 = .ok (.iload_n 1, 1) := by decide +kernel
theorem d_Gr_labelOf_1 : decode b_Gr_labelOf 1 = .ok (.ifCond .lt 36, 3) := by decide +kernel
theorem d_Gr_labelOf_4 : decode b_Gr_labelOf 4 = .ok (.iload_n 1, 1) := by decide +kernel
theorem d_Gr_labelOf_5 : decode b_Gr_labelOf 5 = .ok (.sipush 256, 3) := by decide +kernel
theorem d_Gr_labelOf_8 : decode b_Gr_labelOf 8 = .ok (.if_icmp .ge 29, 3) := by decide +kernel
theorem d_Gr_labelOf_11 : decode b_Gr_labelOf 11 = .ok (.iload_n 2, 1) := by decide +kernel
theorem d_Gr_labelOf_12 : decode b_Gr_labelOf 12 = .ok (.ifCond .lt 25, 3) := by decide +kernel
theorem d_Gr_labelOf_15 : decode b_Gr_labelOf 15 = .ok (.iload_n 2, 1) := by decide +kernel
theorem d_Gr_labelOf_16 : decode b_Gr_labelOf 16 = .ok (.aload_n 0, 1) := by decide +kernel
theorem d_Gr_labelOf_17 : decode b_Gr_labelOf 17 = .ok (.getfield 36, 3) := by decide +kernel
theorem d_Gr_labelOf_20 : decode b_Gr_labelOf 20 = .ok (.if_icmp .ge 17, 3) := by decide +kernel
theorem d_Gr_labelOf_23 : decode b_Gr_labelOf 23 = .ok (.aload_n 0, 1) := by decide +kernel
theorem d_Gr_labelOf_24 : decode b_Gr_labelOf 24 = .ok (.getfield 9, 3) := by decide +kernel
theorem d_Gr_labelOf_27 : decode b_Gr_labelOf 27 = .ok (.iload_n 1, 1) := by decide +kernel
theorem d_Gr_labelOf_28 : decode b_Gr_labelOf 28 = .ok (.bipush 6, 2) := by decide +kernel
theorem d_Gr_labelOf_30 : decode b_Gr_labelOf 30 = .ok (.imul, 1) := by decide +kernel
theorem d_Gr_labelOf_31 : decode b_Gr_labelOf 31 = .ok (.iload_n 2, 1) := by decide +kernel
theorem d_Gr_labelOf_32 : decode b_Gr_labelOf 32 = .ok (.iadd, 1) := by decide +kernel
theorem d_Gr_labelOf_33 : decode b_Gr_labelOf 33 = .ok (.iaload, 1) := by decide +kernel
theorem d_Gr_labelOf_34 : decode b_Gr_labelOf 34 = .ok (.goto 4, 3) := by decide +kernel
theorem d_Gr_labelOf_37 : decode b_Gr_labelOf 37 = .ok (.iconst (-1), 1) := by decide +kernel
theorem d_Gr_labelOf_38 : decode b_Gr_labelOf 38 = .ok (.ireturn, 1) := by decide +kernel
theorem d_Gr_moveLeader_0 : decode b_Gr_moveLeader 0 = .ok (.iload_n 1, 1) := by decide +kernel
theorem d_Gr_moveLeader_1 : decode b_Gr_moveLeader 1 = .ok (.ifCond .lt 32, 3) := by decide +kernel
theorem d_Gr_moveLeader_4 : decode b_Gr_moveLeader 4 = .ok (.iload_n 1, 1) := by decide +kernel
theorem d_Gr_moveLeader_5 : decode b_Gr_moveLeader 5 = .ok (.aload_n 0, 1) := by decide +kernel
theorem d_Gr_moveLeader_6 : decode b_Gr_moveLeader 6 = .ok (.getfield 40, 3) := by decide +kernel
theorem d_Gr_moveLeader_9 : decode b_Gr_moveLeader 9 = .ok (.if_icmp .ge 24, 3) := by decide +kernel
theorem d_Gr_moveLeader_12 : decode b_Gr_moveLeader 12 = .ok (.iload_n 2, 1) := by decide +kernel
theorem d_Gr_moveLeader_13 : decode b_Gr_moveLeader 13 = .ok (.ifCond .lt 20, 3) := by decide +kernel
theorem d_Gr_moveLeader_16 : decode b_Gr_moveLeader 16 = .ok (.iload_n 2, 1) := by decide +kernel
theorem d_Gr_moveLeader_17 : decode b_Gr_moveLeader 17 = .ok (.iload_n 1, 1) := by decide +kernel
theorem d_Gr_moveLeader_18 : decode b_Gr_moveLeader 18 = .ok (.if_icmp .gt 15, 3) := by decide +kernel
theorem d_Gr_moveLeader_21 : decode b_Gr_moveLeader 21 = .ok (.aload_n 0, 1) := by decide +kernel
theorem d_Gr_moveLeader_22 : decode b_Gr_moveLeader 22 = .ok (.getfield 21, 3) := by decide +kernel
theorem d_Gr_moveLeader_25 : decode b_Gr_moveLeader 25 = .ok (.iload_n 2, 1) := by decide +kernel
theorem d_Gr_moveLeader_26 : decode b_Gr_moveLeader 26 = .ok (.aload_n 0, 1) := by decide +kernel
theorem d_Gr_moveLeader_27 : decode b_Gr_moveLeader 27 = .ok (.getfield 21, 3) := by decide +kernel
theorem d_Gr_moveLeader_30 : decode b_Gr_moveLeader 30 = .ok (.iload_n 1, 1) := by decide +kernel
theorem d_Gr_moveLeader_31 : decode b_Gr_moveLeader 31 = .ok (.iaload, 1) := by decide +kernel
theorem d_Gr_moveLeader_32 : decode b_Gr_moveLeader 32 = .ok (.iastore, 1) := by decide +kernel
theorem d_Gr_moveLeader_33 : decode b_Gr_moveLeader 33 = .ok (.return_, 1) := by decide +kernel
theorem d_Gr_letterAt_0 : decode b_Gr_letterAt 0 = .ok (.iload_n 1, 1) := by decide +kernel
theorem d_Gr_letterAt_1 : decode b_Gr_letterAt 1 = .ok (.ifCond .lt 23, 3) := by decide +kernel
theorem d_Gr_letterAt_4 : decode b_Gr_letterAt 4 = .ok (.iload_n 1, 1) := by decide +kernel
theorem d_Gr_letterAt_5 : decode b_Gr_letterAt 5 = .ok (.aload_n 0, 1) := by decide +kernel
theorem d_Gr_letterAt_6 : decode b_Gr_letterAt 6 = .ok (.getfield 40, 3) := by decide +kernel
theorem d_Gr_letterAt_9 : decode b_Gr_letterAt 9 = .ok (.if_icmp .ge 15, 3) := by decide +kernel
theorem d_Gr_letterAt_12 : decode b_Gr_letterAt 12 = .ok (.iload_n 2, 1) := by decide +kernel
theorem d_Gr_letterAt_13 : decode b_Gr_letterAt 13 = .ok (.ifCond .lt 11, 3) := by decide +kernel
theorem d_Gr_letterAt_16 : decode b_Gr_letterAt 16 = .ok (.iload_n 2, 1) := by decide +kernel
theorem d_Gr_letterAt_17 : decode b_Gr_letterAt 17 = .ok (.aload_n 0, 1) := by decide +kernel
theorem d_Gr_letterAt_18 : decode b_Gr_letterAt 18 = .ok (.getfield 36, 3) := by decide +kernel
theorem d_Gr_letterAt_21 : decode b_Gr_letterAt 21 = .ok (.if_icmp .lt 5, 3) := by decide +kernel
theorem d_Gr_letterAt_24 : decode b_Gr_letterAt 24 = .ok (.iconst (-1), 1) := by decide +kernel
theorem d_Gr_letterAt_25 : decode b_Gr_letterAt 25 = .ok (.ireturn, 1) := by decide +kernel
theorem d_Gr_letterAt_26 : decode b_Gr_letterAt 26 = .ok (.aload_n 0, 1) := by decide +kernel
theorem d_Gr_letterAt_27 : decode b_Gr_letterAt 27 = .ok (.getfield 28, 3) := by decide +kernel
theorem d_Gr_letterAt_30 : decode b_Gr_letterAt 30 = .ok (.aload_n 0, 1) := by decide +kernel
theorem d_Gr_letterAt_31 : decode b_Gr_letterAt 31 = .ok (.getfield 21, 3) := by decide +kernel
theorem d_Gr_letterAt_34 : decode b_Gr_letterAt 34 = .ok (.iload_n 1, 1) := by decide +kernel
theorem d_Gr_letterAt_35 : decode b_Gr_letterAt 35 = .ok (.iaload, 1) := by decide +kernel
theorem d_Gr_letterAt_36 : decode b_Gr_letterAt 36 = .ok (.invokevirtual 71, 3) := by decide +kernel
theorem d_Gr_letterAt_39 : decode b_Gr_letterAt 39 = .ok (.astore 4, 2) := by decide +kernel
theorem d_Gr_letterAt_41 : decode b_Gr_letterAt 41 = .ok (.aload 4, 2) := by decide +kernel
theorem d_Gr_letterAt_43 : decode b_Gr_letterAt 43 = .ok (.ifnonnull 7, 3) := by decide +kernel
theorem d_Gr_letterAt_46 : decode b_Gr_letterAt 46 = .ok (.iconst (-1), 1) := by decide +kernel
theorem d_Gr_letterAt_47 : decode b_Gr_letterAt 47 = .ok (.goto 20, 3) := by decide +kernel
theorem d_Gr_letterAt_50 : decode b_Gr_letterAt 50 = .ok (.aload 4, 2) := by decide +kernel
theorem d_Gr_letterAt_52 : decode b_Gr_letterAt 52 = .ok (.aload_n 0, 1) := by decide +kernel
theorem d_Gr_letterAt_53 : decode b_Gr_letterAt 53 = .ok (.aload_n 0, 1) := by decide +kernel
theorem d_Gr_letterAt_54 : decode b_Gr_letterAt 54 = .ok (.getfield 21, 3) := by decide +kernel
theorem d_Gr_letterAt_57 : decode b_Gr_letterAt 57 = .ok (.iload_n 1, 1) := by decide +kernel
theorem d_Gr_letterAt_58 : decode b_Gr_letterAt 58 = .ok (.iaload, 1) := by decide +kernel
theorem d_Gr_letterAt_59 : decode b_Gr_letterAt 59 = .ok (.iload_n 2, 1) := by decide +kernel
theorem d_Gr_letterAt_60 : decode b_Gr_letterAt 60 = .ok (.invokevirtual 93, 3) := by decide +kernel
theorem d_Gr_letterAt_63 : decode b_Gr_letterAt 63 = .ok (.iload_n 3, 1) := by decide +kernel
theorem d_Gr_letterAt_64 : decode b_Gr_letterAt 64 = .ok (.invokevirtual 100, 3) := by decide +kernel
theorem d_Gr_letterAt_67 : decode b_Gr_letterAt 67 = .ok (.ireturn, 1) := by decide +kernel

set_option maxHeartbeats 4000000 in
set_option maxRecDepth 100000 in
theorem c_Gr_nameCount (l : Launch) (D : jd_T) (a : Nat) (f_tape : Value) (f_store : Value) (f_program : Value) (f_nameCount : Int) (f_size : Int) (f_labels : Value) (f_order : Value) (f_groupOf : Value) (f_leaders : Value)  : jc_C l D y_Gr_nameCount b_Gr_nameCount 1 (some .int) { frames := 0, cells := 0, slots := 0, locals := 0 } [.ref a] [ob D a 3 [f_tape, f_store, f_program, .int (ii f_nameCount), .int (ii f_size), f_labels, f_order, f_groupOf, f_leaders]] (fun _ : Unit => (.returned (some (.int (ii f_nameCount))), True, [ob D a 3 [f_tape, f_store, f_program, .int (ii f_nameCount), .int (ii f_size), f_labels, f_order, f_groupOf, f_leaders]])) := by
  refine jc_of rfl (Nat.le_of_ble_eq_true rfl) ?_
  intro X hl hR hN ok hnm fin
  subst hl
  show jw X 0 0 [ob D a 3 [f_tape, f_store, f_program, .int (ii f_nameCount), .int (ii f_size), f_labels, f_order, f_groupOf, f_leaders]] [(0, .ref a)] 0 []
  refine jr_aload_n ok 0 d_Gr_nameCount_0 rfl rfl ?_
  refine jr_get ok 0 f_Gr_36 rfl rfl d_Gr_nameCount_1 ?_
  exact jr_iret ok fin (Nat.le_refl _) (Nat.le_refl _) () rfl trivial sg_same d_Gr_nameCount_4

set_option maxHeartbeats 4000000 in
set_option maxRecDepth 100000 in
theorem c_Gr_size (l : Launch) (D : jd_T) (a : Nat) (f_tape : Value) (f_store : Value) (f_program : Value) (f_nameCount : Int) (f_size : Int) (f_labels : Value) (f_order : Value) (f_groupOf : Value) (f_leaders : Value)  : jc_C l D y_Gr_size b_Gr_size 1 (some .int) { frames := 0, cells := 0, slots := 0, locals := 0 } [.ref a] [ob D a 3 [f_tape, f_store, f_program, .int (ii f_nameCount), .int (ii f_size), f_labels, f_order, f_groupOf, f_leaders]] (fun _ : Unit => (.returned (some (.int (ii f_size))), True, [ob D a 3 [f_tape, f_store, f_program, .int (ii f_nameCount), .int (ii f_size), f_labels, f_order, f_groupOf, f_leaders]])) := by
  refine jc_of rfl (Nat.le_of_ble_eq_true rfl) ?_
  intro X hl hR hN ok hnm fin
  subst hl
  show jw X 0 0 [ob D a 3 [f_tape, f_store, f_program, .int (ii f_nameCount), .int (ii f_size), f_labels, f_order, f_groupOf, f_leaders]] [(0, .ref a)] 0 []
  refine jr_aload_n ok 0 d_Gr_size_0 rfl rfl ?_
  refine jr_get ok 0 f_Gr_40 rfl rfl d_Gr_size_1 ?_
  exact jr_iret ok fin (Nat.le_refl _) (Nat.le_refl _) () rfl trivial sg_same d_Gr_size_4

