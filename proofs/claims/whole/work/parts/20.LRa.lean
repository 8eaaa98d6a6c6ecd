theorem d_LR_init_0 : decode b_LR_init 0 = .ok (.aload_n 0, 1) := by decide +kernel
theorem d_LR_init_1 : decode b_LR_init 1 = .ok (.invokespecial 3, 3) := by decide +kernel
theorem d_LR_init_4 : decode b_LR_init 4 = .ok (.aload_n 0, 1) := by decide +kernel
theorem d_LR_init_5 : decode b_LR_init 5 = .ok (.bipush 6, 2) := by decide +kernel
theorem d_LR_init_7 : decode b_LR_init 7 = .ok (.newarray .int, 2) := by decide +kernel
theorem d_LR_init_9 : decode b_LR_init 9 = .ok (.putfield 9, 3) := by decide +kernel
theorem d_LR_init_12 : decode b_LR_init 12 = .ok (.aload_n 0, 1) := by decide +kernel
theorem d_LR_init_13 : decode b_LR_init 13 = .ok (.bipush 6, 2) := by decide +kernel
theorem d_LR_init_15 : decode b_LR_init 15 = .ok (.newarray .int, 2) := by decide +kernel
theorem d_LR_init_17 : decode b_LR_init 17 = .ok (.putfield 15, 3) := by decide +kernel
theorem d_LR_init_20 : decode b_LR_init 20 = .ok (.aload_n 0, 1) := by decide +kernel
theorem d_LR_init_21 : decode b_LR_init 21 = .ok (.bipush 6, 2) := by decide +kernel
theorem d_LR_init_23 : decode b_LR_init 23 = .ok (.newarray .int, 2) := by decide +kernel
theorem d_LR_init_25 : decode b_LR_init 25 = .ok (.putfield 18, 3) := by decide +kernel
theorem d_LR_init_28 : decode b_LR_init 28 = .ok (.aload_n 0, 1) := by decide +kernel
theorem d_LR_init_29 : decode b_LR_init 29 = .ok (.sipush 300, 3) := by decide +kernel
theorem d_LR_init_32 : decode b_LR_init 32 = .ok (.newarray .byte, 2) := by decide +kernel
theorem d_LR_init_34 : decode b_LR_init 34 = .ok (.putfield 21, 3) := by decide +kernel
theorem d_LR_init_37 : decode b_LR_init 37 = .ok (.return_, 1) := by decide +kernel
theorem d_LR_faultCode_0 : decode b_LR_faultCode 0 = .ok (.aload_n 0, 1) := by decide +kernel
theorem d_LR_faultCode_1 : decode b_LR_faultCode 1 = .ok (.getfield 25, 3) := by decide +kernel
theorem d_LR_faultCode_4 : decode b_LR_faultCode 4 = .ok (.ireturn, 1) := by decide +kernel
theorem d_LR_faultPlace_0 : decode b_LR_faultPlace 0 = .ok (.aload_n 0, 1) := by decide +kernel
theorem d_LR_faultPlace_1 : decode b_LR_faultPlace 1 = .ok (.getfield 29, 3) := by decide +kernel
theorem d_LR_faultPlace_4 : decode b_LR_faultPlace 4 = .ok (.ireturn, 1) := by decide +kernel
theorem d_LR_length_0 : decode b_LR_length 0 = .ok (.aload_n 0, 1) := by decide +kernel
theorem d_LR_length_1 : decode b_LR_length 1 = .ok (.getfield 32, 3) := by decide +kernel
theorem d_LR_length_4 : decode b_LR_length 4 = .ok (.ireturn, 1) := by decide +kernel
theorem d_LR_letterAt_0 : decode b_LR_letterAt 0 = .ok (.iload_n 1, 1) := by decide +kernel
theorem d_LR_letterAt_1 : decode b_LR_letterAt 1 = .ok (.ifCond .lt 20, 3) := by decide +kernel
theorem d_LR_letterAt_4 : decode b_LR_letterAt 4 = .ok (.iload_n 1, 1) := by decide +kernel
theorem d_LR_letterAt_5 : decode b_LR_letterAt 5 = .ok (.aload_n 0, 1) := by decide +kernel
theorem d_LR_letterAt_6 : decode b_LR_letterAt 6 = .ok (.getfield 32, 3) := by decide +kernel
theorem d_LR_letterAt_9 : decode b_LR_letterAt 9 = .ok (.if_icmp .ge 12, 3) := by decide +kernel
theorem d_LR_letterAt_12 : decode b_LR_letterAt 12 = .ok (.aload_n 0, 1) := by decide +kernel
theorem d_LR_letterAt_13 : decode b_LR_letterAt 13 = .ok (.getfield 21, 3) := by decide +kernel
theorem d_LR_letterAt_16 : decode b_LR_letterAt 16 = .ok (.iload_n 1, 1) := by decide +kernel
theorem d_LR_letterAt_17 : decode b_LR_letterAt 17 = .ok (.baload, 1) := by decide +kernel
theorem d_LR_letterAt_18 : decode b_LR_letterAt 18 = .ok (.goto 4, 3) := by decide +kernel
theorem d_LR_letterAt_21 : decode b_LR_letterAt 21 = .ok (.iconst (-1), 1) := by decide +kernel
theorem d_LR_letterAt_22 : decode b_LR_letterAt 22 = .ok (.ireturn, 1) := by decide +kernel
theorem d_LR_read_0 : decode b_LR_read 0 = .ok (.aload_n 0, 1) := by decide +kernel
theorem d_LR_read_1 : decode b_LR_read 1 = .ok (.iconst 0, 1) := by decide +kernel
theorem d_LR_read_2 : decode b_LR_read 2 = .ok (.putfield 35, 3) := by decide +kernel
theorem d_LR_read_5 : decode b_LR_read 5 = .ok (.aload_n 0, 1) := by decide +kernel
theorem d_LR_read_6 : decode b_LR_read 6 = .ok (.iconst 0, 1) := by decide +kernel
theorem d_LR_read_7 : decode b_LR_read 7 = .ok (.putfield 25, 3) := by decide +kernel
theorem d_LR_read_10 : decode b_LR_read 10 = .ok (.aload_n 0, 1) := by decide +kernel
theorem d_LR_read_11 : decode b_LR_read 11 = .ok (.iconst 0, 1) := by decide +kernel
theorem d_LR_read_12 : decode b_LR_read 12 = .ok (.putfield 29, 3) := by decide +kernel
theorem d_LR_read_15 : decode b_LR_read 15 = .ok (.iconst 0, 1) := by decide +kernel
theorem d_LR_read_16 : decode b_LR_read 16 = .ok (.istore_n 2, 1) := by decide +kernel
theorem d_LR_read_17 : decode b_LR_read 17 = .ok (.iconst 0, 1) := by decide +kernel
theorem d_LR_read_18 : decode b_LR_read 18 = .ok (.istore_n 3, 1) := by decide +kernel
theorem d_LR_read_19 : decode b_LR_read 19 = .ok (.iload_n 3, 1) := by decide +kernel
theorem d_LR_read_20 : decode b_LR_read 20 = .ok (.bipush 6, 2) := by decide +kernel
theorem d_LR_read_22 : decode b_LR_read 22 = .ok (.if_icmp .gt 68, 3) := by decide +kernel
theorem d_LR_read_25 : decode b_LR_read 25 = .ok (.aload_n 0, 1) := by decide +kernel
theorem d_LR_read_26 : decode b_LR_read 26 = .ok (.aload_n 1, 1) := by decide +kernel
theorem d_LR_read_27 : decode b_LR_read 27 = .ok (.iload_n 2, 1) := by decide +kernel
theorem d_LR_read_28 : decode b_LR_read 28 = .ok (.invokevirtual 38, 3) := by decide +kernel
theorem d_LR_read_31 : decode b_LR_read 31 = .ok (.istore 4, 2) := by decide +kernel
theorem d_LR_read_33 : decode b_LR_read 33 = .ok (.iload 4, 2) := by decide +kernel
theorem d_LR_read_35 : decode b_LR_read 35 = .ok (.iconst (-1), 1) := by decide +kernel
theorem d_LR_read_36 : decode b_LR_read 36 = .ok (.if_icmp .ne 5, 3) := by decide +kernel
theorem d_LR_read_39 : decode b_LR_read 39 = .ok (.iconst 0, 1) := by decide +kernel
theorem d_LR_read_40 : decode b_LR_read 40 = .ok (.ireturn, 1) := by decide +kernel
theorem d_LR_read_41 : decode b_LR_read 41 = .ok (.iload 4, 2) := by decide +kernel
theorem d_LR_read_43 : decode b_LR_read 43 = .ok (.aload_n 1, 1) := by decide +kernel
theorem d_LR_read_44 : decode b_LR_read 44 = .ok (.invokevirtual 42, 3) := by decide +kernel
theorem d_LR_read_47 : decode b_LR_read 47 = .ok (.if_icmp .ne 10, 3) := by decide +kernel
theorem d_LR_read_50 : decode b_LR_read 50 = .ok (.aload_n 0, 1) := by decide +kernel
theorem d_LR_read_51 : decode b_LR_read 51 = .ok (.aload_n 1, 1) := by decide +kernel
theorem d_LR_read_52 : decode b_LR_read 52 = .ok (.invokevirtual 48, 3) := by decide +kernel
theorem d_LR_read_55 : decode b_LR_read 55 = .ok (.iconst 1, 1) := by decide +kernel
theorem d_LR_read_56 : decode b_LR_read 56 = .ok (.ireturn, 1) := by decide +kernel
theorem d_LR_read_57 : decode b_LR_read 57 = .ok (.aload_n 1, 1) := by decide +kernel
theorem d_LR_read_58 : decode b_LR_read 58 = .ok (.iload 4, 2) := by decide +kernel
theorem d_LR_read_60 : decode b_LR_read 60 = .ok (.invokevirtual 52, 3) := by decide +kernel
theorem d_LR_read_63 : decode b_LR_read 63 = .ok (.bipush 44, 2) := by decide +kernel
theorem d_LR_read_65 : decode b_LR_read 65 = .ok (.if_icmp .eq 14, 3) := by decide +kernel
theorem d_LR_read_68 : decode b_LR_read 68 = .ok (.aload_n 0, 1) := by decide +kernel
theorem d_LR_read_69 : decode b_LR_read 69 = .ok (.bipush 7, 2) := by decide +kernel
theorem d_LR_read_71 : decode b_LR_read 71 = .ok (.iload 4, 2) := by decide +kernel
theorem d_LR_read_73 : decode b_LR_read 73 = .ok (.invokevirtual 56, 3) := by decide +kernel
theorem d_LR_read_76 : decode b_LR_read 76 = .ok (.pop, 1) := by decide +kernel
theorem d_LR_read_77 : decode b_LR_read 77 = .ok (.iconst 0, 1) := by decide +kernel
theorem d_LR_read_78 : decode b_LR_read 78 = .ok (.ireturn, 1) := by decide +kernel
theorem d_LR_read_79 : decode b_LR_read 79 = .ok (.iload 4, 2) := by decide +kernel
theorem d_LR_read_81 : decode b_LR_read 81 = .ok (.iconst 1, 1) := by decide +kernel
theorem d_LR_read_82 : decode b_LR_read 82 = .ok (.iadd, 1) := by decide +kernel
theorem d_LR_read_83 : decode b_LR_read 83 = .ok (.istore_n 2, 1) := by decide +kernel
theorem d_LR_read_84 : decode b_LR_read 84 = .ok (.iinc 3 1, 3) := by decide +kernel
theorem d_LR_read_87 : decode b_LR_read 87 = .ok (.goto (-68), 3) := by decide +kernel
theorem d_LR_read_90 : decode b_LR_read 90 = .ok (.iconst 0, 1) := by decide +kernel
theorem d_LR_read_91 : decode b_LR_read 91 = .ok (.ireturn, 1) := by decide +kernel
theorem d_LR_readLabel_0 : decode b_LR_readLabel 0 = .ok (.aload_n 1, 1) := by decide +kernel
theorem d_LR_readLabel_1 : decode b_LR_readLabel 1 = .ok (.iload_n 2, 1) := by decide +kernel
theorem d_LR_readLabel_2 : decode b_LR_readLabel 2 = .ok (.invokestatic 60, 3) := by decide +kernel
theorem d_LR_readLabel_5 : decode b_LR_readLabel 5 = .ok (.istore_n 3, 1) := by decide +kernel
theorem d_LR_readLabel_6 : decode b_LR_readLabel 6 = .ok (.iload_n 3, 1) := by decide +kernel
theorem d_LR_readLabel_7 : decode b_LR_readLabel 7 = .ok (.iload_n 2, 1) := by decide +kernel
theorem d_LR_readLabel_8 : decode b_LR_readLabel 8 = .ok (.if_icmp .eq 13, 3) := by decide +kernel
theorem d_LR_readLabel_11 : decode b_LR_readLabel 11 = .ok (.aload_n 1, 1) := by decide +kernel
theorem d_LR_readLabel_12 : decode b_LR_readLabel 12 = .ok (.iload_n 3, 1) := by decide +kernel
theorem d_LR_readLabel_13 : decode b_LR_readLabel 13 = .ok (.invokevirtual 52, 3) := by decide +kernel
theorem d_LR_readLabel_16 : decode b_LR_readLabel 16 = .ok (.bipush 61, 2) := by decide +kernel
theorem d_LR_readLabel_18 : decode b_LR_readLabel 18 = .ok (.if_icmp .eq 11, 3) := by decide +kernel
theorem d_LR_readLabel_21 : decode b_LR_readLabel 21 = .ok (.aload_n 0, 1) := by decide +kernel
theorem d_LR_readLabel_22 : decode b_LR_readLabel 22 = .ok (.bipush 7, 2) := by decide +kernel
theorem d_LR_readLabel_24 : decode b_LR_readLabel 24 = .ok (.iload_n 3, 1) := by decide +kernel
theorem d_LR_readLabel_25 : decode b_LR_readLabel 25 = .ok (.invokevirtual 56, 3) := by decide +kernel
theorem d_LR_readLabel_28 : decode b_LR_readLabel 28 = .ok (.ireturn, 1) := by decide +kernel
theorem d_LR_readLabel_29 : decode b_LR_readLabel 29 = .ok (.aload_n 0, 1) := by decide +kernel
theorem d_LR_readLabel_30 : decode b_LR_readLabel 30 = .ok (.aload_n 1, 1) := by decide +kernel
theorem d_LR_readLabel_31 : decode b_LR_readLabel 31 = .ok (.iload_n 2, 1) := by decide +kernel
theorem d_LR_readLabel_32 : decode b_LR_readLabel 32 = .ok (.iload_n 3, 1) := by decide +kernel
theorem d_LR_readLabel_33 : decode b_LR_readLabel 33 = .ok (.invokevirtual 63, 3) := by decide +kernel
theorem d_LR_readLabel_36 : decode b_LR_readLabel 36 = .ok (.istore 4, 2) := by decide +kernel
theorem d_LR_readLabel_38 : decode b_LR_readLabel 38 = .ok (.iload 4, 2) := by decide +kernel
theorem d_LR_readLabel_40 : decode b_LR_readLabel 40 = .ok (.iconst (-1), 1) := by decide +kernel
theorem d_LR_readLabel_41 : decode b_LR_readLabel 41 = .ok (.if_icmp .ne 11, 3) := by decide +kernel
theorem d_LR_readLabel_44 : decode b_LR_readLabel 44 = .ok (.aload_n 0, 1) := by decide +kernel
theorem d_LR_readLabel_45 : decode b_LR_readLabel 45 = .ok (.bipush 8, 2) := by decide +kernel
theorem d_LR_readLabel_47 : decode b_LR_readLabel 47 = .ok (.iload_n 2, 1) := by decide +kernel
theorem d_LR_readLabel_48 : decode b_LR_readLabel 48 = .ok (.invokevirtual 56, 3) := by decide +kernel
theorem d_LR_readLabel_51 : decode b_LR_readLabel 51 = .ok (.ireturn, 1) := by decide +kernel
theorem d_LR_readLabel_52 : decode b_LR_readLabel 52 = .ok (.aload_n 1, 1) := by decide +kernel
theorem d_LR_readLabel_53 : decode b_LR_readLabel 53 = .ok (.iload_n 3, 1) := by decide +kernel
theorem d_LR_readLabel_54 : decode b_LR_readLabel 54 = .ok (.iconst 1, 1) := by decide +kernel
theorem d_LR_readLabel_55 : decode b_LR_readLabel 55 = .ok (.iadd, 1) := by decide +kernel
theorem d_LR_readLabel_56 : decode b_LR_readLabel 56 = .ok (.invokestatic 60, 3) := by decide +kernel
theorem d_LR_readLabel_59 : decode b_LR_readLabel 59 = .ok (.istore 5, 2) := by decide +kernel
theorem d_LR_readLabel_61 : decode b_LR_readLabel 61 = .ok (.iload 5, 2) := by decide +kernel
theorem d_LR_readLabel_63 : decode b_LR_readLabel 63 = .ok (.iload_n 3, 1) := by decide +kernel
theorem d_LR_readLabel_64 : decode b_LR_readLabel 64 = .ok (.iconst 1, 1) := by decide +kernel
theorem d_LR_readLabel_65 : decode b_LR_readLabel 65 = .ok (.iadd, 1) := by decide +kernel
theorem d_LR_readLabel_66 : decode b_LR_readLabel 66 = .ok (.if_icmp .ne 12, 3) := by decide +kernel
theorem d_LR_readLabel_69 : decode b_LR_readLabel 69 = .ok (.aload_n 0, 1) := by decide +kernel
theorem d_LR_readLabel_70 : decode b_LR_readLabel 70 = .ok (.bipush 7, 2) := by decide +kernel
theorem d_LR_readLabel_72 : decode b_LR_readLabel 72 = .ok (.iload 5, 2) := by decide +kernel
theorem d_LR_readLabel_74 : decode b_LR_readLabel 74 = .ok (.invokevirtual 56, 3) := by decide +kernel
theorem d_LR_readLabel_77 : decode b_LR_readLabel 77 = .ok (.ireturn, 1) := by decide +kernel
theorem d_LR_readLabel_78 : decode b_LR_readLabel 78 = .ok (.aload_n 0, 1) := by decide +kernel
theorem d_LR_readLabel_79 : decode b_LR_readLabel 79 = .ok (.iload 4, 2) := by decide +kernel
theorem d_LR_readLabel_81 : decode b_LR_readLabel 81 = .ok (.iload_n 2, 1) := by decide +kernel
theorem d_LR_readLabel_82 : decode b_LR_readLabel 82 = .ok (.iload_n 3, 1) := by decide +kernel
theorem d_LR_readLabel_83 : decode b_LR_readLabel 83 = .ok (.iload 5, 2) := by decide +kernel
theorem d_LR_readLabel_85 : decode b_LR_readLabel 85 = .ok (.invokevirtual 67, 3) := by decide +kernel
theorem d_LR_readLabel_88 : decode b_LR_readLabel 88 = .ok (.iload 5, 2) := by decide +kernel
theorem d_LR_readLabel_90 : decode b_LR_readLabel 90 = .ok (.ireturn, 1) := by decide +kernel
theorem d_LR_refuse_0 : decode b_LR_refuse 0 = .ok (.aload_n 0, 1) := by decide +kernel
theorem d_LR_refuse_1 : decode b_LR_refuse 1 = .ok (.iload_n 1, 1) := by decide +kernel
theorem d_LR_refuse_2 : decode b_LR_refuse 2 = .ok (.putfield 25, 3) := by decide +kernel
theorem d_LR_refuse_5 : decode b_LR_refuse 5 = .ok (.aload_n 0, 1) := by decide +kernel
theorem d_LR_refuse_6 : decode b_LR_refuse 6 = .ok (.iload_n 2, 1) := by decide +kernel
theorem d_LR_refuse_7 : decode b_LR_refuse 7 = .ok (.putfield 29, 3) := by decide +kernel
theorem d_LR_refuse_10 : decode b_LR_refuse 10 = .ok (.iconst (-1), 1) := by decide +kernel
theorem d_LR_refuse_11 : decode b_LR_refuse 11 = .ok (.ireturn, 1) := by decide +kernel
theorem d_LR_wordEnd_0 : decode b_LR_wordEnd 0 = .ok (.iconst 0, 1) := by decide +kernel
theorem d_LR_wordEnd_1 : decode b_LR_wordEnd 1 = .ok (.istore_n 2, 1) := by decide +kernel
theorem d_LR_wordEnd_2 : decode b_LR_wordEnd 2 = .ok (.iload_n 2, 1) := by decide +kernel
theorem d_LR_wordEnd_3 : decode b_LR_wordEnd 3 = .ok (.bipush 24, 2) := by decide +kernel
theorem d_LR_wordEnd_5 : decode b_LR_wordEnd 5 = .ok (.if_icmp .ge 22, 3) := by decide +kernel
theorem d_LR_wordEnd_8 : decode b_LR_wordEnd 8 = .ok (.aload_n 0, 1) := by decide +kernel
theorem d_LR_wordEnd_9 : decode b_LR_wordEnd 9 = .ok (.iload_n 1, 1) := by decide +kernel
theorem d_LR_wordEnd_10 : decode b_LR_wordEnd 10 = .ok (.iload_n 2, 1) := by decide +kernel
theorem d_LR_wordEnd_11 : decode b_LR_wordEnd 11 = .ok (.iadd, 1) := by decide +kernel
theorem d_LR_wordEnd_12 : decode b_LR_wordEnd 12 = .ok (.invokevirtual 52, 3) := by decide +kernel
theorem d_LR_wordEnd_15 : decode b_LR_wordEnd 15 = .ok (.invokestatic 71, 3) := by decide +kernel
theorem d_LR_wordEnd_18 : decode b_LR_wordEnd 18 = .ok (.ifCond .eq 9, 3) := by decide +kernel
theorem d_LR_wordEnd_21 : decode b_LR_wordEnd 21 = .ok (.iinc 2 1, 3) := by decide +kernel
theorem d_LR_wordEnd_24 : decode b_LR_wordEnd 24 = .ok (.goto (-22), 3) := by decide +kernel
theorem d_LR_wordEnd_27 : decode b_LR_wordEnd 27 = .ok (.iload_n 1, 1) := by decide +kernel
theorem d_LR_wordEnd_28 : decode b_LR_wordEnd 28 = .ok (.iload_n 2, 1) := by decide +kernel
theorem d_LR_wordEnd_29 : decode b_LR_wordEnd 29 = .ok (.iadd, 1) := by decide +kernel
theorem d_LR_wordEnd_30 : decode b_LR_wordEnd 30 = .ok (.ireturn, 1) := by decide +kernel
theorem d_LR_isWordByte_0 : decode b_LR_isWordByte 0 = .ok (.iload_n 0, 1) := by decide +kernel
theorem d_LR_isWordByte_1 : decode b_LR_isWordByte 1 = .ok (.bipush 33, 2) := by decide +kernel
theorem d_LR_isWordByte_3 : decode b_LR_isWordByte 3 = .ok (.if_icmp .lt 9, 3) := by decide +kernel
theorem d_LR_isWordByte_6 : decode b_LR_isWordByte 6 = .ok (.iload_n 0, 1) := by decide +kernel
theorem d_LR_isWordByte_7 : decode b_LR_isWordByte 7 = .ok (.bipush 126, 2) := by decide +kernel
theorem d_LR_isWordByte_9 : decode b_LR_isWordByte 9 = .ok (.if_icmp .le 5, 3) := by decide +kernel
theorem d_LR_isWordByte_12 : decode b_LR_isWordByte 12 = .ok (.iconst 0, 1) := by decide +kernel
theorem d_LR_isWordByte_13 : decode b_LR_isWordByte 13 = .ok (.ireturn, 1) := by decide +kernel
theorem d_LR_isWordByte_14 : decode b_LR_isWordByte 14 = .ok (.iload_n 0, 1) := by decide +kernel
theorem d_LR_isWordByte_15 : decode b_LR_isWordByte 15 = .ok (.bipush 34, 2) := by decide +kernel
theorem d_LR_isWordByte_17 : decode b_LR_isWordByte 17 = .ok (.if_icmp .eq 43, 3) := by decide +kernel
theorem d_LR_isWordByte_20 : decode b_LR_isWordByte 20 = .ok (.iload_n 0, 1) := by decide +kernel
theorem d_LR_isWordByte_21 : decode b_LR_isWordByte 21 = .ok (.bipush 61, 2) := by decide +kernel
theorem d_LR_isWordByte_23 : decode b_LR_isWordByte 23 = .ok (.if_icmp .eq 37, 3) := by decide +kernel
theorem d_LR_isWordByte_26 : decode b_LR_isWordByte 26 = .ok (.iload_n 0, 1) := by decide +kernel
theorem d_LR_isWordByte_27 : decode b_LR_isWordByte 27 = .ok (.bipush 44, 2) := by decide +kernel
theorem d_LR_isWordByte_29 : decode b_LR_isWordByte 29 = .ok (.if_icmp .eq 31, 3) := by decide +kernel
theorem d_LR_isWordByte_32 : decode b_LR_isWordByte 32 = .ok (.iload_n 0, 1) := by decide +kernel
theorem d_LR_isWordByte_33 : decode b_LR_isWordByte 33 = .ok (.bipush 40, 2) := by decide +kernel
theorem d_LR_isWordByte_35 : decode b_LR_isWordByte 35 = .ok (.if_icmp .eq 25, 3) := by decide +kernel
theorem d_LR_isWordByte_38 : decode b_LR_isWordByte 38 = .ok (.iload_n 0, 1) := by decide +kernel
theorem d_LR_isWordByte_39 : decode b_LR_isWordByte 39 = .ok (.bipush 41, 2) := by decide +kernel
theorem d_LR_isWordByte_41 : decode b_LR_isWordByte 41 = .ok (.if_icmp .eq 19, 3) := by decide +kernel
theorem d_LR_isWordByte_44 : decode b_LR_isWordByte 44 = .ok (.iload_n 0, 1) := by decide +kernel
theorem d_LR_isWordByte_45 : decode b_LR_isWordByte 45 = .ok (.bipush 123, 2) := by decide +kernel
theorem d_LR_isWordByte_47 : decode b_LR_isWordByte 47 = .ok (.if_icmp .eq 13, 3) := by decide +kernel
theorem d_LR_isWordByte_50 : decode b_LR_isWordByte 50 = .ok (.iload_n 0, 1) := by decide +kernel
theorem d_LR_isWordByte_51 : decode b_LR_isWordByte 51 = .ok (.bipush 125, 2) := by decide +kernel
theorem d_LR_isWordByte_53 : decode b_LR_isWordByte 53 = .ok (.if_icmp .eq 7, 3) := by decide +kernel
theorem d_LR_isWordByte_56 : decode b_LR_isWordByte 56 = .ok (.iconst 1, 1) := by decide +kernel
theorem d_LR_isWordByte_57 : decode b_LR_isWordByte 57 = .ok (.goto 4, 3) := by decide +kernel
theorem d_LR_isWordByte_60 : decode b_LR_isWordByte 60 = .ok (.iconst 0, 1) := by decide +kernel
theorem d_LR_isWordByte_61 : decode b_LR_isWordByte 61 = .ok (.ireturn, 1) := by decide +kernel
theorem d_LR_placeFor_0 : decode b_LR_placeFor 0 = .ok (.aload_n 0, 1) := by decide +kernel
theorem d_LR_placeFor_1 : decode b_LR_placeFor 1 = .ok (.getfield 35, 3) := by decide +kernel
theorem d_LR_placeFor_4 : decode b_LR_placeFor 4 = .ok (.bipush 6, 2) := by decide +kernel
theorem d_LR_placeFor_6 : decode b_LR_placeFor 6 = .ok (.if_icmp .lt 5, 3) := by decide +kernel
theorem d_LR_placeFor_9 : decode b_LR_placeFor 9 = .ok (.iconst (-1), 1) := by decide +kernel
theorem d_LR_placeFor_10 : decode b_LR_placeFor 10 = .ok (.ireturn, 1) := by decide +kernel
theorem d_LR_placeFor_11 : decode b_LR_placeFor 11 = .ok (.iconst 0, 1) := by decide +kernel
theorem d_LR_placeFor_12 : decode b_LR_placeFor 12 = .ok (.istore 4, 2) := by decide +kernel
theorem d_LR_placeFor_14 : decode b_LR_placeFor 14 = .ok (.iload 4, 2) := by decide +kernel
theorem d_LR_placeFor_16 : decode b_LR_placeFor 16 = .ok (.aload_n 0, 1) := by decide +kernel
theorem d_LR_placeFor_17 : decode b_LR_placeFor 17 = .ok (.getfield 35, 3) := by decide +kernel
theorem d_LR_placeFor_20 : decode b_LR_placeFor 20 = .ok (.if_icmp .ge 46, 3) := by decide +kernel
theorem d_LR_placeFor_23 : decode b_LR_placeFor 23 = .ok (.aload_n 1, 1) := by decide +kernel
theorem d_LR_placeFor_24 : decode b_LR_placeFor 24 = .ok (.iload_n 2, 1) := by decide +kernel
theorem d_LR_placeFor_25 : decode b_LR_placeFor 25 = .ok (.iload_n 3, 1) := by decide +kernel
theorem d_LR_placeFor_26 : decode b_LR_placeFor 26 = .ok (.aload_n 0, 1) := by decide +kernel
theorem d_LR_placeFor_27 : decode b_LR_placeFor 27 = .ok (.getfield 9, 3) := by decide +kernel
theorem d_LR_placeFor_30 : decode b_LR_placeFor 30 = .ok (.iload 4, 2) := by decide +kernel
theorem d_LR_placeFor_32 : decode b_LR_placeFor 32 = .ok (.iaload, 1) := by decide +kernel
theorem d_LR_placeFor_33 : decode b_LR_placeFor 33 = .ok (.aload_n 0, 1) := by decide +kernel
theorem d_LR_placeFor_34 : decode b_LR_placeFor 34 = .ok (.getfield 15, 3) := by decide +kernel
theorem d_LR_placeFor_37 : decode b_LR_placeFor 37 = .ok (.iload 4, 2) := by decide +kernel
theorem d_LR_placeFor_39 : decode b_LR_placeFor 39 = .ok (.iaload, 1) := by decide +kernel
theorem d_LR_placeFor_40 : decode b_LR_placeFor 40 = .ok (.invokevirtual 75, 3) := by decide +kernel
theorem d_LR_placeFor_43 : decode b_LR_placeFor 43 = .ok (.istore 5, 2) := by decide +kernel
theorem d_LR_placeFor_45 : decode b_LR_placeFor 45 = .ok (.iload 5, 2) := by decide +kernel
theorem d_LR_placeFor_47 : decode b_LR_placeFor 47 = .ok (.ifCond .ne 5, 3) := by decide +kernel
theorem d_LR_placeFor_50 : decode b_LR_placeFor 50 = .ok (.iconst (-1), 1) := by decide +kernel
theorem d_LR_placeFor_51 : decode b_LR_placeFor 51 = .ok (.ireturn, 1) := by decide +kernel
theorem d_LR_placeFor_52 : decode b_LR_placeFor 52 = .ok (.iload 5, 2) := by decide +kernel
theorem d_LR_placeFor_54 : decode b_LR_placeFor 54 = .ok (.ifCond .ge 6, 3) := by decide +kernel
theorem d_LR_placeFor_57 : decode b_LR_placeFor 57 = .ok (.iload 4, 2) := by decide +kernel
theorem d_LR_placeFor_59 : decode b_LR_placeFor 59 = .ok (.ireturn, 1) := by decide +kernel
theorem d_LR_placeFor_60 : decode b_LR_placeFor 60 = .ok (.iinc 4 1, 3) := by decide +kernel
theorem d_LR_placeFor_63 : decode b_LR_placeFor 63 = .ok (.goto (-49), 3) := by decide +kernel
theorem d_LR_placeFor_66 : decode b_LR_placeFor 66 = .ok (.aload_n 0, 1) := by decide +kernel
theorem d_LR_placeFor_67 : decode b_LR_placeFor 67 = .ok (.getfield 35, 3) := by decide +kernel
theorem d_LR_placeFor_70 : decode b_LR_placeFor 70 = .ok (.ireturn, 1) := by decide +kernel
theorem d_LR_insert_0 : decode b_LR_insert 0 = .ok (.iload_n 1, 1) := by decide +kernel
theorem d_LR_insert_1 : decode b_LR_insert 1 = .ok (.ifCond .lt 20, 3) := by decide +kernel
theorem d_LR_insert_4 : decode b_LR_insert 4 = .ok (.iload_n 1, 1) := by decide +kernel
theorem d_LR_insert_5 : decode b_LR_insert 5 = .ok (.aload_n 0, 1) := by decide +kernel
theorem d_LR_insert_6 : decode b_LR_insert 6 = .ok (.getfield 35, 3) := by decide +kernel
theorem d_LR_insert_9 : decode b_LR_insert 9 = .ok (.if_icmp .gt 12, 3) := by decide +kernel
theorem d_LR_insert_12 : decode b_LR_insert 12 = .ok (.aload_n 0, 1) := by decide +kernel
theorem d_LR_insert_13 : decode b_LR_insert 13 = .ok (.getfield 35, 3) := by decide +kernel
theorem d_LR_insert_16 : decode b_LR_insert 16 = .ok (.bipush 6, 2) := by decide +kernel
theorem d_LR_insert_18 : decode b_LR_insert 18 = .ok (.if_icmp .lt 4, 3) := by decide +kernel
theorem d_LR_insert_21 : decode b_LR_insert 21 = .ok (.return_, 1) := by decide +kernel
theorem d_LR_insert_22 : decode b_LR_insert 22 = .ok (.aload_n 0, 1) := by decide +kernel
theorem d_LR_insert_23 : decode b_LR_insert 23 = .ok (.getfield 35, 3) := by decide +kernel
theorem d_LR_insert_26 : decode b_LR_insert 26 = .ok (.istore 5, 2) := by decide +kernel
theorem d_LR_insert_28 : decode b_LR_insert 28 = .ok (.iload 5, 2) := by decide +kernel
theorem d_LR_insert_30 : decode b_LR_insert 30 = .ok (.iload_n 1, 1) := by decide +kernel
theorem d_LR_insert_31 : decode b_LR_insert 31 = .ok (.if_icmp .le 57, 3) := by decide +kernel
theorem d_LR_insert_34 : decode b_LR_insert 34 = .ok (.aload_n 0, 1) := by decide +kernel
theorem d_LR_insert_35 : decode b_LR_insert 35 = .ok (.getfield 9, 3) := by decide +kernel
theorem d_LR_insert_38 : decode b_LR_insert 38 = .ok (.iload 5, 2) := by decide +kernel
theorem d_LR_insert_40 : decode b_LR_insert 40 = .ok (.aload_n 0, 1) := by decide +kernel
theorem d_LR_insert_41 : decode b_LR_insert 41 = .ok (.getfield 9, 3) := by decide +kernel
theorem d_LR_insert_44 : decode b_LR_insert 44 = .ok (.iload 5, 2) := by decide +kernel
theorem d_LR_insert_46 : decode b_LR_insert 46 = .ok (.iconst 1, 1) := by decide +kernel
theorem d_LR_insert_47 : decode b_LR_insert 47 = .ok (.isub, 1) := by decide +kernel
theorem d_LR_insert_48 : decode b_LR_insert 48 = .ok (.iaload, 1) := by decide +kernel
theorem d_LR_insert_49 : decode b_LR_insert 49 = .ok (.iastore, 1) := by decide +kernel
theorem d_LR_insert_50 : decode b_LR_insert 50 = .ok (.aload_n 0, 1) := by decide +kernel
theorem d_LR_insert_51 : decode b_LR_insert 51 = .ok (.getfield 15, 3) := by decide +kernel
theorem d_LR_insert_54 : decode b_LR_insert 54 = .ok (.iload 5, 2) := by decide +kernel
theorem d_LR_insert_56 : decode b_LR_insert 56 = .ok (.aload_n 0, 1) := by decide +kernel
theorem d_LR_insert_57 : decode b_LR_insert 57 = .ok (.getfield 15, 3) := by decide +kernel
theorem d_LR_insert_60 : decode b_LR_insert 60 = .ok (.iload 5, 2) := by decide +kernel
theorem d_LR_insert_62 : decode b_LR_insert 62 = .ok (.iconst 1, 1) := by decide +kernel
theorem d_LR_insert_63 : decode b_LR_insert 63 = .ok (.isub, 1) := by decide +kernel
theorem d_LR_insert_64 : decode b_LR_insert 64 = .ok (.iaload, 1) := by decide +kernel
theorem d_LR_insert_65 : decode b_LR_insert 65 = .ok (.iastore, 1) := by decide +kernel
theorem d_LR_insert_66 : decode b_LR_insert 66 = .ok (.aload_n 0, 1) := by decide +kernel
theorem d_LR_insert_67 : decode b_LR_insert 67 = .ok (.getfield 18, 3) := by decide +kernel
theorem d_LR_insert_70 : decode b_LR_insert 70 = .ok (.iload 5, 2) := by decide +kernel
theorem d_LR_insert_72 : decode b_LR_insert 72 = .ok (.aload_n 0, 1) := by decide +kernel
theorem d_LR_insert_73 : decode b_LR_insert 73 = .ok (.getfield 18, 3) := by decide +kernel
theorem d_LR_insert_76 : decode b_LR_insert 76 = .ok (.iload 5, 2) := by decide +kernel
theorem d_LR_insert_78 : decode b_LR_insert 78 = .ok (.iconst 1, 1) := by decide +kernel
theorem d_LR_insert_79 : decode b_LR_insert 79 = .ok (.isub, 1) := by decide +kernel
theorem d_LR_insert_80 : decode b_LR_insert 80 = .ok (.iaload, 1) := by decide +kernel
theorem d_LR_insert_81 : decode b_LR_insert 81 = .ok (.iastore, 1) := by decide +kernel
theorem d_LR_insert_82 : decode b_LR_insert 82 = .ok (.iinc 5 (-1), 3) := by decide +kernel
theorem d_LR_insert_85 : decode b_LR_insert 85 = .ok (.goto (-57), 3) := by decide +kernel
theorem d_LR_insert_88 : decode b_LR_insert 88 = .ok (.aload_n 0, 1) := by decide +kernel
theorem d_LR_insert_89 : decode b_LR_insert 89 = .ok (.getfield 9, 3) := by decide +kernel
theorem d_LR_insert_92 : decode b_LR_insert 92 = .ok (.iload_n 1, 1) := by decide +kernel
theorem d_LR_insert_93 : decode b_LR_insert 93 = .ok (.iload_n 2, 1) := by decide +kernel
theorem d_LR_insert_94 : decode b_LR_insert 94 = .ok (.iastore, 1) := by decide +kernel
theorem d_LR_insert_95 : decode b_LR_insert 95 = .ok (.aload_n 0, 1) := by decide +kernel
theorem d_LR_insert_96 : decode b_LR_insert 96 = .ok (.getfield 15, 3) := by decide +kernel
theorem d_LR_insert_99 : decode b_LR_insert 99 = .ok (.iload_n 1, 1) := by decide +kernel
theorem d_LR_insert_100 : decode b_LR_insert 100 = .ok (.iload_n 3, 1) := by decide +kernel
theorem d_LR_insert_101 : decode b_LR_insert 101 = .ok (.iastore, 1) := by decide +kernel
theorem d_LR_insert_102 : decode b_LR_insert 102 = .ok (.aload_n 0, 1) := by decide +kernel
theorem d_LR_insert_103 : decode b_LR_insert 103 = .ok (.getfield 18, 3) := by decide +kernel
theorem d_LR_insert_106 : decode b_LR_insert 106 = .ok (.iload_n 1, 1) := by decide +kernel
theorem d_LR_insert_107 : decode b_LR_insert 107 = .ok (.iload 4, 2) := by decide +kernel
theorem d_LR_insert_109 : decode b_LR_insert 109 = .ok (.iastore, 1) := by decide +kernel
theorem d_LR_insert_110 : decode b_LR_insert 110 = .ok (.aload_n 0, 1) := by decide +kernel
theorem d_LR_insert_111 : decode b_LR_insert 111 = .ok (.dup, 1) := by decide +kernel
theorem d_LR_insert_112 : decode b_LR_insert 112 = .ok (.getfield 35, 3) := by decide +kernel
theorem d_LR_insert_115 : decode b_LR_insert 115 = .ok (.iconst 1, 1) := by decide +kernel
theorem d_LR_insert_116 : decode b_LR_insert 116 = .ok (.iadd, 1) := by decide +kernel
theorem d_LR_insert_117 : decode b_LR_insert 117 = .ok (.putfield 35, 3) := by decide +kernel
theorem d_LR_insert_120 : decode b_LR_insert 120 = .ok (.return_, 1) := by decide +kernel
theorem d_LR_compose_0 : decode b_LR_compose 0 = .ok (.aload_n 0, 1) := by decide +kernel
theorem d_LR_compose_1 : decode b_LR_compose 1 = .ok (.iconst 0, 1) := by decide +kernel
theorem d_LR_compose_2 : decode b_LR_compose 2 = .ok (.putfield 32, 3) := by decide +kernel
theorem d_LR_compose_5 : decode b_LR_compose 5 = .ok (.iconst 0, 1) := by decide +kernel
theorem d_LR_compose_6 : decode b_LR_compose 6 = .ok (.istore_n 2, 1) := by decide +kernel
theorem d_LR_compose_7 : decode b_LR_compose 7 = .ok (.iload_n 2, 1) := by decide +kernel
theorem d_LR_compose_8 : decode b_LR_compose 8 = .ok (.aload_n 0, 1) := by decide +kernel
theorem d_LR_compose_9 : decode b_LR_compose 9 = .ok (.getfield 35, 3) := by decide +kernel
theorem d_LR_compose_12 : decode b_LR_compose 12 = .ok (.if_icmp .ge 51, 3) := by decide +kernel
theorem d_LR_compose_15 : decode b_LR_compose 15 = .ok (.iload_n 2, 1) := by decide +kernel
theorem d_LR_compose_16 : decode b_LR_compose 16 = .ok (.ifCond .le 9, 3) := by decide +kernel
theorem d_LR_compose_19 : decode b_LR_compose 19 = .ok (.aload_n 0, 1) := by decide +kernel
theorem d_LR_compose_20 : decode b_LR_compose 20 = .ok (.bipush 44, 2) := by decide +kernel
theorem d_LR_compose_22 : decode b_LR_compose 22 = .ok (.invokevirtual 79, 3) := by decide +kernel
theorem d_LR_compose_25 : decode b_LR_compose 25 = .ok (.aload_n 0, 1) := by decide +kernel
theorem d_LR_compose_26 : decode b_LR_compose 26 = .ok (.getfield 9, 3) := by decide +kernel
theorem d_LR_compose_29 : decode b_LR_compose 29 = .ok (.iload_n 2, 1) := by decide +kernel
theorem d_LR_compose_30 : decode b_LR_compose 30 = .ok (.iaload, 1) := by decide +kernel
theorem d_LR_compose_31 : decode b_LR_compose 31 = .ok (.istore_n 3, 1) := by decide +kernel
theorem d_LR_compose_32 : decode b_LR_compose 32 = .ok (.iload_n 3, 1) := by decide +kernel
theorem d_LR_compose_33 : decode b_LR_compose 33 = .ok (.aload_n 0, 1) := by decide +kernel
theorem d_LR_compose_34 : decode b_LR_compose 34 = .ok (.getfield 18, 3) := by decide +kernel
theorem d_LR_compose_37 : decode b_LR_compose 37 = .ok (.iload_n 2, 1) := by decide +kernel
theorem d_LR_compose_38 : decode b_LR_compose 38 = .ok (.iaload, 1) := by decide +kernel
theorem d_LR_compose_39 : decode b_LR_compose 39 = .ok (.if_icmp .ge 18, 3) := by decide +kernel
theorem d_LR_compose_42 : decode b_LR_compose 42 = .ok (.aload_n 0, 1) := by decide +kernel
theorem d_LR_compose_43 : decode b_LR_compose 43 = .ok (.aload_n 1, 1) := by decide +kernel
theorem d_LR_compose_44 : decode b_LR_compose 44 = .ok (.iload_n 3, 1) := by decide +kernel
theorem d_LR_compose_45 : decode b_LR_compose 45 = .ok (.invokevirtual 52, 3) := by decide +kernel
theorem d_LR_compose_48 : decode b_LR_compose 48 = .ok (.invokevirtual 79, 3) := by decide +kernel
theorem d_LR_compose_51 : decode b_LR_compose 51 = .ok (.iinc 3 1, 3) := by decide +kernel
theorem d_LR_compose_54 : decode b_LR_compose 54 = .ok (.goto (-22), 3) := by decide +kernel
theorem d_LR_compose_57 : decode b_LR_compose 57 = .ok (.iinc 2 1, 3) := by decide +kernel
theorem d_LR_compose_60 : decode b_LR_compose 60 = .ok (.goto (-53), 3) := by decide +kernel
theorem d_LR_compose_63 : decode b_LR_compose 63 = .ok (.return_, 1) := by decide +kernel
theorem d_LR_addLetter_0 : decode b_LR_addLetter 0 = .ok (.aload_n 0, 1) := by decide +kernel
theorem d_LR_addLetter_1 : decode b_LR_addLetter 1 = .ok (.getfield 32, 3) := by decide +kernel
theorem d_LR_addLetter_4 : decode b_LR_addLetter 4 = .ok (.aload_n 0, 1) := by decide +kernel
theorem d_LR_addLetter_5 : decode b_LR_addLetter 5 = .ok (.getfield 21, 3) := by decide +kernel
theorem d_LR_addLetter_8 : decode b_LR_addLetter 8 = .ok (.arraylength, 1) := by decide +kernel
theorem d_LR_addLetter_9 : decode b_LR_addLetter 9 = .ok (.if_icmp .ge 24, 3) := by decide +kernel
theorem d_LR_addLetter_12 : decode b_LR_addLetter 12 = .ok (.aload_n 0, 1) := by decide +kernel
theorem d_LR_addLetter_13 : decode b_LR_addLetter 13 = .ok (.getfield 21, 3) := by decide +kernel
theorem d_LR_addLetter_16 : decode b_LR_addLetter 16 = .ok (.aload_n 0, 1) := by decide +kernel
theorem d_LR_addLetter_17 : decode b_LR_addLetter 17 = .ok (.getfield 32, 3) := by decide +kernel
theorem d_LR_addLetter_20 : decode b_LR_addLetter 20 = .ok (.iload_n 1, 1) := by decide +kernel
theorem d_LR_addLetter_21 : decode b_LR_addLetter 21 = .ok (.i2b, 1) := by decide +kernel
theorem d_LR_addLetter_22 : decode b_LR_addLetter 22 = .ok (.bastore, 1) := by decide +kernel
theorem d_LR_addLetter_23 : decode b_LR_addLetter 23 = .ok (.aload_n 0, 1) := by decide +kernel
theorem d_LR_addLetter_24 : decode b_LR_addLetter 24 = .ok (.dup, 1) := by decide +kernel
theorem d_LR_addLetter_25 : decode b_LR_addLetter 25 = .ok (.getfield 32, 3) := by decide +kernel
theorem d_LR_addLetter_28 : decode b_LR_addLetter 28 = .ok (.iconst 1, 1) := by decide +kernel
theorem d_LR_addLetter_29 : decode b_LR_addLetter 29 = .ok (.iadd, 1) := by decide +kernel
theorem d_LR_addLetter_30 : decode b_LR_addLetter 30 = .ok (.putfield 32, 3) := by decide +kernel
theorem d_LR_addLetter_33 : decode b_LR_addLetter 33 = .ok (.return_, 1) := by decide +kernel
theorem d_LR_make_0 : decode b_LR_make 0 = .ok (.aload_n 0, 1) := by decide +kernel
theorem d_LR_make_1 : decode b_LR_make 1 = .ok (.getfield 35, 3) := by decide +kernel
theorem d_LR_make_4 : decode b_LR_make 4 = .ok (.newarray .int, 2) := by decide +kernel
theorem d_LR_make_6 : decode b_LR_make 6 = .ok (.astore_n 1, 1) := by decide +kernel
theorem d_LR_make_7 : decode b_LR_make 7 = .ok (.aload_n 0, 1) := by decide +kernel
theorem d_LR_make_8 : decode b_LR_make 8 = .ok (.getfield 35, 3) := by decide +kernel
theorem d_LR_make_11 : decode b_LR_make 11 = .ok (.newarray .int, 2) := by decide +kernel
theorem d_LR_make_13 : decode b_LR_make 13 = .ok (.astore_n 2, 1) := by decide +kernel
theorem d_LR_make_14 : decode b_LR_make 14 = .ok (.aload_n 0, 1) := by decide +kernel
theorem d_LR_make_15 : decode b_LR_make 15 = .ok (.getfield 35, 3) := by decide +kernel
theorem d_LR_make_18 : decode b_LR_make 18 = .ok (.newarray .int, 2) := by decide +kernel
theorem d_LR_make_20 : decode b_LR_make 20 = .ok (.astore_n 3, 1) := by decide +kernel
theorem d_LR_make_21 : decode b_LR_make 21 = .ok (.iconst 0, 1) := by decide +kernel
theorem d_LR_make_22 : decode b_LR_make 22 = .ok (.istore 4, 2) := by decide +kernel
theorem d_LR_make_24 : decode b_LR_make 24 = .ok (.iconst 0, 1) := by decide +kernel
theorem d_LR_make_25 : decode b_LR_make 25 = .ok (.istore 5, 2) := by decide +kernel
theorem d_LR_make_27 : decode b_LR_make 27 = .ok (.iload 5, 2) := by decide +kernel
theorem d_LR_make_29 : decode b_LR_make 29 = .ok (.aload_n 0, 1) := by decide +kernel
theorem d_LR_make_30 : decode b_LR_make 30 = .ok (.getfield 35, 3) := by decide +kernel
theorem d_LR_make_33 : decode b_LR_make 33 = .ok (.if_icmp .ge 67, 3) := by decide +kernel
theorem d_LR_make_36 : decode b_LR_make 36 = .ok (.aload_n 1, 1) := by decide +kernel
theorem d_LR_make_37 : decode b_LR_make 37 = .ok (.iload 5, 2) := by decide +kernel
theorem d_LR_make_39 : decode b_LR_make 39 = .ok (.iload 4, 2) := by decide +kernel
theorem d_LR_make_41 : decode b_LR_make 41 = .ok (.iastore, 1) := by decide +kernel
theorem d_LR_make_42 : decode b_LR_make 42 = .ok (.aload_n 2, 1) := by decide +kernel
theorem d_LR_make_43 : decode b_LR_make 43 = .ok (.iload 5, 2) := by decide +kernel
theorem d_LR_make_45 : decode b_LR_make 45 = .ok (.iload 4, 2) := by decide +kernel
theorem d_LR_make_47 : decode b_LR_make 47 = .ok (.aload_n 0, 1) := by decide +kernel
theorem d_LR_make_48 : decode b_LR_make 48 = .ok (.getfield 15, 3) := by decide +kernel
theorem d_LR_make_51 : decode b_LR_make 51 = .ok (.iload 5, 2) := by decide +kernel
theorem d_LR_make_53 : decode b_LR_make 53 = .ok (.iaload, 1) := by decide +kernel
theorem d_LR_make_54 : decode b_LR_make 54 = .ok (.iadd, 1) := by decide +kernel
theorem d_LR_make_55 : decode b_LR_make 55 = .ok (.aload_n 0, 1) := by decide +kernel
theorem d_LR_make_56 : decode b_LR_make 56 = .ok (.getfield 9, 3) := by decide +kernel
theorem d_LR_make_59 : decode b_LR_make 59 = .ok (.iload 5, 2) := by decide +kernel
theorem d_LR_make_61 : decode b_LR_make 61 = .ok (.iaload, 1) := by decide +kernel
theorem d_LR_make_62 : decode b_LR_make 62 = .ok (.isub, 1) := by decide +kernel
theorem d_LR_make_63 : decode b_LR_make 63 = .ok (.iastore, 1) := by decide +kernel
theorem d_LR_make_64 : decode b_LR_make 64 = .ok (.aload_n 3, 1) := by decide +kernel
theorem d_LR_make_65 : decode b_LR_make 65 = .ok (.iload 5, 2) := by decide +kernel
theorem d_LR_make_67 : decode b_LR_make 67 = .ok (.iload 4, 2) := by decide +kernel
theorem d_LR_make_69 : decode b_LR_make 69 = .ok (.aload_n 0, 1) := by decide +kernel
theorem d_LR_make_70 : decode b_LR_make 70 = .ok (.getfield 18, 3) := by decide +kernel
theorem d_LR_make_73 : decode b_LR_make 73 = .ok (.iload 5, 2) := by decide +kernel
theorem d_LR_make_75 : decode b_LR_make 75 = .ok (.iaload, 1) := by decide +kernel
theorem d_LR_make_76 : decode b_LR_make 76 = .ok (.iadd, 1) := by decide +kernel
theorem d_LR_make_77 : decode b_LR_make 77 = .ok (.aload_n 0, 1) := by decide +kernel
theorem d_LR_make_78 : decode b_LR_make 78 = .ok (.getfield 9, 3) := by decide +kernel
theorem d_LR_make_81 : decode b_LR_make 81 = .ok (.iload 5, 2) := by decide +kernel
theorem d_LR_make_83 : decode b_LR_make 83 = .ok (.iaload, 1) := by decide +kernel
theorem d_LR_make_84 : decode b_LR_make 84 = .ok (.isub, 1) := by decide +kernel
theorem d_LR_make_85 : decode b_LR_make 85 = .ok (.iastore, 1) := by decide +kernel
theorem d_LR_make_86 : decode b_LR_make 86 = .ok (.aload_n 3, 1) := by decide +kernel
theorem d_LR_make_87 : decode b_LR_make 87 = .ok (.iload 5, 2) := by decide +kernel
theorem d_LR_make_89 : decode b_LR_make 89 = .ok (.iaload, 1) := by decide +kernel
theorem d_LR_make_90 : decode b_LR_make 90 = .ok (.iconst 1, 1) := by decide +kernel
theorem d_LR_make_91 : decode b_LR_make 91 = .ok (.iadd, 1) := by decide +kernel
theorem d_LR_make_92 : decode b_LR_make 92 = .ok (.istore 4, 2) := by decide +kernel
theorem d_LR_make_94 : decode b_LR_make 94 = .ok (.iinc 5 1, 3) := by decide +kernel
theorem d_LR_make_97 : decode b_LR_make 97 = .ok (.goto (-70), 3) := by decide +kernel
theorem d_LR_make_100 : decode b_LR_make 100 = .ok (.new 83, 3) := by decide +kernel
theorem d_LR_make_103 : decode b_LR_make 103 = .ok (.dup, 1) := by decide +kernel
theorem d_LR_make_104 : decode b_LR_make 104 = .ok (.aload_n 0, 1) := by decide +kernel
theorem d_LR_make_105 : decode b_LR_make 105 = .ok (.getfield 21, 3) := by decide +kernel
theorem d_LR_make_108 : decode b_LR_make 108 = .ok (.aload_n 0, 1) := by decide +kernel
theorem d_LR_make_109 : decode b_LR_make 109 = .ok (.getfield 32, 3) := by decide +kernel
theorem d_LR_make_112 : decode b_LR_make 112 = .ok (.invokestatic 85, 3) := by decide +kernel
theorem d_LR_make_115 : decode b_LR_make 115 = .ok (.aload_n 1, 1) := by decide +kernel
theorem d_LR_make_116 : decode b_LR_make 116 = .ok (.aload_n 2, 1) := by decide +kernel
theorem d_LR_make_117 : decode b_LR_make 117 = .ok (.aload_n 3, 1) := by decide +kernel
theorem d_LR_make_118 : decode b_LR_make 118 = .ok (.invokespecial 91, 3) := by decide +kernel
theorem d_LR_make_121 : decode b_LR_make 121 = .ok (.areturn, 1) := by decide +kernel

set_option maxHeartbeats 4000000 in
set_option maxRecDepth 100000 in
theorem c_LR_faultCode (l : Launch) (D : jd_T) (a : Nat) (f_nameAt : Value) (f_signAt : Value) (f_valueEnd : Value) (f_labels : Int) (f_letters : Value) (f_length : Int) (f_faultCode : Int) (f_faultPlace : Int)  : jc_C l D y_LR_faultCode b_LR_faultCode 1 (some .int) { frames := 0, cells := 0, slots := 0, locals := 0 } [.ref a] [ob D a 4 [f_nameAt, f_signAt, f_valueEnd, .int (ii f_labels), f_letters, .int (ii f_length), .int (ii f_faultCode), .int (ii f_faultPlace)]] (fun _ : Unit => (.returned (some (.int (ii f_faultCode))), True, [ob D a 4 [f_nameAt, f_signAt, f_valueEnd, .int (ii f_labels), f_letters, .int (ii f_length), .int (ii f_faultCode), .int (ii f_faultPlace)]])) := by
  refine jc_of rfl (Nat.le_of_ble_eq_true rfl) ?_
  intro X hl hR hN ok hnm fin
  subst hl
  show jw X 0 0 [ob D a 4 [f_nameAt, f_signAt, f_valueEnd, .int (ii f_labels), f_letters, .int (ii f_length), .int (ii f_faultCode), .int (ii f_faultPlace)]] [(0, .ref a)] 0 []
  refine jr_aload_n ok 0 d_LR_faultCode_0 rfl rfl ?_
  refine jr_get ok 0 f_LR_25 rfl rfl d_LR_faultCode_1 ?_
  exact jr_iret ok fin (Nat.le_refl _) (Nat.le_refl _) () rfl trivial sg_same d_LR_faultCode_4

set_option maxHeartbeats 4000000 in
set_option maxRecDepth 100000 in
theorem c_LR_faultPlace (l : Launch) (D : jd_T) (a : Nat) (f_nameAt : Value) (f_signAt : Value) (f_valueEnd : Value) (f_labels : Int) (f_letters : Value) (f_length : Int) (f_faultCode : Int) (f_faultPlace : Int)  : jc_C l D y_LR_faultPlace b_LR_faultPlace 1 (some .int) { frames := 0, cells := 0, slots := 0, locals := 0 } [.ref a] [ob D a 4 [f_nameAt, f_signAt, f_valueEnd, .int (ii f_labels), f_letters, .int (ii f_length), .int (ii f_faultCode), .int (ii f_faultPlace)]] (fun _ : Unit => (.returned (some (.int (ii f_faultPlace))), True, [ob D a 4 [f_nameAt, f_signAt, f_valueEnd, .int (ii f_labels), f_letters, .int (ii f_length), .int (ii f_faultCode), .int (ii f_faultPlace)]])) := by
  refine jc_of rfl (Nat.le_of_ble_eq_true rfl) ?_
  intro X hl hR hN ok hnm fin
  subst hl
  show jw X 0 0 [ob D a 4 [f_nameAt, f_signAt, f_valueEnd, .int (ii f_labels), f_letters, .int (ii f_length), .int (ii f_faultCode), .int (ii f_faultPlace)]] [(0, .ref a)] 0 []
  refine jr_aload_n ok 0 d_LR_faultPlace_0 rfl rfl ?_
  refine jr_get ok 0 f_LR_29 rfl rfl d_LR_faultPlace_1 ?_
  exact jr_iret ok fin (Nat.le_refl _) (Nat.le_refl _) () rfl trivial sg_same d_LR_faultPlace_4

set_option maxHeartbeats 4000000 in
set_option maxRecDepth 100000 in
theorem c_LR_length (l : Launch) (D : jd_T) (a : Nat) (f_nameAt : Value) (f_signAt : Value) (f_valueEnd : Value) (f_labels : Int) (f_letters : Value) (f_length : Int) (f_faultCode : Int) (f_faultPlace : Int)  : jc_C l D y_LR_length b_LR_length 1 (some .int) { frames := 0, cells := 0, slots := 0, locals := 0 } [.ref a] [ob D a 4 [f_nameAt, f_signAt, f_valueEnd, .int (ii f_labels), f_letters, .int (ii f_length), .int (ii f_faultCode), .int (ii f_faultPlace)]] (fun _ : Unit => (.returned (some (.int (ii f_length))), True, [ob D a 4 [f_nameAt, f_signAt, f_valueEnd, .int (ii f_labels), f_letters, .int (ii f_length), .int (ii f_faultCode), .int (ii f_faultPlace)]])) := by
  refine jc_of rfl (Nat.le_of_ble_eq_true rfl) ?_
  intro X hl hR hN ok hnm fin
  subst hl
  show jw X 0 0 [ob D a 4 [f_nameAt, f_signAt, f_valueEnd, .int (ii f_labels), f_letters, .int (ii f_length), .int (ii f_faultCode), .int (ii f_faultPlace)]] [(0, .ref a)] 0 []
  refine jr_aload_n ok 0 d_LR_length_0 rfl rfl ?_
  refine jr_get ok 0 f_LR_32 rfl rfl d_LR_length_1 ?_
  exact jr_iret ok fin (Nat.le_refl _) (Nat.le_refl _) () rfl trivial sg_same d_LR_length_4

