theorem d_QR_init_0 : decode b_QR_init 0 = .ok (.aload_n 0, 1) := by decide +kernel
theorem d_QR_init_1 : decode b_QR_init 1 = .ok (.invokespecial 3, 3) := by decide +kernel
theorem d_QR_init_4 : decode b_QR_init 4 = .ok (.aload_n 0, 1) := by decide +kernel
theorem d_QR_init_5 : decode b_QR_init 5 = .ok (.aload_n 1, 1) := by decide +kernel
theorem d_QR_init_6 : decode b_QR_init 6 = .ok (.putfield 9, 3) := by decide +kernel
theorem d_QR_init_9 : decode b_QR_init 9 = .ok (.aload_n 0, 1) := by decide +kernel
theorem d_QR_init_10 : decode b_QR_init 10 = .ok (.aload_n 2, 1) := by decide +kernel
theorem d_QR_init_11 : decode b_QR_init 11 = .ok (.putfield 15, 3) := by decide +kernel
theorem d_QR_init_14 : decode b_QR_init 14 = .ok (.aload_n 0, 1) := by decide +kernel
theorem d_QR_init_15 : decode b_QR_init 15 = .ok (.new 19, 3) := by decide +kernel
theorem d_QR_init_18 : decode b_QR_init 18 = .ok (.dup, 1) := by decide +kernel
theorem d_QR_init_19 : decode b_QR_init 19 = .ok (.aload_n 1, 1) := by decide +kernel
theorem d_QR_init_20 : decode b_QR_init 20 = .ok (.invokespecial 21, 3) := by decide +kernel
theorem d_QR_init_23 : decode b_QR_init 23 = .ok (.putfield 24, 3) := by decide +kernel
theorem d_QR_init_26 : decode b_QR_init 26 = .ok (.return_, 1) := by decide +kernel
theorem d_QR_faultCode_0 : decode b_QR_faultCode 0 = .ok (.aload_n 0, 1) := by decide +kernel
theorem d_QR_faultCode_1 : decode b_QR_faultCode 1 = .ok (.getfield 28, 3) := by decide +kernel
theorem d_QR_faultCode_4 : decode b_QR_faultCode 4 = .ok (.ireturn, 1) := by decide +kernel
theorem d_QR_faultPlace_0 : decode b_QR_faultPlace 0 = .ok (.aload_n 0, 1) := by decide +kernel
theorem d_QR_faultPlace_1 : decode b_QR_faultPlace 1 = .ok (.getfield 32, 3) := by decide +kernel
theorem d_QR_faultPlace_4 : decode b_QR_faultPlace 4 = .ok (.ireturn, 1) := by decide +kernel
theorem d_QR_naming_0 : decode b_QR_naming 0 = .ok (.aload_n 0, 1) := by decide +kernel
theorem d_QR_naming_1 : decode b_QR_naming 1 = .ok (.getfield 35, 3) := by decide +kernel
theorem d_QR_naming_4 : decode b_QR_naming 4 = .ok (.ireturn, 1) := by decide +kernel
theorem d_QR_read_0 : decode b_QR_read 0 = .ok (.aload_n 0, 1) := by decide +kernel
theorem d_QR_read_1 : decode b_QR_read 1 = .ok (.getfield 15, 3) := by decide +kernel
theorem d_QR_read_4 : decode b_QR_read 4 = .ok (.invokevirtual 38, 3) := by decide +kernel
theorem d_QR_read_7 : decode b_QR_read 7 = .ok (.aload_n 0, 1) := by decide +kernel
theorem d_QR_read_8 : decode b_QR_read 8 = .ok (.iconst 0, 1) := by decide +kernel
theorem d_QR_read_9 : decode b_QR_read 9 = .ok (.putfield 28, 3) := by decide +kernel
theorem d_QR_read_12 : decode b_QR_read 12 = .ok (.aload_n 0, 1) := by decide +kernel
theorem d_QR_read_13 : decode b_QR_read 13 = .ok (.iconst 0, 1) := by decide +kernel
theorem d_QR_read_14 : decode b_QR_read 14 = .ok (.putfield 32, 3) := by decide +kernel
theorem d_QR_read_17 : decode b_QR_read 17 = .ok (.aload_n 0, 1) := by decide +kernel
theorem d_QR_read_18 : decode b_QR_read 18 = .ok (.iconst (-1), 1) := by decide +kernel
theorem d_QR_read_19 : decode b_QR_read 19 = .ok (.putfield 43, 3) := by decide +kernel
theorem d_QR_read_22 : decode b_QR_read 22 = .ok (.aload_n 0, 1) := by decide +kernel
theorem d_QR_read_23 : decode b_QR_read 23 = .ok (.getfield 24, 3) := by decide +kernel
theorem d_QR_read_26 : decode b_QR_read 26 = .ok (.invokevirtual 46, 3) := by decide +kernel
theorem d_QR_read_29 : decode b_QR_read 29 = .ok (.aload_n 0, 1) := by decide +kernel
theorem d_QR_read_30 : decode b_QR_read 30 = .ok (.aload_n 0, 1) := by decide +kernel
theorem d_QR_read_31 : decode b_QR_read 31 = .ok (.iconst 0, 1) := by decide +kernel
theorem d_QR_read_32 : decode b_QR_read 32 = .ok (.invokevirtual 49, 3) := by decide +kernel
theorem d_QR_read_35 : decode b_QR_read 35 = .ok (.putfield 35, 3) := by decide +kernel
theorem d_QR_read_38 : decode b_QR_read 38 = .ok (.aload_n 0, 1) := by decide +kernel
theorem d_QR_read_39 : decode b_QR_read 39 = .ok (.getfield 24, 3) := by decide +kernel
theorem d_QR_read_42 : decode b_QR_read 42 = .ok (.invokevirtual 53, 3) := by decide +kernel
theorem d_QR_read_45 : decode b_QR_read 45 = .ok (.sipush 301, 3) := by decide +kernel
theorem d_QR_read_48 : decode b_QR_read 48 = .ok (.if_icmp .eq 8, 3) := by decide +kernel
theorem d_QR_read_51 : decode b_QR_read 51 = .ok (.aload_n 0, 1) := by decide +kernel
theorem d_QR_read_52 : decode b_QR_read 52 = .ok (.iconst 2, 1) := by decide +kernel
theorem d_QR_read_53 : decode b_QR_read 53 = .ok (.invokevirtual 57, 3) := by decide +kernel
theorem d_QR_read_56 : decode b_QR_read 56 = .ok (.aload_n 0, 1) := by decide +kernel
theorem d_QR_read_57 : decode b_QR_read 57 = .ok (.getfield 28, 3) := by decide +kernel
theorem d_QR_read_60 : decode b_QR_read 60 = .ok (.ifCond .ne 24, 3) := by decide +kernel
theorem d_QR_read_63 : decode b_QR_read 63 = .ok (.aload_n 0, 1) := by decide +kernel
theorem d_QR_read_64 : decode b_QR_read 64 = .ok (.getfield 43, 3) := by decide +kernel
theorem d_QR_read_67 : decode b_QR_read 67 = .ok (.iconst (-1), 1) := by decide +kernel
theorem d_QR_read_68 : decode b_QR_read 68 = .ok (.if_icmp .eq 16, 3) := by decide +kernel
theorem d_QR_read_71 : decode b_QR_read 71 = .ok (.aload_n 0, 1) := by decide +kernel
theorem d_QR_read_72 : decode b_QR_read 72 = .ok (.iconst 5, 1) := by decide +kernel
theorem d_QR_read_73 : decode b_QR_read 73 = .ok (.putfield 28, 3) := by decide +kernel
theorem d_QR_read_76 : decode b_QR_read 76 = .ok (.aload_n 0, 1) := by decide +kernel
theorem d_QR_read_77 : decode b_QR_read 77 = .ok (.aload_n 0, 1) := by decide +kernel
theorem d_QR_read_78 : decode b_QR_read 78 = .ok (.getfield 43, 3) := by decide +kernel
theorem d_QR_read_81 : decode b_QR_read 81 = .ok (.putfield 32, 3) := by decide +kernel
theorem d_QR_read_84 : decode b_QR_read 84 = .ok (.aload_n 0, 1) := by decide +kernel
theorem d_QR_read_85 : decode b_QR_read 85 = .ok (.getfield 28, 3) := by decide +kernel
theorem d_QR_read_88 : decode b_QR_read 88 = .ok (.ifCond .ne 7, 3) := by decide +kernel
theorem d_QR_read_91 : decode b_QR_read 91 = .ok (.iconst 1, 1) := by decide +kernel
theorem d_QR_read_92 : decode b_QR_read 92 = .ok (.goto 4, 3) := by decide +kernel
theorem d_QR_read_95 : decode b_QR_read 95 = .ok (.iconst 0, 1) := by decide +kernel
theorem d_QR_read_96 : decode b_QR_read 96 = .ok (.ireturn, 1) := by decide +kernel
theorem d_QR_refuse_0 : decode b_QR_refuse 0 = .ok (.aload_n 0, 1) := by decide +kernel
theorem d_QR_refuse_1 : decode b_QR_refuse 1 = .ok (.getfield 28, 3) := by decide +kernel
theorem d_QR_refuse_4 : decode b_QR_refuse 4 = .ok (.ifCond .ne 36, 3) := by decide +kernel
theorem d_QR_refuse_7 : decode b_QR_refuse 7 = .ok (.aload_n 0, 1) := by decide +kernel
theorem d_QR_refuse_8 : decode b_QR_refuse 8 = .ok (.aload_n 0, 1) := by decide +kernel
theorem d_QR_refuse_9 : decode b_QR_refuse 9 = .ok (.getfield 24, 3) := by decide +kernel
theorem d_QR_refuse_12 : decode b_QR_refuse 12 = .ok (.invokevirtual 53, 3) := by decide +kernel
theorem d_QR_refuse_15 : decode b_QR_refuse 15 = .ok (.sipush 300, 3) := by decide +kernel
theorem d_QR_refuse_18 : decode b_QR_refuse 18 = .ok (.if_icmp .ne 7, 3) := by decide +kernel
theorem d_QR_refuse_21 : decode b_QR_refuse 21 = .ok (.iconst 1, 1) := by decide +kernel
theorem d_QR_refuse_22 : decode b_QR_refuse 22 = .ok (.goto 4, 3) := by decide +kernel
theorem d_QR_refuse_25 : decode b_QR_refuse 25 = .ok (.iload_n 1, 1) := by decide +kernel
theorem d_QR_refuse_26 : decode b_QR_refuse 26 = .ok (.putfield 28, 3) := by decide +kernel
theorem d_QR_refuse_29 : decode b_QR_refuse 29 = .ok (.aload_n 0, 1) := by decide +kernel
theorem d_QR_refuse_30 : decode b_QR_refuse 30 = .ok (.aload_n 0, 1) := by decide +kernel
theorem d_QR_refuse_31 : decode b_QR_refuse 31 = .ok (.getfield 24, 3) := by decide +kernel
theorem d_QR_refuse_34 : decode b_QR_refuse 34 = .ok (.invokevirtual 61, 3) := by decide +kernel
theorem d_QR_refuse_37 : decode b_QR_refuse 37 = .ok (.putfield 32, 3) := by decide +kernel
theorem d_QR_refuse_40 : decode b_QR_refuse 40 = .ok (.aload_n 0, 1) := by decide +kernel
theorem d_QR_refuse_41 : decode b_QR_refuse 41 = .ok (.getfield 24, 3) := by decide +kernel
theorem d_QR_refuse_44 : decode b_QR_refuse 44 = .ok (.invokevirtual 64, 3) := by decide +kernel
theorem d_QR_refuse_47 : decode b_QR_refuse 47 = .ok (.return_, 1) := by decide +kernel
theorem d_QR_take_0 : decode b_QR_take 0 = .ok (.aload_n 0, 1) := by decide +kernel
theorem d_QR_take_1 : decode b_QR_take 1 = .ok (.getfield 24, 3) := by decide +kernel
theorem d_QR_take_4 : decode b_QR_take 4 = .ok (.invokevirtual 53, 3) := by decide +kernel
theorem d_QR_take_7 : decode b_QR_take 7 = .ok (.iload_n 1, 1) := by decide +kernel
theorem d_QR_take_8 : decode b_QR_take 8 = .ok (.if_icmp .ne 13, 3) := by decide +kernel
theorem d_QR_take_11 : decode b_QR_take 11 = .ok (.aload_n 0, 1) := by decide +kernel
theorem d_QR_take_12 : decode b_QR_take 12 = .ok (.getfield 24, 3) := by decide +kernel
theorem d_QR_take_15 : decode b_QR_take 15 = .ok (.invokevirtual 67, 3) := by decide +kernel
theorem d_QR_take_18 : decode b_QR_take 18 = .ok (.goto 8, 3) := by decide +kernel
theorem d_QR_take_21 : decode b_QR_take 21 = .ok (.aload_n 0, 1) := by decide +kernel
theorem d_QR_take_22 : decode b_QR_take 22 = .ok (.iconst 2, 1) := by decide +kernel
theorem d_QR_take_23 : decode b_QR_take 23 = .ok (.invokevirtual 57, 3) := by decide +kernel
theorem d_QR_take_26 : decode b_QR_take 26 = .ok (.return_, 1) := by decide +kernel
theorem d_QR_readSum_0 : decode b_QR_readSum 0 = .ok (.aload_n 0, 1) := by decide +kernel
theorem d_QR_readSum_1 : decode b_QR_readSum 1 = .ok (.iload_n 1, 1) := by decide +kernel
theorem d_QR_readSum_2 : decode b_QR_readSum 2 = .ok (.invokevirtual 70, 3) := by decide +kernel
theorem d_QR_readSum_5 : decode b_QR_readSum 5 = .ok (.istore_n 2, 1) := by decide +kernel
theorem d_QR_readSum_6 : decode b_QR_readSum 6 = .ok (.aload_n 0, 1) := by decide +kernel
theorem d_QR_readSum_7 : decode b_QR_readSum 7 = .ok (.getfield 9, 3) := by decide +kernel
theorem d_QR_readSum_10 : decode b_QR_readSum 10 = .ok (.invokevirtual 73, 3) := by decide +kernel
theorem d_QR_readSum_13 : decode b_QR_readSum 13 = .ok (.istore_n 3, 1) := by decide +kernel
theorem d_QR_readSum_14 : decode b_QR_readSum 14 = .ok (.iload_n 3, 1) := by decide +kernel
theorem d_QR_readSum_15 : decode b_QR_readSum 15 = .ok (.ifCond .le 69, 3) := by decide +kernel
theorem d_QR_readSum_18 : decode b_QR_readSum 18 = .ok (.aload_n 0, 1) := by decide +kernel
theorem d_QR_readSum_19 : decode b_QR_readSum 19 = .ok (.getfield 24, 3) := by decide +kernel
theorem d_QR_readSum_22 : decode b_QR_readSum 22 = .ok (.invokevirtual 53, 3) := by decide +kernel
theorem d_QR_readSum_25 : decode b_QR_readSum 25 = .ok (.invokestatic 78, 3) := by decide +kernel
theorem d_QR_readSum_28 : decode b_QR_readSum 28 = .ok (.ifCond .eq 56, 3) := by decide +kernel
theorem d_QR_readSum_31 : decode b_QR_readSum 31 = .ok (.aload_n 0, 1) := by decide +kernel
theorem d_QR_readSum_32 : decode b_QR_readSum 32 = .ok (.getfield 24, 3) := by decide +kernel
theorem d_QR_readSum_35 : decode b_QR_readSum 35 = .ok (.invokevirtual 53, 3) := by decide +kernel
theorem d_QR_readSum_38 : decode b_QR_readSum 38 = .ok (.istore 4, 2) := by decide +kernel
theorem d_QR_readSum_40 : decode b_QR_readSum 40 = .ok (.aload_n 0, 1) := by decide +kernel
theorem d_QR_readSum_41 : decode b_QR_readSum 41 = .ok (.getfield 24, 3) := by decide +kernel
theorem d_QR_readSum_44 : decode b_QR_readSum 44 = .ok (.invokevirtual 61, 3) := by decide +kernel
theorem d_QR_readSum_47 : decode b_QR_readSum 47 = .ok (.istore 5, 2) := by decide +kernel
theorem d_QR_readSum_49 : decode b_QR_readSum 49 = .ok (.aload_n 0, 1) := by decide +kernel
theorem d_QR_readSum_50 : decode b_QR_readSum 50 = .ok (.getfield 24, 3) := by decide +kernel
theorem d_QR_readSum_53 : decode b_QR_readSum 53 = .ok (.invokevirtual 67, 3) := by decide +kernel
theorem d_QR_readSum_56 : decode b_QR_readSum 56 = .ok (.aload_n 0, 1) := by decide +kernel
theorem d_QR_readSum_57 : decode b_QR_readSum 57 = .ok (.iload_n 2, 1) := by decide +kernel
theorem d_QR_readSum_58 : decode b_QR_readSum 58 = .ok (.aload_n 0, 1) := by decide +kernel
theorem d_QR_readSum_59 : decode b_QR_readSum 59 = .ok (.iload_n 1, 1) := by decide +kernel
theorem d_QR_readSum_60 : decode b_QR_readSum 60 = .ok (.invokevirtual 70, 3) := by decide +kernel
theorem d_QR_readSum_63 : decode b_QR_readSum 63 = .ok (.iload 5, 2) := by decide +kernel
theorem d_QR_readSum_65 : decode b_QR_readSum 65 = .ok (.invokevirtual 82, 3) := by decide +kernel
theorem d_QR_readSum_68 : decode b_QR_readSum 68 = .ok (.istore_n 2, 1) := by decide +kernel
theorem d_QR_readSum_69 : decode b_QR_readSum 69 = .ok (.aload_n 0, 1) := by decide +kernel
theorem d_QR_readSum_70 : decode b_QR_readSum 70 = .ok (.getfield 15, 3) := by decide +kernel
theorem d_QR_readSum_73 : decode b_QR_readSum 73 = .ok (.iload 4, 2) := by decide +kernel
theorem d_QR_readSum_75 : decode b_QR_readSum 75 = .ok (.invokevirtual 86, 3) := by decide +kernel
theorem d_QR_readSum_78 : decode b_QR_readSum 78 = .ok (.iinc 3 (-1), 3) := by decide +kernel
theorem d_QR_readSum_81 : decode b_QR_readSum 81 = .ok (.goto (-67), 3) := by decide +kernel
theorem d_QR_readSum_84 : decode b_QR_readSum 84 = .ok (.iload_n 2, 1) := by decide +kernel
theorem d_QR_readSum_85 : decode b_QR_readSum 85 = .ok (.ireturn, 1) := by decide +kernel
theorem d_QR_readProduct_0 : decode b_QR_readProduct 0 = .ok (.aload_n 0, 1) := by decide +kernel
theorem d_QR_readProduct_1 : decode b_QR_readProduct 1 = .ok (.iload_n 1, 1) := by decide +kernel
theorem d_QR_readProduct_2 : decode b_QR_readProduct 2 = .ok (.invokevirtual 89, 3) := by decide +kernel
theorem d_QR_readProduct_5 : decode b_QR_readProduct 5 = .ok (.istore_n 2, 1) := by decide +kernel
theorem d_QR_readProduct_6 : decode b_QR_readProduct 6 = .ok (.aload_n 0, 1) := by decide +kernel
theorem d_QR_readProduct_7 : decode b_QR_readProduct 7 = .ok (.getfield 9, 3) := by decide +kernel
theorem d_QR_readProduct_10 : decode b_QR_readProduct 10 = .ok (.invokevirtual 73, 3) := by decide +kernel
theorem d_QR_readProduct_13 : decode b_QR_readProduct 13 = .ok (.istore_n 3, 1) := by decide +kernel
theorem d_QR_readProduct_14 : decode b_QR_readProduct 14 = .ok (.iload_n 3, 1) := by decide +kernel
theorem d_QR_readProduct_15 : decode b_QR_readProduct 15 = .ok (.ifCond .le 69, 3) := by decide +kernel
theorem d_QR_readProduct_18 : decode b_QR_readProduct 18 = .ok (.aload_n 0, 1) := by decide +kernel
theorem d_QR_readProduct_19 : decode b_QR_readProduct 19 = .ok (.getfield 24, 3) := by decide +kernel
theorem d_QR_readProduct_22 : decode b_QR_readProduct 22 = .ok (.invokevirtual 53, 3) := by decide +kernel
theorem d_QR_readProduct_25 : decode b_QR_readProduct 25 = .ok (.invokestatic 92, 3) := by decide +kernel
theorem d_QR_readProduct_28 : decode b_QR_readProduct 28 = .ok (.ifCond .eq 56, 3) := by decide +kernel
theorem d_QR_readProduct_31 : decode b_QR_readProduct 31 = .ok (.aload_n 0, 1) := by decide +kernel
theorem d_QR_readProduct_32 : decode b_QR_readProduct 32 = .ok (.getfield 24, 3) := by decide +kernel
theorem d_QR_readProduct_35 : decode b_QR_readProduct 35 = .ok (.invokevirtual 53, 3) := by decide +kernel
theorem d_QR_readProduct_38 : decode b_QR_readProduct 38 = .ok (.istore 4, 2) := by decide +kernel
theorem d_QR_readProduct_40 : decode b_QR_readProduct 40 = .ok (.aload_n 0, 1) := by decide +kernel
theorem d_QR_readProduct_41 : decode b_QR_readProduct 41 = .ok (.getfield 24, 3) := by decide +kernel
theorem d_QR_readProduct_44 : decode b_QR_readProduct 44 = .ok (.invokevirtual 61, 3) := by decide +kernel
theorem d_QR_readProduct_47 : decode b_QR_readProduct 47 = .ok (.istore 5, 2) := by decide +kernel
theorem d_QR_readProduct_49 : decode b_QR_readProduct 49 = .ok (.aload_n 0, 1) := by decide +kernel
theorem d_QR_readProduct_50 : decode b_QR_readProduct 50 = .ok (.getfield 24, 3) := by decide +kernel
theorem d_QR_readProduct_53 : decode b_QR_readProduct 53 = .ok (.invokevirtual 67, 3) := by decide +kernel
theorem d_QR_readProduct_56 : decode b_QR_readProduct 56 = .ok (.aload_n 0, 1) := by decide +kernel
theorem d_QR_readProduct_57 : decode b_QR_readProduct 57 = .ok (.iload_n 2, 1) := by decide +kernel
theorem d_QR_readProduct_58 : decode b_QR_readProduct 58 = .ok (.aload_n 0, 1) := by decide +kernel
theorem d_QR_readProduct_59 : decode b_QR_readProduct 59 = .ok (.iload_n 1, 1) := by decide +kernel
theorem d_QR_readProduct_60 : decode b_QR_readProduct 60 = .ok (.invokevirtual 89, 3) := by decide +kernel
theorem d_QR_readProduct_63 : decode b_QR_readProduct 63 = .ok (.iload 5, 2) := by decide +kernel
theorem d_QR_readProduct_65 : decode b_QR_readProduct 65 = .ok (.invokevirtual 82, 3) := by decide +kernel
theorem d_QR_readProduct_68 : decode b_QR_readProduct 68 = .ok (.istore_n 2, 1) := by decide +kernel
theorem d_QR_readProduct_69 : decode b_QR_readProduct 69 = .ok (.aload_n 0, 1) := by decide +kernel
theorem d_QR_readProduct_70 : decode b_QR_readProduct 70 = .ok (.getfield 15, 3) := by decide +kernel
theorem d_QR_readProduct_73 : decode b_QR_readProduct 73 = .ok (.iload 4, 2) := by decide +kernel
theorem d_QR_readProduct_75 : decode b_QR_readProduct 75 = .ok (.invokevirtual 86, 3) := by decide +kernel
theorem d_QR_readProduct_78 : decode b_QR_readProduct 78 = .ok (.iinc 3 (-1), 3) := by decide +kernel
theorem d_QR_readProduct_81 : decode b_QR_readProduct 81 = .ok (.goto (-67), 3) := by decide +kernel
theorem d_QR_readProduct_84 : decode b_QR_readProduct 84 = .ok (.iload_n 2, 1) := by decide +kernel
theorem d_QR_readProduct_85 : decode b_QR_readProduct 85 = .ok (.ireturn, 1) := by decide +kernel
theorem d_QR_isSumSign_0 : decode b_QR_isSumSign 0 = .ok (.iload_n 0, 1) := by decide +kernel
theorem d_QR_isSumSign_1 : decode b_QR_isSumSign 1 = .ok (.bipush 43, 2) := by decide +kernel
theorem d_QR_isSumSign_3 : decode b_QR_isSumSign 3 = .ok (.if_icmp .eq 9, 3) := by decide +kernel
theorem d_QR_isSumSign_6 : decode b_QR_isSumSign 6 = .ok (.iload_n 0, 1) := by decide +kernel
theorem d_QR_isSumSign_7 : decode b_QR_isSumSign 7 = .ok (.bipush 45, 2) := by decide +kernel
theorem d_QR_isSumSign_9 : decode b_QR_isSumSign 9 = .ok (.if_icmp .ne 7, 3) := by decide +kernel
theorem d_QR_isSumSign_12 : decode b_QR_isSumSign 12 = .ok (.iconst 1, 1) := by decide +kernel
theorem d_QR_isSumSign_13 : decode b_QR_isSumSign 13 = .ok (.goto 4, 3) := by decide +kernel
theorem d_QR_isSumSign_16 : decode b_QR_isSumSign 16 = .ok (.iconst 0, 1) := by decide +kernel
theorem d_QR_isSumSign_17 : decode b_QR_isSumSign 17 = .ok (.ireturn, 1) := by decide +kernel
theorem d_QR_isProductSign_0 : decode b_QR_isProductSign 0 = .ok (.iload_n 0, 1) := by decide +kernel
theorem d_QR_isProductSign_1 : decode b_QR_isProductSign 1 = .ok (.bipush 42, 2) := by decide +kernel
theorem d_QR_isProductSign_3 : decode b_QR_isProductSign 3 = .ok (.if_icmp .eq 15, 3) := by decide +kernel
theorem d_QR_isProductSign_6 : decode b_QR_isProductSign 6 = .ok (.iload_n 0, 1) := by decide +kernel
theorem d_QR_isProductSign_7 : decode b_QR_isProductSign 7 = .ok (.bipush 47, 2) := by decide +kernel
theorem d_QR_isProductSign_9 : decode b_QR_isProductSign 9 = .ok (.if_icmp .eq 9, 3) := by decide +kernel
theorem d_QR_isProductSign_12 : decode b_QR_isProductSign 12 = .ok (.iload_n 0, 1) := by decide +kernel
theorem d_QR_isProductSign_13 : decode b_QR_isProductSign 13 = .ok (.bipush 37, 2) := by decide +kernel
theorem d_QR_isProductSign_15 : decode b_QR_isProductSign 15 = .ok (.if_icmp .ne 7, 3) := by decide +kernel
theorem d_QR_isProductSign_18 : decode b_QR_isProductSign 18 = .ok (.iconst 1, 1) := by decide +kernel
theorem d_QR_isProductSign_19 : decode b_QR_isProductSign 19 = .ok (.goto 4, 3) := by decide +kernel
theorem d_QR_isProductSign_22 : decode b_QR_isProductSign 22 = .ok (.iconst 0, 1) := by decide +kernel
theorem d_QR_isProductSign_23 : decode b_QR_isProductSign 23 = .ok (.ireturn, 1) := by decide +kernel
theorem d_QR_join_0 : decode b_QR_join 0 = .ok (.iload_n 1, 1) := by decide +kernel
theorem d_QR_join_1 : decode b_QR_join 1 = .ok (.iconst (-1), 1) := by decide +kernel
theorem d_QR_join_2 : decode b_QR_join 2 = .ok (.if_icmp .eq 8, 3) := by decide +kernel
theorem d_QR_join_5 : decode b_QR_join 5 = .ok (.iload_n 2, 1) := by decide +kernel
theorem d_QR_join_6 : decode b_QR_join 6 = .ok (.iconst (-1), 1) := by decide +kernel
theorem d_QR_join_7 : decode b_QR_join 7 = .ok (.if_icmp .ne 14, 3) := by decide +kernel
theorem d_QR_join_10 : decode b_QR_join 10 = .ok (.iload_n 1, 1) := by decide +kernel
theorem d_QR_join_11 : decode b_QR_join 11 = .ok (.iconst (-1), 1) := by decide +kernel
theorem d_QR_join_12 : decode b_QR_join 12 = .ok (.if_icmp .ne 7, 3) := by decide +kernel
theorem d_QR_join_15 : decode b_QR_join 15 = .ok (.iload_n 2, 1) := by decide +kernel
theorem d_QR_join_16 : decode b_QR_join 16 = .ok (.goto 4, 3) := by decide +kernel
theorem d_QR_join_19 : decode b_QR_join 19 = .ok (.iload_n 1, 1) := by decide +kernel
theorem d_QR_join_20 : decode b_QR_join 20 = .ok (.ireturn, 1) := by decide +kernel
theorem d_QR_join_21 : decode b_QR_join 21 = .ok (.aload_n 0, 1) := by decide +kernel
theorem d_QR_join_22 : decode b_QR_join 22 = .ok (.getfield 43, 3) := by decide +kernel
theorem d_QR_join_25 : decode b_QR_join 25 = .ok (.iconst (-1), 1) := by decide +kernel
theorem d_QR_join_26 : decode b_QR_join 26 = .ok (.if_icmp .ne 17, 3) := by decide +kernel
theorem d_QR_join_29 : decode b_QR_join 29 = .ok (.aload_n 0, 1) := by decide +kernel
theorem d_QR_join_30 : decode b_QR_join 30 = .ok (.iload_n 1, 1) := by decide +kernel
theorem d_QR_join_31 : decode b_QR_join 31 = .ok (.iload_n 2, 1) := by decide +kernel
theorem d_QR_join_32 : decode b_QR_join 32 = .ok (.invokevirtual 95, 3) := by decide +kernel
theorem d_QR_join_35 : decode b_QR_join 35 = .ok (.ifCond .ne 8, 3) := by decide +kernel
theorem d_QR_join_38 : decode b_QR_join 38 = .ok (.aload_n 0, 1) := by decide +kernel
theorem d_QR_join_39 : decode b_QR_join 39 = .ok (.iload_n 3, 1) := by decide +kernel
theorem d_QR_join_40 : decode b_QR_join 40 = .ok (.putfield 43, 3) := by decide +kernel
theorem d_QR_join_43 : decode b_QR_join 43 = .ok (.iload_n 1, 1) := by decide +kernel
theorem d_QR_join_44 : decode b_QR_join 44 = .ok (.ireturn, 1) := by decide +kernel
theorem d_QR_haveSameNames_0 : decode b_QR_haveSameNames 0 = .ok (.aload_n 0, 1) := by decide +kernel
theorem d_QR_haveSameNames_1 : decode b_QR_haveSameNames 1 = .ok (.getfield 15, 3) := by decide +kernel
theorem d_QR_haveSameNames_4 : decode b_QR_haveSameNames 4 = .ok (.iload_n 1, 1) := by decide +kernel
theorem d_QR_haveSameNames_5 : decode b_QR_haveSameNames 5 = .ok (.invokevirtual 99, 3) := by decide +kernel
theorem d_QR_haveSameNames_8 : decode b_QR_haveSameNames 8 = .ok (.aload_n 0, 1) := by decide +kernel
theorem d_QR_haveSameNames_9 : decode b_QR_haveSameNames 9 = .ok (.getfield 15, 3) := by decide +kernel
theorem d_QR_haveSameNames_12 : decode b_QR_haveSameNames 12 = .ok (.iload_n 2, 1) := by decide +kernel
theorem d_QR_haveSameNames_13 : decode b_QR_haveSameNames 13 = .ok (.invokevirtual 99, 3) := by decide +kernel
theorem d_QR_haveSameNames_16 : decode b_QR_haveSameNames 16 = .ok (.if_icmp .eq 5, 3) := by decide +kernel
theorem d_QR_haveSameNames_19 : decode b_QR_haveSameNames 19 = .ok (.iconst 0, 1) := by decide +kernel
theorem d_QR_haveSameNames_20 : decode b_QR_haveSameNames 20 = .ok (.ireturn, 1) := by decide +kernel
theorem d_QR_haveSameNames_21 : decode b_QR_haveSameNames 21 = .ok (.iconst 0, 1) := by decide +kernel
theorem d_QR_haveSameNames_22 : decode b_QR_haveSameNames 22 = .ok (.istore_n 3, 1) := by decide +kernel
theorem d_QR_haveSameNames_23 : decode b_QR_haveSameNames 23 = .ok (.iload_n 3, 1) := by decide +kernel
theorem d_QR_haveSameNames_24 : decode b_QR_haveSameNames 24 = .ok (.aload_n 0, 1) := by decide +kernel
theorem d_QR_haveSameNames_25 : decode b_QR_haveSameNames 25 = .ok (.getfield 15, 3) := by decide +kernel
theorem d_QR_haveSameNames_28 : decode b_QR_haveSameNames 28 = .ok (.iload_n 1, 1) := by decide +kernel
theorem d_QR_haveSameNames_29 : decode b_QR_haveSameNames 29 = .ok (.invokevirtual 99, 3) := by decide +kernel
theorem d_QR_haveSameNames_32 : decode b_QR_haveSameNames 32 = .ok (.if_icmp .ge 38, 3) := by decide +kernel
theorem d_QR_haveSameNames_35 : decode b_QR_haveSameNames 35 = .ok (.aload_n 0, 1) := by decide +kernel
theorem d_QR_haveSameNames_36 : decode b_QR_haveSameNames 36 = .ok (.iload_n 1, 1) := by decide +kernel
theorem d_QR_haveSameNames_37 : decode b_QR_haveSameNames 37 = .ok (.iload_n 3, 1) := by decide +kernel
theorem d_QR_haveSameNames_38 : decode b_QR_haveSameNames 38 = .ok (.aload_n 0, 1) := by decide +kernel
theorem d_QR_haveSameNames_39 : decode b_QR_haveSameNames 39 = .ok (.getfield 15, 3) := by decide +kernel
theorem d_QR_haveSameNames_42 : decode b_QR_haveSameNames 42 = .ok (.iload_n 2, 1) := by decide +kernel
theorem d_QR_haveSameNames_43 : decode b_QR_haveSameNames 43 = .ok (.iload_n 3, 1) := by decide +kernel
theorem d_QR_haveSameNames_44 : decode b_QR_haveSameNames 44 = .ok (.invokevirtual 102, 3) := by decide +kernel
theorem d_QR_haveSameNames_47 : decode b_QR_haveSameNames 47 = .ok (.aload_n 0, 1) := by decide +kernel
theorem d_QR_haveSameNames_48 : decode b_QR_haveSameNames 48 = .ok (.getfield 15, 3) := by decide +kernel
theorem d_QR_haveSameNames_51 : decode b_QR_haveSameNames 51 = .ok (.iload_n 2, 1) := by decide +kernel
theorem d_QR_haveSameNames_52 : decode b_QR_haveSameNames 52 = .ok (.iload_n 3, 1) := by decide +kernel
theorem d_QR_haveSameNames_53 : decode b_QR_haveSameNames 53 = .ok (.invokevirtual 106, 3) := by decide +kernel
theorem d_QR_haveSameNames_56 : decode b_QR_haveSameNames 56 = .ok (.invokevirtual 109, 3) := by decide +kernel
theorem d_QR_haveSameNames_59 : decode b_QR_haveSameNames 59 = .ok (.ifCond .ne 5, 3) := by decide +kernel
theorem d_QR_haveSameNames_62 : decode b_QR_haveSameNames 62 = .ok (.iconst 0, 1) := by decide +kernel
theorem d_QR_haveSameNames_63 : decode b_QR_haveSameNames 63 = .ok (.ireturn, 1) := by decide +kernel
theorem d_QR_haveSameNames_64 : decode b_QR_haveSameNames 64 = .ok (.iinc 3 1, 3) := by decide +kernel
theorem d_QR_haveSameNames_67 : decode b_QR_haveSameNames 67 = .ok (.goto (-44), 3) := by decide +kernel
theorem d_QR_haveSameNames_70 : decode b_QR_haveSameNames 70 = .ok (.iconst 1, 1) := by decide +kernel
theorem d_QR_haveSameNames_71 : decode b_QR_haveSameNames 71 = .ok (.ireturn, 1) := by decide +kernel
theorem d_QR_isName_0 : decode b_QR_isName 0 = .ok (.aload_n 0, 1) := by decide +kernel
theorem d_QR_isName_1 : decode b_QR_isName 1 = .ok (.getfield 15, 3) := by decide +kernel
theorem d_QR_isName_4 : decode b_QR_isName 4 = .ok (.iload_n 1, 1) := by decide +kernel
theorem d_QR_isName_5 : decode b_QR_isName 5 = .ok (.iload_n 2, 1) := by decide +kernel
theorem d_QR_isName_6 : decode b_QR_isName 6 = .ok (.invokevirtual 102, 3) := by decide +kernel
theorem d_QR_isName_9 : decode b_QR_isName 9 = .ok (.istore 5, 2) := by decide +kernel
theorem d_QR_isName_11 : decode b_QR_isName 11 = .ok (.aload_n 0, 1) := by decide +kernel
theorem d_QR_isName_12 : decode b_QR_isName 12 = .ok (.getfield 9, 3) := by decide +kernel
theorem d_QR_isName_15 : decode b_QR_isName 15 = .ok (.iload 5, 2) := by decide +kernel
theorem d_QR_isName_17 : decode b_QR_isName 17 = .ok (.iload 5, 2) := by decide +kernel
theorem d_QR_isName_19 : decode b_QR_isName 19 = .ok (.aload_n 0, 1) := by decide +kernel
theorem d_QR_isName_20 : decode b_QR_isName 20 = .ok (.getfield 15, 3) := by decide +kernel
theorem d_QR_isName_23 : decode b_QR_isName 23 = .ok (.iload_n 1, 1) := by decide +kernel
theorem d_QR_isName_24 : decode b_QR_isName 24 = .ok (.iload_n 2, 1) := by decide +kernel
theorem d_QR_isName_25 : decode b_QR_isName 25 = .ok (.invokevirtual 106, 3) := by decide +kernel
theorem d_QR_isName_28 : decode b_QR_isName 28 = .ok (.iadd, 1) := by decide +kernel
theorem d_QR_isName_29 : decode b_QR_isName 29 = .ok (.iload_n 3, 1) := by decide +kernel
theorem d_QR_isName_30 : decode b_QR_isName 30 = .ok (.iload_n 3, 1) := by decide +kernel
theorem d_QR_isName_31 : decode b_QR_isName 31 = .ok (.iload 4, 2) := by decide +kernel
theorem d_QR_isName_33 : decode b_QR_isName 33 = .ok (.iadd, 1) := by decide +kernel
theorem d_QR_isName_34 : decode b_QR_isName 34 = .ok (.invokevirtual 113, 3) := by decide +kernel
theorem d_QR_isName_37 : decode b_QR_isName 37 = .ok (.ifCond .ne 7, 3) := by decide +kernel
theorem d_QR_isName_40 : decode b_QR_isName 40 = .ok (.iconst 1, 1) := by decide +kernel
theorem d_QR_isName_41 : decode b_QR_isName 41 = .ok (.goto 4, 3) := by decide +kernel
theorem d_QR_isName_44 : decode b_QR_isName 44 = .ok (.iconst 0, 1) := by decide +kernel
theorem d_QR_isName_45 : decode b_QR_isName 45 = .ok (.ireturn, 1) := by decide +kernel
theorem d_QR_readFactor_0 : decode b_QR_readFactor 0 = .ok (.aload_n 0, 1) := by decide +kernel
theorem d_QR_readFactor_1 : decode b_QR_readFactor 1 = .ok (.getfield 24, 3) := by decide +kernel
theorem d_QR_readFactor_4 : decode b_QR_readFactor 4 = .ok (.invokevirtual 53, 3) := by decide +kernel
theorem d_QR_readFactor_7 : decode b_QR_readFactor 7 = .ok (.istore_n 2, 1) := by decide +kernel
theorem d_QR_readFactor_8 : decode b_QR_readFactor 8 = .ok (.iload_n 2, 1) := by decide +kernel
theorem d_QR_readFactor_9 : decode b_QR_readFactor 9 = .ok (.sipush 302, 3) := by decide +kernel
theorem d_QR_readFactor_12 : decode b_QR_readFactor 12 = .ok (.if_icmp .ne 26, 3) := by decide +kernel
theorem d_QR_readFactor_15 : decode b_QR_readFactor 15 = .ok (.aload_n 0, 1) := by decide +kernel
theorem d_QR_readFactor_16 : decode b_QR_readFactor 16 = .ok (.getfield 15, 3) := by decide +kernel
theorem d_QR_readFactor_19 : decode b_QR_readFactor 19 = .ok (.aload_n 0, 1) := by decide +kernel
theorem d_QR_readFactor_20 : decode b_QR_readFactor 20 = .ok (.getfield 24, 3) := by decide +kernel
theorem d_QR_readFactor_23 : decode b_QR_readFactor 23 = .ok (.invokevirtual 117, 3) := by decide +kernel
theorem d_QR_readFactor_26 : decode b_QR_readFactor 26 = .ok (.invokevirtual 121, 3) := by decide +kernel
theorem d_QR_readFactor_29 : decode b_QR_readFactor 29 = .ok (.aload_n 0, 1) := by decide +kernel
theorem d_QR_readFactor_30 : decode b_QR_readFactor 30 = .ok (.getfield 24, 3) := by decide +kernel
theorem d_QR_readFactor_33 : decode b_QR_readFactor 33 = .ok (.invokevirtual 67, 3) := by decide +kernel
theorem d_QR_readFactor_36 : decode b_QR_readFactor 36 = .ok (.iconst (-1), 1) := by decide +kernel
theorem d_QR_readFactor_37 : decode b_QR_readFactor 37 = .ok (.ireturn, 1) := by decide +kernel
theorem d_QR_readFactor_38 : decode b_QR_readFactor 38 = .ok (.iload_n 2, 1) := by decide +kernel
theorem d_QR_readFactor_39 : decode b_QR_readFactor 39 = .ok (.bipush 40, 2) := by decide +kernel
theorem d_QR_readFactor_41 : decode b_QR_readFactor 41 = .ok (.if_icmp .eq 9, 3) := by decide +kernel
theorem d_QR_readFactor_44 : decode b_QR_readFactor 44 = .ok (.iload_n 2, 1) := by decide +kernel
theorem d_QR_readFactor_45 : decode b_QR_readFactor 45 = .ok (.bipush 45, 2) := by decide +kernel
theorem d_QR_readFactor_47 : decode b_QR_readFactor 47 = .ok (.if_icmp .ne 10, 3) := by decide +kernel
theorem d_QR_readFactor_50 : decode b_QR_readFactor 50 = .ok (.aload_n 0, 1) := by decide +kernel
theorem d_QR_readFactor_51 : decode b_QR_readFactor 51 = .ok (.iload_n 2, 1) := by decide +kernel
theorem d_QR_readFactor_52 : decode b_QR_readFactor 52 = .ok (.iload_n 1, 1) := by decide +kernel
theorem d_QR_readFactor_53 : decode b_QR_readFactor 53 = .ok (.invokevirtual 125, 3) := by decide +kernel
theorem d_QR_readFactor_56 : decode b_QR_readFactor 56 = .ok (.ireturn, 1) := by decide +kernel
theorem d_QR_readFactor_57 : decode b_QR_readFactor 57 = .ok (.aload_n 0, 1) := by decide +kernel
theorem d_QR_readFactor_58 : decode b_QR_readFactor 58 = .ok (.invokevirtual 128, 3) := by decide +kernel
theorem d_QR_readFactor_61 : decode b_QR_readFactor 61 = .ok (.istore_n 3, 1) := by decide +kernel
theorem d_QR_readFactor_62 : decode b_QR_readFactor 62 = .ok (.iload_n 3, 1) := by decide +kernel
theorem d_QR_readFactor_63 : decode b_QR_readFactor 63 = .ok (.iconst (-1), 1) := by decide +kernel
theorem d_QR_readFactor_64 : decode b_QR_readFactor 64 = .ok (.if_icmp .eq 9, 3) := by decide +kernel
theorem d_QR_readFactor_67 : decode b_QR_readFactor 67 = .ok (.aload_n 0, 1) := by decide +kernel
theorem d_QR_readFactor_68 : decode b_QR_readFactor 68 = .ok (.iload_n 3, 1) := by decide +kernel
theorem d_QR_readFactor_69 : decode b_QR_readFactor 69 = .ok (.invokevirtual 131, 3) := by decide +kernel
theorem d_QR_readFactor_72 : decode b_QR_readFactor 72 = .ok (.ireturn, 1) := by decide +kernel
theorem d_QR_readFactor_73 : decode b_QR_readFactor 73 = .ok (.aload_n 0, 1) := by decide +kernel
theorem d_QR_readFactor_74 : decode b_QR_readFactor 74 = .ok (.iconst 2, 1) := by decide +kernel
theorem d_QR_readFactor_75 : decode b_QR_readFactor 75 = .ok (.invokevirtual 57, 3) := by decide +kernel
theorem d_QR_readFactor_78 : decode b_QR_readFactor 78 = .ok (.iconst (-1), 1) := by decide +kernel
theorem d_QR_readFactor_79 : decode b_QR_readFactor 79 = .ok (.ireturn, 1) := by decide +kernel
theorem d_QR_readOpened_0 : decode b_QR_readOpened 0 = .ok (.iload_n 2, 1) := by decide +kernel
theorem d_QR_readOpened_1 : decode b_QR_readOpened 1 = .ok (.bipush 8, 2) := by decide +kernel
theorem d_QR_readOpened_3 : decode b_QR_readOpened 3 = .ok (.if_icmp .lt 10, 3) := by decide +kernel
theorem d_QR_readOpened_6 : decode b_QR_readOpened 6 = .ok (.aload_n 0, 1) := by decide +kernel
theorem d_QR_readOpened_7 : decode b_QR_readOpened 7 = .ok (.iconst 3, 1) := by decide +kernel
theorem d_QR_readOpened_8 : decode b_QR_readOpened 8 = .ok (.invokevirtual 57, 3) := by decide +kernel
theorem d_QR_readOpened_11 : decode b_QR_readOpened 11 = .ok (.iconst (-1), 1) := by decide +kernel
theorem d_QR_readOpened_12 : decode b_QR_readOpened 12 = .ok (.ireturn, 1) := by decide +kernel
theorem d_QR_readOpened_13 : decode b_QR_readOpened 13 = .ok (.aload_n 0, 1) := by decide +kernel
theorem d_QR_readOpened_14 : decode b_QR_readOpened 14 = .ok (.getfield 24, 3) := by decide +kernel
theorem d_QR_readOpened_17 : decode b_QR_readOpened 17 = .ok (.invokevirtual 67, 3) := by decide +kernel
theorem d_QR_readOpened_20 : decode b_QR_readOpened 20 = .ok (.iload_n 1, 1) := by decide +kernel
theorem d_QR_readOpened_21 : decode b_QR_readOpened 21 = .ok (.bipush 40, 2) := by decide +kernel
theorem d_QR_readOpened_23 : decode b_QR_readOpened 23 = .ok (.if_icmp .ne 20, 3) := by decide +kernel
theorem d_QR_readOpened_26 : decode b_QR_readOpened 26 = .ok (.aload_n 0, 1) := by decide +kernel
theorem d_QR_readOpened_27 : decode b_QR_readOpened 27 = .ok (.iload_n 2, 1) := by decide +kernel
theorem d_QR_readOpened_28 : decode b_QR_readOpened 28 = .ok (.iconst 1, 1) := by decide +kernel
theorem d_QR_readOpened_29 : decode b_QR_readOpened 29 = .ok (.iadd, 1) := by decide +kernel
theorem d_QR_readOpened_30 : decode b_QR_readOpened 30 = .ok (.invokevirtual 49, 3) := by decide +kernel
theorem d_QR_readOpened_33 : decode b_QR_readOpened 33 = .ok (.istore_n 3, 1) := by decide +kernel
theorem d_QR_readOpened_34 : decode b_QR_readOpened 34 = .ok (.aload_n 0, 1) := by decide +kernel
theorem d_QR_readOpened_35 : decode b_QR_readOpened 35 = .ok (.bipush 41, 2) := by decide +kernel
theorem d_QR_readOpened_37 : decode b_QR_readOpened 37 = .ok (.invokevirtual 134, 3) := by decide +kernel
theorem d_QR_readOpened_40 : decode b_QR_readOpened 40 = .ok (.goto 21, 3) := by decide +kernel
theorem d_QR_readOpened_43 : decode b_QR_readOpened 43 = .ok (.aload_n 0, 1) := by decide +kernel
theorem d_QR_readOpened_44 : decode b_QR_readOpened 44 = .ok (.iload_n 2, 1) := by decide +kernel
theorem d_QR_readOpened_45 : decode b_QR_readOpened 45 = .ok (.iconst 1, 1) := by decide +kernel
theorem d_QR_readOpened_46 : decode b_QR_readOpened 46 = .ok (.iadd, 1) := by decide +kernel
theorem d_QR_readOpened_47 : decode b_QR_readOpened 47 = .ok (.invokevirtual 89, 3) := by decide +kernel
theorem d_QR_readOpened_50 : decode b_QR_readOpened 50 = .ok (.istore_n 3, 1) := by decide +kernel
theorem d_QR_readOpened_51 : decode b_QR_readOpened 51 = .ok (.aload_n 0, 1) := by decide +kernel
theorem d_QR_readOpened_52 : decode b_QR_readOpened 52 = .ok (.getfield 15, 3) := by decide +kernel
theorem d_QR_readOpened_55 : decode b_QR_readOpened 55 = .ok (.sipush 311, 3) := by decide +kernel
theorem d_QR_readOpened_58 : decode b_QR_readOpened 58 = .ok (.invokevirtual 86, 3) := by decide +kernel
theorem d_QR_readOpened_61 : decode b_QR_readOpened 61 = .ok (.iload_n 3, 1) := by decide +kernel
theorem d_QR_readOpened_62 : decode b_QR_readOpened 62 = .ok (.ireturn, 1) := by decide +kernel
theorem d_QR_funcKind_0 : decode b_QR_funcKind 0 = .ok (.aload_n 0, 1) := by decide +kernel
theorem d_QR_funcKind_1 : decode b_QR_funcKind 1 = .ok (.getfield 24, 3) := by decide +kernel
theorem d_QR_funcKind_4 : decode b_QR_funcKind 4 = .ok (.ldc 137, 2) := by decide +kernel
theorem d_QR_funcKind_6 : decode b_QR_funcKind 6 = .ok (.invokevirtual 139, 3) := by decide +kernel
theorem d_QR_funcKind_9 : decode b_QR_funcKind 9 = .ok (.ifCond .eq 5, 3) := by decide +kernel
theorem d_QR_funcKind_12 : decode b_QR_funcKind 12 = .ok (.iconst 1, 1) := by decide +kernel
theorem d_QR_funcKind_13 : decode b_QR_funcKind 13 = .ok (.ireturn, 1) := by decide +kernel
theorem d_QR_funcKind_14 : decode b_QR_funcKind 14 = .ok (.aload_n 0, 1) := by decide +kernel
theorem d_QR_funcKind_15 : decode b_QR_funcKind 15 = .ok (.getfield 24, 3) := by decide +kernel
theorem d_QR_funcKind_18 : decode b_QR_funcKind 18 = .ok (.ldc 143, 2) := by decide +kernel
theorem d_QR_funcKind_20 : decode b_QR_funcKind 20 = .ok (.invokevirtual 139, 3) := by decide +kernel
theorem d_QR_funcKind_23 : decode b_QR_funcKind 23 = .ok (.ifCond .eq 5, 3) := by decide +kernel
theorem d_QR_funcKind_26 : decode b_QR_funcKind 26 = .ok (.iconst 2, 1) := by decide +kernel
theorem d_QR_funcKind_27 : decode b_QR_funcKind 27 = .ok (.ireturn, 1) := by decide +kernel
theorem d_QR_funcKind_28 : decode b_QR_funcKind 28 = .ok (.aload_n 0, 1) := by decide +kernel
theorem d_QR_funcKind_29 : decode b_QR_funcKind 29 = .ok (.getfield 24, 3) := by decide +kernel
theorem d_QR_funcKind_32 : decode b_QR_funcKind 32 = .ok (.ldc 145, 2) := by decide +kernel
theorem d_QR_funcKind_34 : decode b_QR_funcKind 34 = .ok (.invokevirtual 139, 3) := by decide +kernel
theorem d_QR_funcKind_37 : decode b_QR_funcKind 37 = .ok (.ifCond .eq 5, 3) := by decide +kernel
theorem d_QR_funcKind_40 : decode b_QR_funcKind 40 = .ok (.iconst 3, 1) := by decide +kernel
theorem d_QR_funcKind_41 : decode b_QR_funcKind 41 = .ok (.ireturn, 1) := by decide +kernel
theorem d_QR_funcKind_42 : decode b_QR_funcKind 42 = .ok (.aload_n 0, 1) := by decide +kernel
theorem d_QR_funcKind_43 : decode b_QR_funcKind 43 = .ok (.getfield 24, 3) := by decide +kernel
theorem d_QR_funcKind_46 : decode b_QR_funcKind 46 = .ok (.ldc 147, 2) := by decide +kernel
theorem d_QR_funcKind_48 : decode b_QR_funcKind 48 = .ok (.invokevirtual 139, 3) := by decide +kernel
theorem d_QR_funcKind_51 : decode b_QR_funcKind 51 = .ok (.ifCond .eq 5, 3) := by decide +kernel
theorem d_QR_funcKind_54 : decode b_QR_funcKind 54 = .ok (.iconst 4, 1) := by decide +kernel
theorem d_QR_funcKind_55 : decode b_QR_funcKind 55 = .ok (.ireturn, 1) := by decide +kernel
theorem d_QR_funcKind_56 : decode b_QR_funcKind 56 = .ok (.aload_n 0, 1) := by decide +kernel
theorem d_QR_funcKind_57 : decode b_QR_funcKind 57 = .ok (.getfield 24, 3) := by decide +kernel
theorem d_QR_funcKind_60 : decode b_QR_funcKind 60 = .ok (.ldc 149, 2) := by decide +kernel
theorem d_QR_funcKind_62 : decode b_QR_funcKind 62 = .ok (.invokevirtual 139, 3) := by decide +kernel
theorem d_QR_funcKind_65 : decode b_QR_funcKind 65 = .ok (.ifCond .eq 5, 3) := by decide +kernel
theorem d_QR_funcKind_68 : decode b_QR_funcKind 68 = .ok (.iconst 5, 1) := by decide +kernel
theorem d_QR_funcKind_69 : decode b_QR_funcKind 69 = .ok (.ireturn, 1) := by decide +kernel
theorem d_QR_funcKind_70 : decode b_QR_funcKind 70 = .ok (.aload_n 0, 1) := by decide +kernel
theorem d_QR_funcKind_71 : decode b_QR_funcKind 71 = .ok (.getfield 24, 3) := by decide +kernel
theorem d_QR_funcKind_74 : decode b_QR_funcKind 74 = .ok (.ldc 151, 2) := by decide +kernel
theorem d_QR_funcKind_76 : decode b_QR_funcKind 76 = .ok (.invokevirtual 139, 3) := by decide +kernel
theorem d_QR_funcKind_79 : decode b_QR_funcKind 79 = .ok (.ifCond .eq 6, 3) := by decide +kernel
theorem d_QR_funcKind_82 : decode b_QR_funcKind 82 = .ok (.bipush 6, 2) := by decide +kernel
theorem d_QR_funcKind_84 : decode b_QR_funcKind 84 = .ok (.ireturn, 1) := by decide +kernel
theorem d_QR_funcKind_85 : decode b_QR_funcKind 85 = .ok (.aload_n 0, 1) := by decide +kernel
theorem d_QR_funcKind_86 : decode b_QR_funcKind 86 = .ok (.getfield 24, 3) := by decide +kernel
theorem d_QR_funcKind_89 : decode b_QR_funcKind 89 = .ok (.ldc 153, 2) := by decide +kernel
theorem d_QR_funcKind_91 : decode b_QR_funcKind 91 = .ok (.invokevirtual 139, 3) := by decide +kernel
theorem d_QR_funcKind_94 : decode b_QR_funcKind 94 = .ok (.ifCond .eq 8, 3) := by decide +kernel
theorem d_QR_funcKind_97 : decode b_QR_funcKind 97 = .ok (.bipush 7, 2) := by decide +kernel
theorem d_QR_funcKind_99 : decode b_QR_funcKind 99 = .ok (.goto 4, 3) := by decide +kernel
theorem d_QR_funcKind_102 : decode b_QR_funcKind 102 = .ok (.iconst (-1), 1) := by decide +kernel
theorem d_QR_funcKind_103 : decode b_QR_funcKind 103 = .ok (.ireturn, 1) := by decide +kernel
theorem d_QR_readFunc_0 : decode b_QR_readFunc 0 = .ok (.aload_n 0, 1) := by decide +kernel
theorem d_QR_readFunc_1 : decode b_QR_readFunc 1 = .ok (.getfield 15, 3) := by decide +kernel
theorem d_QR_readFunc_4 : decode b_QR_readFunc 4 = .ok (.iload_n 1, 1) := by decide +kernel
theorem d_QR_readFunc_5 : decode b_QR_readFunc 5 = .ok (.invokevirtual 155, 3) := by decide +kernel
theorem d_QR_readFunc_8 : decode b_QR_readFunc 8 = .ok (.istore_n 2, 1) := by decide +kernel
theorem d_QR_readFunc_9 : decode b_QR_readFunc 9 = .ok (.aload_n 0, 1) := by decide +kernel
theorem d_QR_readFunc_10 : decode b_QR_readFunc 10 = .ok (.getfield 24, 3) := by decide +kernel
theorem d_QR_readFunc_13 : decode b_QR_readFunc 13 = .ok (.invokevirtual 67, 3) := by decide +kernel
theorem d_QR_readFunc_16 : decode b_QR_readFunc 16 = .ok (.aload_n 0, 1) := by decide +kernel
theorem d_QR_readFunc_17 : decode b_QR_readFunc 17 = .ok (.getfield 24, 3) := by decide +kernel
theorem d_QR_readFunc_20 : decode b_QR_readFunc 20 = .ok (.ldc 158, 2) := by decide +kernel
theorem d_QR_readFunc_22 : decode b_QR_readFunc 22 = .ok (.invokevirtual 139, 3) := by decide +kernel
theorem d_QR_readFunc_25 : decode b_QR_readFunc 25 = .ok (.ifCond .eq 27, 3) := by decide +kernel
theorem d_QR_readFunc_28 : decode b_QR_readFunc 28 = .ok (.aload_n 0, 1) := by decide +kernel
theorem d_QR_readFunc_29 : decode b_QR_readFunc 29 = .ok (.getfield 24, 3) := by decide +kernel
theorem d_QR_readFunc_32 : decode b_QR_readFunc 32 = .ok (.invokevirtual 67, 3) := by decide +kernel
theorem d_QR_readFunc_35 : decode b_QR_readFunc 35 = .ok (.aload_n 0, 1) := by decide +kernel
theorem d_QR_readFunc_36 : decode b_QR_readFunc 36 = .ok (.bipush 40, 2) := by decide +kernel
theorem d_QR_readFunc_38 : decode b_QR_readFunc 38 = .ok (.invokevirtual 134, 3) := by decide +kernel
theorem d_QR_readFunc_41 : decode b_QR_readFunc 41 = .ok (.aload_n 0, 1) := by decide +kernel
theorem d_QR_readFunc_42 : decode b_QR_readFunc 42 = .ok (.iload_n 2, 1) := by decide +kernel
theorem d_QR_readFunc_43 : decode b_QR_readFunc 43 = .ok (.invokevirtual 160, 3) := by decide +kernel
theorem d_QR_readFunc_46 : decode b_QR_readFunc 46 = .ok (.aload_n 0, 1) := by decide +kernel
theorem d_QR_readFunc_47 : decode b_QR_readFunc 47 = .ok (.bipush 41, 2) := by decide +kernel
theorem d_QR_readFunc_49 : decode b_QR_readFunc 49 = .ok (.invokevirtual 134, 3) := by decide +kernel
theorem d_QR_readFunc_52 : decode b_QR_readFunc 52 = .ok (.aload_n 0, 1) := by decide +kernel
theorem d_QR_readFunc_53 : decode b_QR_readFunc 53 = .ok (.bipush 40, 2) := by decide +kernel
theorem d_QR_readFunc_55 : decode b_QR_readFunc 55 = .ok (.invokevirtual 134, 3) := by decide +kernel
theorem d_QR_readFunc_58 : decode b_QR_readFunc 58 = .ok (.aload_n 0, 1) := by decide +kernel
theorem d_QR_readFunc_59 : decode b_QR_readFunc 59 = .ok (.bipush 123, 2) := by decide +kernel
theorem d_QR_readFunc_61 : decode b_QR_readFunc 61 = .ok (.invokevirtual 134, 3) := by decide +kernel
theorem d_QR_readFunc_64 : decode b_QR_readFunc 64 = .ok (.aload_n 0, 1) := by decide +kernel
theorem d_QR_readFunc_65 : decode b_QR_readFunc 65 = .ok (.getfield 24, 3) := by decide +kernel
theorem d_QR_readFunc_68 : decode b_QR_readFunc 68 = .ok (.invokevirtual 53, 3) := by decide +kernel
theorem d_QR_readFunc_71 : decode b_QR_readFunc 71 = .ok (.bipush 125, 2) := by decide +kernel
theorem d_QR_readFunc_73 : decode b_QR_readFunc 73 = .ok (.if_icmp .eq 8, 3) := by decide +kernel
theorem d_QR_readFunc_76 : decode b_QR_readFunc 76 = .ok (.aload_n 0, 1) := by decide +kernel
theorem d_QR_readFunc_77 : decode b_QR_readFunc 77 = .ok (.iload_n 2, 1) := by decide +kernel
theorem d_QR_readFunc_78 : decode b_QR_readFunc 78 = .ok (.invokevirtual 163, 3) := by decide +kernel
theorem d_QR_readFunc_81 : decode b_QR_readFunc 81 = .ok (.aload_n 0, 1) := by decide +kernel
theorem d_QR_readFunc_82 : decode b_QR_readFunc 82 = .ok (.bipush 125, 2) := by decide +kernel
theorem d_QR_readFunc_84 : decode b_QR_readFunc 84 = .ok (.invokevirtual 134, 3) := by decide +kernel
theorem d_QR_readFunc_87 : decode b_QR_readFunc 87 = .ok (.aload_n 0, 1) := by decide +kernel
theorem d_QR_readFunc_88 : decode b_QR_readFunc 88 = .ok (.bipush 41, 2) := by decide +kernel
theorem d_QR_readFunc_90 : decode b_QR_readFunc 90 = .ok (.invokevirtual 134, 3) := by decide +kernel
theorem d_QR_readFunc_93 : decode b_QR_readFunc 93 = .ok (.aload_n 0, 1) := by decide +kernel
theorem d_QR_readFunc_94 : decode b_QR_readFunc 94 = .ok (.getfield 15, 3) := by decide +kernel
theorem d_QR_readFunc_97 : decode b_QR_readFunc 97 = .ok (.iload_n 2, 1) := by decide +kernel
theorem d_QR_readFunc_98 : decode b_QR_readFunc 98 = .ok (.invokevirtual 99, 3) := by decide +kernel
theorem d_QR_readFunc_101 : decode b_QR_readFunc 101 = .ok (.ifCond .le 7, 3) := by decide +kernel
theorem d_QR_readFunc_104 : decode b_QR_readFunc 104 = .ok (.iload_n 2, 1) := by decide +kernel
theorem d_QR_readFunc_105 : decode b_QR_readFunc 105 = .ok (.goto 4, 3) := by decide +kernel
theorem d_QR_readFunc_108 : decode b_QR_readFunc 108 = .ok (.iconst (-1), 1) := by decide +kernel
theorem d_QR_readFunc_109 : decode b_QR_readFunc 109 = .ok (.ireturn, 1) := by decide +kernel
theorem d_QR_readNames_0 : decode b_QR_readNames 0 = .ok (.iconst 1, 1) := by decide +kernel
theorem d_QR_readNames_1 : decode b_QR_readNames 1 = .ok (.istore_n 2, 1) := by decide +kernel
theorem d_QR_readNames_2 : decode b_QR_readNames 2 = .ok (.aload_n 0, 1) := by decide +kernel
theorem d_QR_readNames_3 : decode b_QR_readNames 3 = .ok (.getfield 9, 3) := by decide +kernel
theorem d_QR_readNames_6 : decode b_QR_readNames 6 = .ok (.invokevirtual 73, 3) := by decide +kernel
theorem d_QR_readNames_9 : decode b_QR_readNames 9 = .ok (.istore_n 3, 1) := by decide +kernel
theorem d_QR_readNames_10 : decode b_QR_readNames 10 = .ok (.iload_n 3, 1) := by decide +kernel
theorem d_QR_readNames_11 : decode b_QR_readNames 11 = .ok (.ifCond .le 124, 3) := by decide +kernel
theorem d_QR_readNames_14 : decode b_QR_readNames 14 = .ok (.iload_n 2, 1) := by decide +kernel
theorem d_QR_readNames_15 : decode b_QR_readNames 15 = .ok (.ifCond .eq 120, 3) := by decide +kernel
theorem d_QR_readNames_18 : decode b_QR_readNames 18 = .ok (.aload_n 0, 1) := by decide +kernel
theorem d_QR_readNames_19 : decode b_QR_readNames 19 = .ok (.getfield 24, 3) := by decide +kernel
theorem d_QR_readNames_22 : decode b_QR_readNames 22 = .ok (.invokevirtual 61, 3) := by decide +kernel
theorem d_QR_readNames_25 : decode b_QR_readNames 25 = .ok (.istore 4, 2) := by decide +kernel
theorem d_QR_readNames_27 : decode b_QR_readNames 27 = .ok (.aload_n 0, 1) := by decide +kernel
theorem d_QR_readNames_28 : decode b_QR_readNames 28 = .ok (.getfield 24, 3) := by decide +kernel
theorem d_QR_readNames_31 : decode b_QR_readNames 31 = .ok (.invokevirtual 166, 3) := by decide +kernel
theorem d_QR_readNames_34 : decode b_QR_readNames 34 = .ok (.iload 4, 2) := by decide +kernel
theorem d_QR_readNames_36 : decode b_QR_readNames 36 = .ok (.isub, 1) := by decide +kernel
theorem d_QR_readNames_37 : decode b_QR_readNames 37 = .ok (.istore 5, 2) := by decide +kernel
theorem d_QR_readNames_39 : decode b_QR_readNames 39 = .ok (.aload_n 0, 1) := by decide +kernel
theorem d_QR_readNames_40 : decode b_QR_readNames 40 = .ok (.getfield 24, 3) := by decide +kernel
theorem d_QR_readNames_43 : decode b_QR_readNames 43 = .ok (.invokevirtual 53, 3) := by decide +kernel
theorem d_QR_readNames_46 : decode b_QR_readNames 46 = .ok (.sipush 303, 3) := by decide +kernel
theorem d_QR_readNames_49 : decode b_QR_readNames 49 = .ok (.if_icmp .eq 11, 3) := by decide +kernel
theorem d_QR_readNames_52 : decode b_QR_readNames 52 = .ok (.aload_n 0, 1) := by decide +kernel
theorem d_QR_readNames_53 : decode b_QR_readNames 53 = .ok (.iconst 2, 1) := by decide +kernel
theorem d_QR_readNames_54 : decode b_QR_readNames 54 = .ok (.invokevirtual 57, 3) := by decide +kernel
theorem d_QR_readNames_57 : decode b_QR_readNames 57 = .ok (.goto 67, 3) := by decide +kernel
theorem d_QR_readNames_60 : decode b_QR_readNames 60 = .ok (.aload_n 0, 1) := by decide +kernel
theorem d_QR_readNames_61 : decode b_QR_readNames 61 = .ok (.getfield 15, 3) := by decide +kernel
theorem d_QR_readNames_64 : decode b_QR_readNames 64 = .ok (.iload_n 1, 1) := by decide +kernel
theorem d_QR_readNames_65 : decode b_QR_readNames 65 = .ok (.invokevirtual 99, 3) := by decide +kernel
theorem d_QR_readNames_68 : decode b_QR_readNames 68 = .ok (.bipush 6, 2) := by decide +kernel
theorem d_QR_readNames_70 : decode b_QR_readNames 70 = .ok (.if_icmp .ge 15, 3) := by decide +kernel
theorem d_QR_readNames_73 : decode b_QR_readNames 73 = .ok (.aload_n 0, 1) := by decide +kernel
theorem d_QR_readNames_74 : decode b_QR_readNames 74 = .ok (.iload_n 1, 1) := by decide +kernel
theorem d_QR_readNames_75 : decode b_QR_readNames 75 = .ok (.iload 4, 2) := by decide +kernel
theorem d_QR_readNames_77 : decode b_QR_readNames 77 = .ok (.iload 5, 2) := by decide +kernel
theorem d_QR_readNames_79 : decode b_QR_readNames 79 = .ok (.invokevirtual 169, 3) := by decide +kernel
theorem d_QR_readNames_82 : decode b_QR_readNames 82 = .ok (.ifCond .eq 11, 3) := by decide +kernel
theorem d_QR_readNames_85 : decode b_QR_readNames 85 = .ok (.aload_n 0, 1) := by decide +kernel
theorem d_QR_readNames_86 : decode b_QR_readNames 86 = .ok (.iconst 4, 1) := by decide +kernel
theorem d_QR_readNames_87 : decode b_QR_readNames 87 = .ok (.invokevirtual 57, 3) := by decide +kernel
theorem d_QR_readNames_90 : decode b_QR_readNames 90 = .ok (.goto 34, 3) := by decide +kernel
theorem d_QR_readNames_93 : decode b_QR_readNames 93 = .ok (.aload_n 0, 1) := by decide +kernel
theorem d_QR_readNames_94 : decode b_QR_readNames 94 = .ok (.getfield 15, 3) := by decide +kernel
theorem d_QR_readNames_97 : decode b_QR_readNames 97 = .ok (.iload_n 1, 1) := by decide +kernel
theorem d_QR_readNames_98 : decode b_QR_readNames 98 = .ok (.invokevirtual 173, 3) := by decide +kernel
theorem d_QR_readNames_101 : decode b_QR_readNames 101 = .ok (.aload_n 0, 1) := by decide +kernel
theorem d_QR_readNames_102 : decode b_QR_readNames 102 = .ok (.getfield 15, 3) := by decide +kernel
theorem d_QR_readNames_105 : decode b_QR_readNames 105 = .ok (.iload 4, 2) := by decide +kernel
theorem d_QR_readNames_107 : decode b_QR_readNames 107 = .ok (.aload_n 0, 1) := by decide +kernel
theorem d_QR_readNames_108 : decode b_QR_readNames 108 = .ok (.getfield 24, 3) := by decide +kernel
theorem d_QR_readNames_111 : decode b_QR_readNames 111 = .ok (.invokevirtual 166, 3) := by decide +kernel
theorem d_QR_readNames_114 : decode b_QR_readNames 114 = .ok (.invokevirtual 176, 3) := by decide +kernel
theorem d_QR_readNames_117 : decode b_QR_readNames 117 = .ok (.aload_n 0, 1) := by decide +kernel
theorem d_QR_readNames_118 : decode b_QR_readNames 118 = .ok (.getfield 24, 3) := by decide +kernel
theorem d_QR_readNames_121 : decode b_QR_readNames 121 = .ok (.invokevirtual 67, 3) := by decide +kernel
theorem d_QR_readNames_124 : decode b_QR_readNames 124 = .ok (.aload_n 0, 1) := by decide +kernel
theorem d_QR_readNames_125 : decode b_QR_readNames 125 = .ok (.invokevirtual 180, 3) := by decide +kernel
theorem d_QR_readNames_128 : decode b_QR_readNames 128 = .ok (.istore_n 2, 1) := by decide +kernel
theorem d_QR_readNames_129 : decode b_QR_readNames 129 = .ok (.iinc 3 (-1), 3) := by decide +kernel
theorem d_QR_readNames_132 : decode b_QR_readNames 132 = .ok (.goto (-122), 3) := by decide +kernel
theorem d_QR_readNames_135 : decode b_QR_readNames 135 = .ok (.return_, 1) := by decide +kernel
theorem d_QR_hasName_0 : decode b_QR_hasName 0 = .ok (.iconst 0, 1) := by decide +kernel
theorem d_QR_hasName_1 : decode b_QR_hasName 1 = .ok (.istore 4, 2) := by decide +kernel
theorem d_QR_hasName_3 : decode b_QR_hasName 3 = .ok (.iload 4, 2) := by decide +kernel
theorem d_QR_hasName_5 : decode b_QR_hasName 5 = .ok (.aload_n 0, 1) := by decide +kernel
theorem d_QR_hasName_6 : decode b_QR_hasName 6 = .ok (.getfield 15, 3) := by decide +kernel
theorem d_QR_hasName_9 : decode b_QR_hasName 9 = .ok (.iload_n 1, 1) := by decide +kernel
theorem d_QR_hasName_10 : decode b_QR_hasName 10 = .ok (.invokevirtual 99, 3) := by decide +kernel
theorem d_QR_hasName_13 : decode b_QR_hasName 13 = .ok (.if_icmp .ge 23, 3) := by decide +kernel
theorem d_QR_hasName_16 : decode b_QR_hasName 16 = .ok (.aload_n 0, 1) := by decide +kernel
theorem d_QR_hasName_17 : decode b_QR_hasName 17 = .ok (.iload_n 1, 1) := by decide +kernel
theorem d_QR_hasName_18 : decode b_QR_hasName 18 = .ok (.iload 4, 2) := by decide +kernel
theorem d_QR_hasName_20 : decode b_QR_hasName 20 = .ok (.iload_n 2, 1) := by decide +kernel
theorem d_QR_hasName_21 : decode b_QR_hasName 21 = .ok (.iload_n 3, 1) := by decide +kernel
theorem d_QR_hasName_22 : decode b_QR_hasName 22 = .ok (.invokevirtual 109, 3) := by decide +kernel
theorem d_QR_hasName_25 : decode b_QR_hasName 25 = .ok (.ifCond .eq 5, 3) := by decide +kernel
theorem d_QR_hasName_28 : decode b_QR_hasName 28 = .ok (.iconst 1, 1) := by decide +kernel
theorem d_QR_hasName_29 : decode b_QR_hasName 29 = .ok (.ireturn, 1) := by decide +kernel
theorem d_QR_hasName_30 : decode b_QR_hasName 30 = .ok (.iinc 4 1, 3) := by decide +kernel
theorem d_QR_hasName_33 : decode b_QR_hasName 33 = .ok (.goto (-30), 3) := by decide +kernel
theorem d_QR_hasName_36 : decode b_QR_hasName 36 = .ok (.iconst 0, 1) := by decide +kernel
theorem d_QR_hasName_37 : decode b_QR_hasName 37 = .ok (.ireturn, 1) := by decide +kernel
theorem d_QR_readMatches_0 : decode b_QR_readMatches 0 = .ok (.iconst 1, 1) := by decide +kernel
theorem d_QR_readMatches_1 : decode b_QR_readMatches 1 = .ok (.istore_n 2, 1) := by decide +kernel
theorem d_QR_readMatches_2 : decode b_QR_readMatches 2 = .ok (.aload_n 0, 1) := by decide +kernel
theorem d_QR_readMatches_3 : decode b_QR_readMatches 3 = .ok (.getfield 9, 3) := by decide +kernel
theorem d_QR_readMatches_6 : decode b_QR_readMatches 6 = .ok (.invokevirtual 73, 3) := by decide +kernel
theorem d_QR_readMatches_9 : decode b_QR_readMatches 9 = .ok (.istore_n 3, 1) := by decide +kernel
theorem d_QR_readMatches_10 : decode b_QR_readMatches 10 = .ok (.iload_n 3, 1) := by decide +kernel
theorem d_QR_readMatches_11 : decode b_QR_readMatches 11 = .ok (.ifCond .le 129, 3) := by decide +kernel
theorem d_QR_readMatches_14 : decode b_QR_readMatches 14 = .ok (.iload_n 2, 1) := by decide +kernel
theorem d_QR_readMatches_15 : decode b_QR_readMatches 15 = .ok (.ifCond .eq 125, 3) := by decide +kernel
theorem d_QR_readMatches_18 : decode b_QR_readMatches 18 = .ok (.aload_n 0, 1) := by decide +kernel
theorem d_QR_readMatches_19 : decode b_QR_readMatches 19 = .ok (.getfield 15, 3) := by decide +kernel
theorem d_QR_readMatches_22 : decode b_QR_readMatches 22 = .ok (.iload_n 1, 1) := by decide +kernel
theorem d_QR_readMatches_23 : decode b_QR_readMatches 23 = .ok (.invokevirtual 184, 3) := by decide +kernel
theorem d_QR_readMatches_26 : decode b_QR_readMatches 26 = .ok (.aload_n 0, 1) := by decide +kernel
theorem d_QR_readMatches_27 : decode b_QR_readMatches 27 = .ok (.getfield 15, 3) := by decide +kernel
theorem d_QR_readMatches_30 : decode b_QR_readMatches 30 = .ok (.aload_n 0, 1) := by decide +kernel
theorem d_QR_readMatches_31 : decode b_QR_readMatches 31 = .ok (.getfield 24, 3) := by decide +kernel
theorem d_QR_readMatches_34 : decode b_QR_readMatches 34 = .ok (.invokevirtual 61, 3) := by decide +kernel
theorem d_QR_readMatches_37 : decode b_QR_readMatches 37 = .ok (.aload_n 0, 1) := by decide +kernel
theorem d_QR_readMatches_38 : decode b_QR_readMatches 38 = .ok (.getfield 24, 3) := by decide +kernel
theorem d_QR_readMatches_41 : decode b_QR_readMatches 41 = .ok (.invokevirtual 166, 3) := by decide +kernel
theorem d_QR_readMatches_44 : decode b_QR_readMatches 44 = .ok (.invokevirtual 176, 3) := by decide +kernel
theorem d_QR_readMatches_47 : decode b_QR_readMatches 47 = .ok (.aload_n 0, 1) := by decide +kernel
theorem d_QR_readMatches_48 : decode b_QR_readMatches 48 = .ok (.sipush 303, 3) := by decide +kernel
theorem d_QR_readMatches_51 : decode b_QR_readMatches 51 = .ok (.invokevirtual 134, 3) := by decide +kernel
theorem d_QR_readMatches_54 : decode b_QR_readMatches 54 = .ok (.aload_n 0, 1) := by decide +kernel
theorem d_QR_readMatches_55 : decode b_QR_readMatches 55 = .ok (.getfield 15, 3) := by decide +kernel
theorem d_QR_readMatches_58 : decode b_QR_readMatches 58 = .ok (.aload_n 0, 1) := by decide +kernel
theorem d_QR_readMatches_59 : decode b_QR_readMatches 59 = .ok (.getfield 24, 3) := by decide +kernel
theorem d_QR_readMatches_62 : decode b_QR_readMatches 62 = .ok (.invokevirtual 53, 3) := by decide +kernel
theorem d_QR_readMatches_65 : decode b_QR_readMatches 65 = .ok (.invokevirtual 86, 3) := by decide +kernel
theorem d_QR_readMatches_68 : decode b_QR_readMatches 68 = .ok (.aload_n 0, 1) := by decide +kernel
theorem d_QR_readMatches_69 : decode b_QR_readMatches 69 = .ok (.aload_n 0, 1) := by decide +kernel
theorem d_QR_readMatches_70 : decode b_QR_readMatches 70 = .ok (.getfield 24, 3) := by decide +kernel
theorem d_QR_readMatches_73 : decode b_QR_readMatches 73 = .ok (.invokevirtual 53, 3) := by decide +kernel
theorem d_QR_readMatches_76 : decode b_QR_readMatches 76 = .ok (.invokestatic 187, 3) := by decide +kernel
theorem d_QR_readMatches_79 : decode b_QR_readMatches 79 = .ok (.ifCond .eq 13, 3) := by decide +kernel
theorem d_QR_readMatches_82 : decode b_QR_readMatches 82 = .ok (.aload_n 0, 1) := by decide +kernel
theorem d_QR_readMatches_83 : decode b_QR_readMatches 83 = .ok (.getfield 24, 3) := by decide +kernel
theorem d_QR_readMatches_86 : decode b_QR_readMatches 86 = .ok (.invokevirtual 53, 3) := by decide +kernel
theorem d_QR_readMatches_89 : decode b_QR_readMatches 89 = .ok (.goto 5, 3) := by decide +kernel
theorem d_QR_readMatches_92 : decode b_QR_readMatches 92 = .ok (.bipush 61, 2) := by decide +kernel
theorem d_QR_readMatches_94 : decode b_QR_readMatches 94 = .ok (.invokevirtual 134, 3) := by decide +kernel
theorem d_QR_readMatches_97 : decode b_QR_readMatches 97 = .ok (.aload_n 0, 1) := by decide +kernel
theorem d_QR_readMatches_98 : decode b_QR_readMatches 98 = .ok (.getfield 15, 3) := by decide +kernel
theorem d_QR_readMatches_101 : decode b_QR_readMatches 101 = .ok (.aload_n 0, 1) := by decide +kernel
theorem d_QR_readMatches_102 : decode b_QR_readMatches 102 = .ok (.getfield 24, 3) := by decide +kernel
theorem d_QR_readMatches_105 : decode b_QR_readMatches 105 = .ok (.invokevirtual 61, 3) := by decide +kernel
theorem d_QR_readMatches_108 : decode b_QR_readMatches 108 = .ok (.iconst 1, 1) := by decide +kernel
theorem d_QR_readMatches_109 : decode b_QR_readMatches 109 = .ok (.iadd, 1) := by decide +kernel
theorem d_QR_readMatches_110 : decode b_QR_readMatches 110 = .ok (.aload_n 0, 1) := by decide +kernel
theorem d_QR_readMatches_111 : decode b_QR_readMatches 111 = .ok (.getfield 24, 3) := by decide +kernel
theorem d_QR_readMatches_114 : decode b_QR_readMatches 114 = .ok (.invokevirtual 166, 3) := by decide +kernel
theorem d_QR_readMatches_117 : decode b_QR_readMatches 117 = .ok (.iconst 1, 1) := by decide +kernel
theorem d_QR_readMatches_118 : decode b_QR_readMatches 118 = .ok (.isub, 1) := by decide +kernel
theorem d_QR_readMatches_119 : decode b_QR_readMatches 119 = .ok (.invokevirtual 176, 3) := by decide +kernel
theorem d_QR_readMatches_122 : decode b_QR_readMatches 122 = .ok (.aload_n 0, 1) := by decide +kernel
theorem d_QR_readMatches_123 : decode b_QR_readMatches 123 = .ok (.sipush 304, 3) := by decide +kernel
theorem d_QR_readMatches_126 : decode b_QR_readMatches 126 = .ok (.invokevirtual 134, 3) := by decide +kernel
theorem d_QR_readMatches_129 : decode b_QR_readMatches 129 = .ok (.aload_n 0, 1) := by decide +kernel
theorem d_QR_readMatches_130 : decode b_QR_readMatches 130 = .ok (.invokevirtual 180, 3) := by decide +kernel
theorem d_QR_readMatches_133 : decode b_QR_readMatches 133 = .ok (.istore_n 2, 1) := by decide +kernel
theorem d_QR_readMatches_134 : decode b_QR_readMatches 134 = .ok (.iinc 3 (-1), 3) := by decide +kernel
theorem d_QR_readMatches_137 : decode b_QR_readMatches 137 = .ok (.goto (-127), 3) := by decide +kernel
theorem d_QR_readMatches_140 : decode b_QR_readMatches 140 = .ok (.return_, 1) := by decide +kernel
theorem d_QR_takeComma_0 : decode b_QR_takeComma 0 = .ok (.aload_n 0, 1) := by decide +kernel
theorem d_QR_takeComma_1 : decode b_QR_takeComma 1 = .ok (.getfield 24, 3) := by decide +kernel
theorem d_QR_takeComma_4 : decode b_QR_takeComma 4 = .ok (.invokevirtual 53, 3) := by decide +kernel
theorem d_QR_takeComma_7 : decode b_QR_takeComma 7 = .ok (.bipush 44, 2) := by decide +kernel
theorem d_QR_takeComma_9 : decode b_QR_takeComma 9 = .ok (.if_icmp .eq 5, 3) := by decide +kernel
theorem d_QR_takeComma_12 : decode b_QR_takeComma 12 = .ok (.iconst 0, 1) := by decide +kernel
theorem d_QR_takeComma_13 : decode b_QR_takeComma 13 = .ok (.ireturn, 1) := by decide +kernel
theorem d_QR_takeComma_14 : decode b_QR_takeComma 14 = .ok (.aload_n 0, 1) := by decide +kernel
theorem d_QR_takeComma_15 : decode b_QR_takeComma 15 = .ok (.getfield 24, 3) := by decide +kernel
theorem d_QR_takeComma_18 : decode b_QR_takeComma 18 = .ok (.invokevirtual 67, 3) := by decide +kernel
theorem d_QR_takeComma_21 : decode b_QR_takeComma 21 = .ok (.iconst 1, 1) := by decide +kernel
theorem d_QR_takeComma_22 : decode b_QR_takeComma 22 = .ok (.ireturn, 1) := by decide +kernel
theorem d_QR_isMatchSign_0 : decode b_QR_isMatchSign 0 = .ok (.iload_n 0, 1) := by decide +kernel
theorem d_QR_isMatchSign_1 : decode b_QR_isMatchSign 1 = .ok (.bipush 61, 2) := by decide +kernel
theorem d_QR_isMatchSign_3 : decode b_QR_isMatchSign 3 = .ok (.if_icmp .eq 24, 3) := by decide +kernel
theorem d_QR_isMatchSign_6 : decode b_QR_isMatchSign 6 = .ok (.iload_n 0, 1) := by decide +kernel
theorem d_QR_isMatchSign_7 : decode b_QR_isMatchSign 7 = .ok (.sipush 305, 3) := by decide +kernel
theorem d_QR_isMatchSign_10 : decode b_QR_isMatchSign 10 = .ok (.if_icmp .eq 17, 3) := by decide +kernel
theorem d_QR_isMatchSign_13 : decode b_QR_isMatchSign 13 = .ok (.iload_n 0, 1) := by decide +kernel
theorem d_QR_isMatchSign_14 : decode b_QR_isMatchSign 14 = .ok (.sipush 306, 3) := by decide +kernel
theorem d_QR_isMatchSign_17 : decode b_QR_isMatchSign 17 = .ok (.if_icmp .eq 10, 3) := by decide +kernel
theorem d_QR_isMatchSign_20 : decode b_QR_isMatchSign 20 = .ok (.iload_n 0, 1) := by decide +kernel
theorem d_QR_isMatchSign_21 : decode b_QR_isMatchSign 21 = .ok (.sipush 307, 3) := by decide +kernel
theorem d_QR_isMatchSign_24 : decode b_QR_isMatchSign 24 = .ok (.if_icmp .ne 7, 3) := by decide +kernel
theorem d_QR_isMatchSign_27 : decode b_QR_isMatchSign 27 = .ok (.iconst 1, 1) := by decide +kernel
theorem d_QR_isMatchSign_28 : decode b_QR_isMatchSign 28 = .ok (.goto 4, 3) := by decide +kernel
theorem d_QR_isMatchSign_31 : decode b_QR_isMatchSign 31 = .ok (.iconst 0, 1) := by decide +kernel
theorem d_QR_isMatchSign_32 : decode b_QR_isMatchSign 32 = .ok (.ireturn, 1) := by decide +kernel

set_option maxHeartbeats 4000000 in
set_option maxRecDepth 100000 in
theorem c_QR_faultCode (l : Launch) (D : jd_T) (a : Nat) (f_tape : Value) (f_lexer : Value) (f_program : Value) (f_faultCode : Int) (f_faultPlace : Int) (f_clashPlace : Int) (f_naming : Int)  : jc_C l D y_QR_faultCode b_QR_faultCode 1 (some .int) { frames := 0, cells := 0, slots := 0, locals := 0 } [.ref a] [ob D a 8 [f_tape, f_lexer, f_program, .int (ii f_faultCode), .int (ii f_faultPlace), .int (ii f_clashPlace), .int (ii f_naming)]] (fun _ : Unit => (.returned (some (.int (ii f_faultCode))), True, [ob D a 8 [f_tape, f_lexer, f_program, .int (ii f_faultCode), .int (ii f_faultPlace), .int (ii f_clashPlace), .int (ii f_naming)]])) := by
  refine jc_of rfl (Nat.le_of_ble_eq_true rfl) ?_
  intro X hl hR hN ok hnm fin
  subst hl
  show jw X 0 0 [ob D a 8 [f_tape, f_lexer, f_program, .int (ii f_faultCode), .int (ii f_faultPlace), .int (ii f_clashPlace), .int (ii f_naming)]] [(0, .ref a)] 0 []
  refine jr_aload_n ok 0 d_QR_faultCode_0 rfl rfl ?_
  refine jr_get ok 0 f_QR_28 rfl rfl d_QR_faultCode_1 ?_
  exact jr_iret ok fin (Nat.le_refl _) (Nat.le_refl _) () rfl trivial sg_same d_QR_faultCode_4

set_option maxHeartbeats 4000000 in
set_option maxRecDepth 100000 in
theorem c_QR_faultPlace (l : Launch) (D : jd_T) (a : Nat) (f_tape : Value) (f_lexer : Value) (f_program : Value) (f_faultCode : Int) (f_faultPlace : Int) (f_clashPlace : Int) (f_naming : Int)  : jc_C l D y_QR_faultPlace b_QR_faultPlace 1 (some .int) { frames := 0, cells := 0, slots := 0, locals := 0 } [.ref a] [ob D a 8 [f_tape, f_lexer, f_program, .int (ii f_faultCode), .int (ii f_faultPlace), .int (ii f_clashPlace), .int (ii f_naming)]] (fun _ : Unit => (.returned (some (.int (ii f_faultPlace))), True, [ob D a 8 [f_tape, f_lexer, f_program, .int (ii f_faultCode), .int (ii f_faultPlace), .int (ii f_clashPlace), .int (ii f_naming)]])) := by
  refine jc_of rfl (Nat.le_of_ble_eq_true rfl) ?_
  intro X hl hR hN ok hnm fin
  subst hl
  show jw X 0 0 [ob D a 8 [f_tape, f_lexer, f_program, .int (ii f_faultCode), .int (ii f_faultPlace), .int (ii f_clashPlace), .int (ii f_naming)]] [(0, .ref a)] 0 []
  refine jr_aload_n ok 0 d_QR_faultPlace_0 rfl rfl ?_
  refine jr_get ok 0 f_QR_32 rfl rfl d_QR_faultPlace_1 ?_
  exact jr_iret ok fin (Nat.le_refl _) (Nat.le_refl _) () rfl trivial sg_same d_QR_faultPlace_4

set_option maxHeartbeats 4000000 in
set_option maxRecDepth 100000 in
theorem c_QR_naming (l : Launch) (D : jd_T) (a : Nat) (f_tape : Value) (f_lexer : Value) (f_program : Value) (f_faultCode : Int) (f_faultPlace : Int) (f_clashPlace : Int) (f_naming : Int)  : jc_C l D y_QR_naming b_QR_naming 1 (some .int) { frames := 0, cells := 0, slots := 0, locals := 0 } [.ref a] [ob D a 8 [f_tape, f_lexer, f_program, .int (ii f_faultCode), .int (ii f_faultPlace), .int (ii f_clashPlace), .int (ii f_naming)]] (fun _ : Unit => (.returned (some (.int (ii f_naming))), True, [ob D a 8 [f_tape, f_lexer, f_program, .int (ii f_faultCode), .int (ii f_faultPlace), .int (ii f_clashPlace), .int (ii f_naming)]])) := by
  refine jc_of rfl (Nat.le_of_ble_eq_true rfl) ?_
  intro X hl hR hN ok hnm fin
  subst hl
  show jw X 0 0 [ob D a 8 [f_tape, f_lexer, f_program, .int (ii f_faultCode), .int (ii f_faultPlace), .int (ii f_clashPlace), .int (ii f_naming)]] [(0, .ref a)] 0 []
  refine jr_aload_n ok 0 d_QR_naming_0 rfl rfl ?_
  refine jr_get ok 0 f_QR_35 rfl rfl d_QR_naming_1 ?_
  exact jr_iret ok fin (Nat.le_refl _) (Nat.le_refl _) () rfl trivial sg_same d_QR_naming_4

