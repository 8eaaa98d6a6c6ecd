theorem d_WT_init_0 : decode b_WT_init 0 = .ok (.aload_n 0, 1) := by decide +kernel
theorem d_WT_init_1 : decode b_WT_init 1 = .ok (.invokespecial 3, 3) := by decide +kernel
theorem d_WT_init_4 : decode b_WT_init 4 = .ok (.aload_n 0, 1) := by decide +kernel
theorem d_WT_init_5 : decode b_WT_init 5 = .ok (.new 9, 3) := by decide +kernel
theorem d_WT_init_8 : decode b_WT_init 8 = .ok (.dup, 1) := by decide +kernel
theorem d_WT_init_9 : decode b_WT_init 9 = .ok (.invokespecial 11, 3) := by decide +kernel
theorem d_WT_init_12 : decode b_WT_init 12 = .ok (.putfield 12, 3) := by decide +kernel
theorem d_WT_init_15 : decode b_WT_init 15 = .ok (.aload_n 0, 1) := by decide +kernel
theorem d_WT_init_16 : decode b_WT_init 16 = .ok (.new 16, 3) := by decide +kernel
theorem d_WT_init_19 : decode b_WT_init 19 = .ok (.dup, 1) := by decide +kernel
theorem d_WT_init_20 : decode b_WT_init 20 = .ok (.invokespecial 18, 3) := by decide +kernel
theorem d_WT_init_23 : decode b_WT_init 23 = .ok (.putfield 19, 3) := by decide +kernel
theorem d_WT_init_26 : decode b_WT_init 26 = .ok (.aload_n 0, 1) := by decide +kernel
theorem d_WT_init_27 : decode b_WT_init 27 = .ok (.new 23, 3) := by decide +kernel
theorem d_WT_init_30 : decode b_WT_init 30 = .ok (.dup, 1) := by decide +kernel
theorem d_WT_init_31 : decode b_WT_init 31 = .ok (.invokespecial 25, 3) := by decide +kernel
theorem d_WT_init_34 : decode b_WT_init 34 = .ok (.putfield 26, 3) := by decide +kernel
theorem d_WT_init_37 : decode b_WT_init 37 = .ok (.aload_n 0, 1) := by decide +kernel
theorem d_WT_init_38 : decode b_WT_init 38 = .ok (.new 30, 3) := by decide +kernel
theorem d_WT_init_41 : decode b_WT_init 41 = .ok (.dup, 1) := by decide +kernel
theorem d_WT_init_42 : decode b_WT_init 42 = .ok (.invokespecial 32, 3) := by decide +kernel
theorem d_WT_init_45 : decode b_WT_init 45 = .ok (.putfield 33, 3) := by decide +kernel
theorem d_WT_init_48 : decode b_WT_init 48 = .ok (.aload_n 0, 1) := by decide +kernel
theorem d_WT_init_49 : decode b_WT_init 49 = .ok (.new 37, 3) := by decide +kernel
theorem d_WT_init_52 : decode b_WT_init 52 = .ok (.dup, 1) := by decide +kernel
theorem d_WT_init_53 : decode b_WT_init 53 = .ok (.aload_n 0, 1) := by decide +kernel
theorem d_WT_init_54 : decode b_WT_init 54 = .ok (.getfield 12, 3) := by decide +kernel
theorem d_WT_init_57 : decode b_WT_init 57 = .ok (.aload_n 0, 1) := by decide +kernel
theorem d_WT_init_58 : decode b_WT_init 58 = .ok (.getfield 33, 3) := by decide +kernel
theorem d_WT_init_61 : decode b_WT_init 61 = .ok (.invokespecial 39, 3) := by decide +kernel
theorem d_WT_init_64 : decode b_WT_init 64 = .ok (.putfield 42, 3) := by decide +kernel
theorem d_WT_init_67 : decode b_WT_init 67 = .ok (.aload_n 0, 1) := by decide +kernel
theorem d_WT_init_68 : decode b_WT_init 68 = .ok (.new 46, 3) := by decide +kernel
theorem d_WT_init_71 : decode b_WT_init 71 = .ok (.dup, 1) := by decide +kernel
theorem d_WT_init_72 : decode b_WT_init 72 = .ok (.aload_n 0, 1) := by decide +kernel
theorem d_WT_init_73 : decode b_WT_init 73 = .ok (.getfield 12, 3) := by decide +kernel
theorem d_WT_init_76 : decode b_WT_init 76 = .ok (.aload_n 0, 1) := by decide +kernel
theorem d_WT_init_77 : decode b_WT_init 77 = .ok (.getfield 19, 3) := by decide +kernel
theorem d_WT_init_80 : decode b_WT_init 80 = .ok (.aload_n 0, 1) := by decide +kernel
theorem d_WT_init_81 : decode b_WT_init 81 = .ok (.getfield 33, 3) := by decide +kernel
theorem d_WT_init_84 : decode b_WT_init 84 = .ok (.invokespecial 48, 3) := by decide +kernel
theorem d_WT_init_87 : decode b_WT_init 87 = .ok (.putfield 51, 3) := by decide +kernel
theorem d_WT_init_90 : decode b_WT_init 90 = .ok (.aload_n 0, 1) := by decide +kernel
theorem d_WT_init_91 : decode b_WT_init 91 = .ok (.new 55, 3) := by decide +kernel
theorem d_WT_init_94 : decode b_WT_init 94 = .ok (.dup, 1) := by decide +kernel
theorem d_WT_init_95 : decode b_WT_init 95 = .ok (.aload_n 0, 1) := by decide +kernel
theorem d_WT_init_96 : decode b_WT_init 96 = .ok (.getfield 12, 3) := by decide +kernel
theorem d_WT_init_99 : decode b_WT_init 99 = .ok (.aload_n 0, 1) := by decide +kernel
theorem d_WT_init_100 : decode b_WT_init 100 = .ok (.getfield 19, 3) := by decide +kernel
theorem d_WT_init_103 : decode b_WT_init 103 = .ok (.aload_n 0, 1) := by decide +kernel
theorem d_WT_init_104 : decode b_WT_init 104 = .ok (.getfield 33, 3) := by decide +kernel
theorem d_WT_init_107 : decode b_WT_init 107 = .ok (.aload_n 0, 1) := by decide +kernel
theorem d_WT_init_108 : decode b_WT_init 108 = .ok (.getfield 51, 3) := by decide +kernel
theorem d_WT_init_111 : decode b_WT_init 111 = .ok (.invokespecial 57, 3) := by decide +kernel
theorem d_WT_init_114 : decode b_WT_init 114 = .ok (.putfield 60, 3) := by decide +kernel
theorem d_WT_init_117 : decode b_WT_init 117 = .ok (.return_, 1) := by decide +kernel
theorem d_WT_feed_0 : decode b_WT_feed 0 = .ok (.aload_n 0, 1) := by decide +kernel
theorem d_WT_feed_1 : decode b_WT_feed 1 = .ok (.getfield 12, 3) := by decide +kernel
theorem d_WT_feed_4 : decode b_WT_feed 4 = .ok (.invokevirtual 64, 3) := by decide +kernel
theorem d_WT_feed_7 : decode b_WT_feed 7 = .ok (.ldc 68, 2) := by decide +kernel
theorem d_WT_feed_9 : decode b_WT_feed 9 = .ok (.if_icmp .le 13, 3) := by decide +kernel
theorem d_WT_feed_12 : decode b_WT_feed 12 = .ok (.new 69, 3) := by decide +kernel
theorem d_WT_feed_15 : decode b_WT_feed 15 = .ok (.dup, 1) := by decide +kernel
theorem d_WT_feed_16 : decode b_WT_feed 16 = .ok (.ldc 71, 2) := by decide +kernel
theorem d_WT_feed_18 : decode b_WT_feed 18 = .ok (.invokespecial 73, 3) := by decide +kernel
theorem d_WT_feed_21 : decode b_WT_feed 21 = .ok (.athrow, 1) := by decide +kernel
theorem d_WT_feed_22 : decode b_WT_feed 22 = .ok (.aload_n 0, 1) := by decide +kernel
theorem d_WT_feed_23 : decode b_WT_feed 23 = .ok (.getfield 12, 3) := by decide +kernel
theorem d_WT_feed_26 : decode b_WT_feed 26 = .ok (.iload_n 1, 1) := by decide +kernel
theorem d_WT_feed_27 : decode b_WT_feed 27 = .ok (.invokevirtual 76, 3) := by decide +kernel
theorem d_WT_feed_30 : decode b_WT_feed 30 = .ok (.aload_n 0, 1) := by decide +kernel
theorem d_WT_feed_31 : decode b_WT_feed 31 = .ok (.getfield 12, 3) := by decide +kernel
theorem d_WT_feed_34 : decode b_WT_feed 34 = .ok (.iload_n 2, 1) := by decide +kernel
theorem d_WT_feed_35 : decode b_WT_feed 35 = .ok (.invokevirtual 76, 3) := by decide +kernel
theorem d_WT_feed_38 : decode b_WT_feed 38 = .ok (.aload_n 0, 1) := by decide +kernel
theorem d_WT_feed_39 : decode b_WT_feed 39 = .ok (.getfield 12, 3) := by decide +kernel
theorem d_WT_feed_42 : decode b_WT_feed 42 = .ok (.iload_n 3, 1) := by decide +kernel
theorem d_WT_feed_43 : decode b_WT_feed 43 = .ok (.invokevirtual 76, 3) := by decide +kernel
theorem d_WT_feed_46 : decode b_WT_feed 46 = .ok (.aload_n 0, 1) := by decide +kernel
theorem d_WT_feed_47 : decode b_WT_feed 47 = .ok (.getfield 12, 3) := by decide +kernel
theorem d_WT_feed_50 : decode b_WT_feed 50 = .ok (.iload 4, 2) := by decide +kernel
theorem d_WT_feed_52 : decode b_WT_feed 52 = .ok (.invokevirtual 76, 3) := by decide +kernel
theorem d_WT_feed_55 : decode b_WT_feed 55 = .ok (.aload_n 0, 1) := by decide +kernel
theorem d_WT_feed_56 : decode b_WT_feed 56 = .ok (.getfield 12, 3) := by decide +kernel
theorem d_WT_feed_59 : decode b_WT_feed 59 = .ok (.iload 5, 2) := by decide +kernel
theorem d_WT_feed_61 : decode b_WT_feed 61 = .ok (.invokevirtual 76, 3) := by decide +kernel
theorem d_WT_feed_64 : decode b_WT_feed 64 = .ok (.aload_n 0, 1) := by decide +kernel
theorem d_WT_feed_65 : decode b_WT_feed 65 = .ok (.getfield 12, 3) := by decide +kernel
theorem d_WT_feed_68 : decode b_WT_feed 68 = .ok (.invokevirtual 64, 3) := by decide +kernel
theorem d_WT_feed_71 : decode b_WT_feed 71 = .ok (.ireturn, 1) := by decide +kernel
theorem d_WT_end_0 : decode b_WT_end 0 = .ok (.iload_n 1, 1) := by decide +kernel
theorem d_WT_end_1 : decode b_WT_end 1 = .ok (.ifCond .lt 14, 3) := by decide +kernel
theorem d_WT_end_4 : decode b_WT_end 4 = .ok (.iload_n 1, 1) := by decide +kernel
theorem d_WT_end_5 : decode b_WT_end 5 = .ok (.aload_n 0, 1) := by decide +kernel
theorem d_WT_end_6 : decode b_WT_end 6 = .ok (.getfield 12, 3) := by decide +kernel
theorem d_WT_end_9 : decode b_WT_end 9 = .ok (.invokevirtual 64, 3) := by decide +kernel
theorem d_WT_end_12 : decode b_WT_end 12 = .ok (.if_icmp .le 13, 3) := by decide +kernel
theorem d_WT_end_15 : decode b_WT_end 15 = .ok (.new 80, 3) := by decide +kernel
theorem d_WT_end_18 : decode b_WT_end 18 = .ok (.dup, 1) := by decide +kernel
theorem d_WT_end_19 : decode b_WT_end 19 = .ok (.ldc 82, 2) := by decide +kernel
theorem d_WT_end_21 : decode b_WT_end 21 = .ok (.invokespecial 84, 3) := by decide +kernel
theorem d_WT_end_24 : decode b_WT_end 24 = .ok (.athrow, 1) := by decide +kernel
theorem d_WT_end_25 : decode b_WT_end 25 = .ok (.aload_n 0, 1) := by decide +kernel
theorem d_WT_end_26 : decode b_WT_end 26 = .ok (.getfield 12, 3) := by decide +kernel
theorem d_WT_end_29 : decode b_WT_end 29 = .ok (.iload_n 1, 1) := by decide +kernel
theorem d_WT_end_30 : decode b_WT_end 30 = .ok (.invokevirtual 85, 3) := by decide +kernel
theorem d_WT_end_33 : decode b_WT_end 33 = .ok (.return_, 1) := by decide +kernel
theorem d_WT_series_0 : decode b_WT_series 0 = .ok (.iconst (-1), 1) := by decide +kernel
theorem d_WT_series_1 : decode b_WT_series 1 = .ok (.istore_n 1, 1) := by decide +kernel
theorem d_WT_series_2 : decode b_WT_series 2 = .ok (.aload_n 0, 1) := by decide +kernel
theorem d_WT_series_3 : decode b_WT_series 3 = .ok (.getfield 26, 3) := by decide +kernel
theorem d_WT_series_6 : decode b_WT_series 6 = .ok (.aload_n 0, 1) := by decide +kernel
theorem d_WT_series_7 : decode b_WT_series 7 = .ok (.getfield 12, 3) := by decide +kernel
theorem d_WT_series_10 : decode b_WT_series 10 = .ok (.invokevirtual 88, 3) := by decide +kernel
theorem d_WT_series_13 : decode b_WT_series 13 = .ok (.ifCond .eq 60, 3) := by decide +kernel
theorem d_WT_series_16 : decode b_WT_series 16 = .ok (.aload_n 0, 1) := by decide +kernel
theorem d_WT_series_17 : decode b_WT_series 17 = .ok (.getfield 19, 3) := by decide +kernel
theorem d_WT_series_20 : decode b_WT_series 20 = .ok (.aload_n 0, 1) := by decide +kernel
theorem d_WT_series_21 : decode b_WT_series 21 = .ok (.getfield 26, 3) := by decide +kernel
theorem d_WT_series_24 : decode b_WT_series 24 = .ok (.invokevirtual 92, 3) := by decide +kernel
theorem d_WT_series_27 : decode b_WT_series 27 = .ok (.istore_n 1, 1) := by decide +kernel
theorem d_WT_series_28 : decode b_WT_series 28 = .ok (.iload_n 1, 1) := by decide +kernel
theorem d_WT_series_29 : decode b_WT_series 29 = .ok (.iconst (-1), 1) := by decide +kernel
theorem d_WT_series_30 : decode b_WT_series 30 = .ok (.if_icmp .ne 23, 3) := by decide +kernel
theorem d_WT_series_33 : decode b_WT_series 33 = .ok (.aload_n 0, 1) := by decide +kernel
theorem d_WT_series_34 : decode b_WT_series 34 = .ok (.getfield 19, 3) := by decide +kernel
theorem d_WT_series_37 : decode b_WT_series 37 = .ok (.invokevirtual 96, 3) := by decide +kernel
theorem d_WT_series_40 : decode b_WT_series 40 = .ok (.ifCond .eq 13, 3) := by decide +kernel
theorem d_WT_series_43 : decode b_WT_series 43 = .ok (.new 69, 3) := by decide +kernel
theorem d_WT_series_46 : decode b_WT_series 46 = .ok (.dup, 1) := by decide +kernel
theorem d_WT_series_47 : decode b_WT_series 47 = .ok (.ldc 100, 2) := by decide +kernel
theorem d_WT_series_49 : decode b_WT_series 49 = .ok (.invokespecial 73, 3) := by decide +kernel
theorem d_WT_series_52 : decode b_WT_series 52 = .ok (.athrow, 1) := by decide +kernel
theorem d_WT_series_53 : decode b_WT_series 53 = .ok (.iload_n 1, 1) := by decide +kernel
theorem d_WT_series_54 : decode b_WT_series 54 = .ok (.iconst (-1), 1) := by decide +kernel
theorem d_WT_series_55 : decode b_WT_series 55 = .ok (.if_icmp .ne 18, 3) := by decide +kernel
theorem d_WT_series_58 : decode b_WT_series 58 = .ok (.aload_n 0, 1) := by decide +kernel
theorem d_WT_series_59 : decode b_WT_series 59 = .ok (.getfield 19, 3) := by decide +kernel
theorem d_WT_series_62 : decode b_WT_series 62 = .ok (.aload_n 0, 1) := by decide +kernel
theorem d_WT_series_63 : decode b_WT_series 63 = .ok (.getfield 26, 3) := by decide +kernel
theorem d_WT_series_66 : decode b_WT_series 66 = .ok (.invokevirtual 102, 3) := by decide +kernel
theorem d_WT_series_69 : decode b_WT_series 69 = .ok (.invokevirtual 106, 3) := by decide +kernel
theorem d_WT_series_72 : decode b_WT_series 72 = .ok (.istore_n 1, 1) := by decide +kernel
theorem d_WT_series_73 : decode b_WT_series 73 = .ok (.aload_n 0, 1) := by decide +kernel
theorem d_WT_series_74 : decode b_WT_series 74 = .ok (.aload_n 0, 1) := by decide +kernel
theorem d_WT_series_75 : decode b_WT_series 75 = .ok (.getfield 26, 3) := by decide +kernel
theorem d_WT_series_78 : decode b_WT_series 78 = .ok (.invokevirtual 110, 3) := by decide +kernel
theorem d_WT_series_81 : decode b_WT_series 81 = .ok (.putfield 113, 3) := by decide +kernel
theorem d_WT_series_84 : decode b_WT_series 84 = .ok (.aload_n 0, 1) := by decide +kernel
theorem d_WT_series_85 : decode b_WT_series 85 = .ok (.aload_n 0, 1) := by decide +kernel
theorem d_WT_series_86 : decode b_WT_series 86 = .ok (.getfield 26, 3) := by decide +kernel
theorem d_WT_series_89 : decode b_WT_series 89 = .ok (.invokevirtual 116, 3) := by decide +kernel
theorem d_WT_series_92 : decode b_WT_series 92 = .ok (.putfield 119, 3) := by decide +kernel
theorem d_WT_series_95 : decode b_WT_series 95 = .ok (.aload_n 0, 1) := by decide +kernel
theorem d_WT_series_96 : decode b_WT_series 96 = .ok (.getfield 12, 3) := by decide +kernel
theorem d_WT_series_99 : decode b_WT_series 99 = .ok (.iconst 0, 1) := by decide +kernel
theorem d_WT_series_100 : decode b_WT_series 100 = .ok (.invokevirtual 85, 3) := by decide +kernel
theorem d_WT_series_103 : decode b_WT_series 103 = .ok (.iload_n 1, 1) := by decide +kernel
theorem d_WT_series_104 : decode b_WT_series 104 = .ok (.ireturn, 1) := by decide +kernel
theorem d_WT_fault_0 : decode b_WT_fault 0 = .ok (.iload_n 1, 1) := by decide +kernel
theorem d_WT_fault_1 : decode b_WT_fault 1 = .ok (.ifCond .eq 18, 3) := by decide +kernel
theorem d_WT_fault_4 : decode b_WT_fault 4 = .ok (.iload_n 1, 1) := by decide +kernel
theorem d_WT_fault_5 : decode b_WT_fault 5 = .ok (.iconst 1, 1) := by decide +kernel
theorem d_WT_fault_6 : decode b_WT_fault 6 = .ok (.if_icmp .eq 13, 3) := by decide +kernel
theorem d_WT_fault_9 : decode b_WT_fault 9 = .ok (.new 121, 3) := by decide +kernel
theorem d_WT_fault_12 : decode b_WT_fault 12 = .ok (.dup, 1) := by decide +kernel
theorem d_WT_fault_13 : decode b_WT_fault 13 = .ok (.ldc 123, 2) := by decide +kernel
theorem d_WT_fault_15 : decode b_WT_fault 15 = .ok (.invokespecial 125, 3) := by decide +kernel
theorem d_WT_fault_18 : decode b_WT_fault 18 = .ok (.athrow, 1) := by decide +kernel
theorem d_WT_fault_19 : decode b_WT_fault 19 = .ok (.iload_n 1, 1) := by decide +kernel
theorem d_WT_fault_20 : decode b_WT_fault 20 = .ok (.ifCond .ne 10, 3) := by decide +kernel
theorem d_WT_fault_23 : decode b_WT_fault 23 = .ok (.aload_n 0, 1) := by decide +kernel
theorem d_WT_fault_24 : decode b_WT_fault 24 = .ok (.getfield 113, 3) := by decide +kernel
theorem d_WT_fault_27 : decode b_WT_fault 27 = .ok (.goto 7, 3) := by decide +kernel
theorem d_WT_fault_30 : decode b_WT_fault 30 = .ok (.aload_n 0, 1) := by decide +kernel
theorem d_WT_fault_31 : decode b_WT_fault 31 = .ok (.getfield 119, 3) := by decide +kernel
theorem d_WT_fault_34 : decode b_WT_fault 34 = .ok (.ireturn, 1) := by decide +kernel
theorem d_WT_letter_0 : decode b_WT_letter 0 = .ok (.aload_n 0, 1) := by decide +kernel
theorem d_WT_letter_1 : decode b_WT_letter 1 = .ok (.iload_n 1, 1) := by decide +kernel
theorem d_WT_letter_2 : decode b_WT_letter 2 = .ok (.invokevirtual 126, 3) := by decide +kernel
theorem d_WT_letter_5 : decode b_WT_letter 5 = .ok (.iload_n 2, 1) := by decide +kernel
theorem d_WT_letter_6 : decode b_WT_letter 6 = .ok (.invokevirtual 130, 3) := by decide +kernel
theorem d_WT_letter_9 : decode b_WT_letter 9 = .ok (.ireturn, 1) := by decide +kernel
theorem d_WT_append_0 : decode b_WT_append 0 = .ok (.aload_n 0, 1) := by decide +kernel
theorem d_WT_append_1 : decode b_WT_append 1 = .ok (.iload_n 1, 1) := by decide +kernel
theorem d_WT_append_2 : decode b_WT_append 2 = .ok (.invokevirtual 126, 3) := by decide +kernel
theorem d_WT_append_5 : decode b_WT_append 5 = .ok (.invokevirtual 136, 3) := by decide +kernel
theorem d_WT_append_8 : decode b_WT_append 8 = .ok (.astore 6, 2) := by decide +kernel
theorem d_WT_append_10 : decode b_WT_append 10 = .ok (.aload_n 0, 1) := by decide +kernel
theorem d_WT_append_11 : decode b_WT_append 11 = .ok (.getfield 19, 3) := by decide +kernel
theorem d_WT_append_14 : decode b_WT_append 14 = .ok (.aload 6, 2) := by decide +kernel
theorem d_WT_append_16 : decode b_WT_append 16 = .ok (.lload_n 2, 1) := by decide +kernel
theorem d_WT_append_17 : decode b_WT_append 17 = .ok (.invokevirtual 140, 3) := by decide +kernel
theorem d_WT_append_20 : decode b_WT_append 20 = .ok (.ifCond .ne 13, 3) := by decide +kernel
theorem d_WT_append_23 : decode b_WT_append 23 = .ok (.new 80, 3) := by decide +kernel
theorem d_WT_append_26 : decode b_WT_append 26 = .ok (.dup, 1) := by decide +kernel
theorem d_WT_append_27 : decode b_WT_append 27 = .ok (.ldc 144, 2) := by decide +kernel
theorem d_WT_append_29 : decode b_WT_append 29 = .ok (.invokespecial 84, 3) := by decide +kernel
theorem d_WT_append_32 : decode b_WT_append 32 = .ok (.athrow, 1) := by decide +kernel
theorem d_WT_append_33 : decode b_WT_append 33 = .ok (.aload_n 0, 1) := by decide +kernel
theorem d_WT_append_34 : decode b_WT_append 34 = .ok (.getfield 19, 3) := by decide +kernel
theorem d_WT_append_37 : decode b_WT_append 37 = .ok (.invokevirtual 146, 3) := by decide +kernel
theorem d_WT_append_40 : decode b_WT_append 40 = .ok (.ifCond .eq 13, 3) := by decide +kernel
theorem d_WT_append_43 : decode b_WT_append 43 = .ok (.new 69, 3) := by decide +kernel
theorem d_WT_append_46 : decode b_WT_append 46 = .ok (.dup, 1) := by decide +kernel
theorem d_WT_append_47 : decode b_WT_append 47 = .ok (.ldc 149, 2) := by decide +kernel
theorem d_WT_append_49 : decode b_WT_append 49 = .ok (.invokespecial 73, 3) := by decide +kernel
theorem d_WT_append_52 : decode b_WT_append 52 = .ok (.athrow, 1) := by decide +kernel
theorem d_WT_append_53 : decode b_WT_append 53 = .ok (.aload_n 0, 1) := by decide +kernel
theorem d_WT_append_54 : decode b_WT_append 54 = .ok (.getfield 19, 3) := by decide +kernel
theorem d_WT_append_57 : decode b_WT_append 57 = .ok (.aload 6, 2) := by decide +kernel
theorem d_WT_append_59 : decode b_WT_append 59 = .ok (.lload_n 2, 1) := by decide +kernel
theorem d_WT_append_60 : decode b_WT_append 60 = .ok (.lload 4, 2) := by decide +kernel
theorem d_WT_append_62 : decode b_WT_append 62 = .ok (.invokevirtual 151, 3) := by decide +kernel
theorem d_WT_append_65 : decode b_WT_append 65 = .ok (.aload_n 0, 1) := by decide +kernel
theorem d_WT_append_66 : decode b_WT_append 66 = .ok (.getfield 19, 3) := by decide +kernel
theorem d_WT_append_69 : decode b_WT_append 69 = .ok (.invokevirtual 155, 3) := by decide +kernel
theorem d_WT_append_72 : decode b_WT_append 72 = .ok (.ireturn, 1) := by decide +kernel
theorem d_WT_bulk_0 : decode b_WT_bulk 0 = .ok (.aload_n 0, 1) := by decide +kernel
theorem d_WT_bulk_1 : decode b_WT_bulk 1 = .ok (.iload_n 1, 1) := by decide +kernel
theorem d_WT_bulk_2 : decode b_WT_bulk 2 = .ok (.invokevirtual 126, 3) := by decide +kernel
theorem d_WT_bulk_5 : decode b_WT_bulk 5 = .ok (.invokevirtual 136, 3) := by decide +kernel
theorem d_WT_bulk_8 : decode b_WT_bulk 8 = .ok (.astore_n 2, 1) := by decide +kernel
theorem d_WT_bulk_9 : decode b_WT_bulk 9 = .ok (.iconst 0, 1) := by decide +kernel
theorem d_WT_bulk_10 : decode b_WT_bulk 10 = .ok (.istore_n 3, 1) := by decide +kernel
theorem d_WT_bulk_11 : decode b_WT_bulk 11 = .ok (.iconst 0, 1) := by decide +kernel
theorem d_WT_bulk_12 : decode b_WT_bulk 12 = .ok (.istore 4, 2) := by decide +kernel
theorem d_WT_bulk_14 : decode b_WT_bulk 14 = .ok (.iload 4, 2) := by decide +kernel
theorem d_WT_bulk_16 : decode b_WT_bulk 16 = .ok (.bipush 16, 2) := by decide +kernel
theorem d_WT_bulk_18 : decode b_WT_bulk 18 = .ok (.iadd, 1) := by decide +kernel
theorem d_WT_bulk_19 : decode b_WT_bulk 19 = .ok (.aload_n 0, 1) := by decide +kernel
theorem d_WT_bulk_20 : decode b_WT_bulk 20 = .ok (.getfield 12, 3) := by decide +kernel
theorem d_WT_bulk_23 : decode b_WT_bulk 23 = .ok (.invokevirtual 64, 3) := by decide +kernel
theorem d_WT_bulk_26 : decode b_WT_bulk 26 = .ok (.if_icmp .gt 71, 3) := by decide +kernel
theorem d_WT_bulk_29 : decode b_WT_bulk 29 = .ok (.aload_n 0, 1) := by decide +kernel
theorem d_WT_bulk_30 : decode b_WT_bulk 30 = .ok (.getfield 12, 3) := by decide +kernel
theorem d_WT_bulk_33 : decode b_WT_bulk 33 = .ok (.iload 4, 2) := by decide +kernel
theorem d_WT_bulk_35 : decode b_WT_bulk 35 = .ok (.invokevirtual 158, 3) := by decide +kernel
theorem d_WT_bulk_38 : decode b_WT_bulk 38 = .ok (.lstore 5, 2) := by decide +kernel
theorem d_WT_bulk_40 : decode b_WT_bulk 40 = .ok (.aload_n 0, 1) := by decide +kernel
theorem d_WT_bulk_41 : decode b_WT_bulk 41 = .ok (.getfield 19, 3) := by decide +kernel
theorem d_WT_bulk_44 : decode b_WT_bulk 44 = .ok (.aload_n 2, 1) := by decide +kernel
theorem d_WT_bulk_45 : decode b_WT_bulk 45 = .ok (.lload 5, 2) := by decide +kernel
theorem d_WT_bulk_47 : decode b_WT_bulk 47 = .ok (.invokevirtual 140, 3) := by decide +kernel
theorem d_WT_bulk_50 : decode b_WT_bulk 50 = .ok (.ifCond .eq 47, 3) := by decide +kernel
theorem d_WT_bulk_53 : decode b_WT_bulk 53 = .ok (.aload_n 0, 1) := by decide +kernel
theorem d_WT_bulk_54 : decode b_WT_bulk 54 = .ok (.getfield 19, 3) := by decide +kernel
theorem d_WT_bulk_57 : decode b_WT_bulk 57 = .ok (.invokevirtual 146, 3) := by decide +kernel
theorem d_WT_bulk_60 : decode b_WT_bulk 60 = .ok (.ifCond .eq 6, 3) := by decide +kernel
theorem d_WT_bulk_63 : decode b_WT_bulk 63 = .ok (.goto 34, 3) := by decide +kernel
theorem d_WT_bulk_66 : decode b_WT_bulk 66 = .ok (.aload_n 0, 1) := by decide +kernel
theorem d_WT_bulk_67 : decode b_WT_bulk 67 = .ok (.getfield 19, 3) := by decide +kernel
theorem d_WT_bulk_70 : decode b_WT_bulk 70 = .ok (.aload_n 2, 1) := by decide +kernel
theorem d_WT_bulk_71 : decode b_WT_bulk 71 = .ok (.lload 5, 2) := by decide +kernel
theorem d_WT_bulk_73 : decode b_WT_bulk 73 = .ok (.aload_n 0, 1) := by decide +kernel
theorem d_WT_bulk_74 : decode b_WT_bulk 74 = .ok (.getfield 12, 3) := by decide +kernel
theorem d_WT_bulk_77 : decode b_WT_bulk 77 = .ok (.iload 4, 2) := by decide +kernel
theorem d_WT_bulk_79 : decode b_WT_bulk 79 = .ok (.bipush 8, 2) := by decide +kernel
theorem d_WT_bulk_81 : decode b_WT_bulk 81 = .ok (.iadd, 1) := by decide +kernel
theorem d_WT_bulk_82 : decode b_WT_bulk 82 = .ok (.invokevirtual 158, 3) := by decide +kernel
theorem d_WT_bulk_85 : decode b_WT_bulk 85 = .ok (.invokevirtual 151, 3) := by decide +kernel
theorem d_WT_bulk_88 : decode b_WT_bulk 88 = .ok (.iinc 3 1, 3) := by decide +kernel
theorem d_WT_bulk_91 : decode b_WT_bulk 91 = .ok (.iinc 4 16, 3) := by decide +kernel
theorem d_WT_bulk_94 : decode b_WT_bulk 94 = .ok (.goto (-80), 3) := by decide +kernel
theorem d_WT_bulk_97 : decode b_WT_bulk 97 = .ok (.aload_n 0, 1) := by decide +kernel
theorem d_WT_bulk_98 : decode b_WT_bulk 98 = .ok (.getfield 12, 3) := by decide +kernel
theorem d_WT_bulk_101 : decode b_WT_bulk 101 = .ok (.iconst 0, 1) := by decide +kernel
theorem d_WT_bulk_102 : decode b_WT_bulk 102 = .ok (.invokevirtual 85, 3) := by decide +kernel
theorem d_WT_bulk_105 : decode b_WT_bulk 105 = .ok (.iload_n 3, 1) := by decide +kernel
theorem d_WT_bulk_106 : decode b_WT_bulk 106 = .ok (.ireturn, 1) := by decide +kernel
theorem d_WT_delete_0 : decode b_WT_delete 0 = .ok (.aload_n 0, 1) := by decide +kernel
theorem d_WT_delete_1 : decode b_WT_delete 1 = .ok (.iload_n 1, 1) := by decide +kernel
theorem d_WT_delete_2 : decode b_WT_delete 2 = .ok (.invokevirtual 126, 3) := by decide +kernel
theorem d_WT_delete_5 : decode b_WT_delete 5 = .ok (.invokevirtual 136, 3) := by decide +kernel
theorem d_WT_delete_8 : decode b_WT_delete 8 = .ok (.astore 6, 2) := by decide +kernel
theorem d_WT_delete_10 : decode b_WT_delete 10 = .ok (.lload_n 2, 1) := by decide +kernel
theorem d_WT_delete_11 : decode b_WT_delete 11 = .ok (.lload 4, 2) := by decide +kernel
theorem d_WT_delete_13 : decode b_WT_delete 13 = .ok (.lcmp, 1) := by decide +kernel
theorem d_WT_delete_14 : decode b_WT_delete 14 = .ok (.ifCond .le 13, 3) := by decide +kernel
theorem d_WT_delete_17 : decode b_WT_delete 17 = .ok (.new 80, 3) := by decide +kernel
theorem d_WT_delete_20 : decode b_WT_delete 20 = .ok (.dup, 1) := by decide +kernel
theorem d_WT_delete_21 : decode b_WT_delete 21 = .ok (.ldc 162, 2) := by decide +kernel
theorem d_WT_delete_23 : decode b_WT_delete 23 = .ok (.invokespecial 84, 3) := by decide +kernel
theorem d_WT_delete_26 : decode b_WT_delete 26 = .ok (.athrow, 1) := by decide +kernel
theorem d_WT_delete_27 : decode b_WT_delete 27 = .ok (.aload 6, 2) := by decide +kernel
theorem d_WT_delete_29 : decode b_WT_delete 29 = .ok (.lload_n 2, 1) := by decide +kernel
theorem d_WT_delete_30 : decode b_WT_delete 30 = .ok (.invokevirtual 164, 3) := by decide +kernel
theorem d_WT_delete_33 : decode b_WT_delete 33 = .ok (.istore 7, 2) := by decide +kernel
theorem d_WT_delete_35 : decode b_WT_delete 35 = .ok (.aload 6, 2) := by decide +kernel
theorem d_WT_delete_37 : decode b_WT_delete 37 = .ok (.lload 4, 2) := by decide +kernel
theorem d_WT_delete_39 : decode b_WT_delete 39 = .ok (.ldc2_w 170, 3) := by decide +kernel
theorem d_WT_delete_42 : decode b_WT_delete 42 = .ok (.invokestatic 172, 3) := by decide +kernel
theorem d_WT_delete_45 : decode b_WT_delete 45 = .ok (.lconst 1, 1) := by decide +kernel
theorem d_WT_delete_46 : decode b_WT_delete 46 = .ok (.ladd, 1) := by decide +kernel
theorem d_WT_delete_47 : decode b_WT_delete 47 = .ok (.invokevirtual 164, 3) := by decide +kernel
theorem d_WT_delete_50 : decode b_WT_delete 50 = .ok (.istore 8, 2) := by decide +kernel
theorem d_WT_delete_52 : decode b_WT_delete 52 = .ok (.aload 6, 2) := by decide +kernel
theorem d_WT_delete_54 : decode b_WT_delete 54 = .ok (.iload 7, 2) := by decide +kernel
theorem d_WT_delete_56 : decode b_WT_delete 56 = .ok (.iload 8, 2) := by decide +kernel
theorem d_WT_delete_58 : decode b_WT_delete 58 = .ok (.invokevirtual 178, 3) := by decide +kernel
theorem d_WT_delete_61 : decode b_WT_delete 61 = .ok (.ifCond .le 7, 3) := by decide +kernel
theorem d_WT_delete_64 : decode b_WT_delete 64 = .ok (.iconst 1, 1) := by decide +kernel
theorem d_WT_delete_65 : decode b_WT_delete 65 = .ok (.goto 4, 3) := by decide +kernel
theorem d_WT_delete_68 : decode b_WT_delete 68 = .ok (.iconst 0, 1) := by decide +kernel
theorem d_WT_delete_69 : decode b_WT_delete 69 = .ok (.istore 9, 2) := by decide +kernel
theorem d_WT_delete_71 : decode b_WT_delete 71 = .ok (.iload 9, 2) := by decide +kernel
theorem d_WT_delete_73 : decode b_WT_delete 73 = .ok (.ifCond .eq 25, 3) := by decide +kernel
theorem d_WT_delete_76 : decode b_WT_delete 76 = .ok (.aload_n 0, 1) := by decide +kernel
theorem d_WT_delete_77 : decode b_WT_delete 77 = .ok (.getfield 19, 3) := by decide +kernel
theorem d_WT_delete_80 : decode b_WT_delete 80 = .ok (.invokevirtual 182, 3) := by decide +kernel
theorem d_WT_delete_83 : decode b_WT_delete 83 = .ok (.bipush 64, 2) := by decide +kernel
theorem d_WT_delete_85 : decode b_WT_delete 85 = .ok (.if_icmp .lt 13, 3) := by decide +kernel
theorem d_WT_delete_88 : decode b_WT_delete 88 = .ok (.new 69, 3) := by decide +kernel
theorem d_WT_delete_91 : decode b_WT_delete 91 = .ok (.dup, 1) := by decide +kernel
theorem d_WT_delete_92 : decode b_WT_delete 92 = .ok (.ldc 185, 2) := by decide +kernel
theorem d_WT_delete_94 : decode b_WT_delete 94 = .ok (.invokespecial 73, 3) := by decide +kernel
theorem d_WT_delete_97 : decode b_WT_delete 97 = .ok (.athrow, 1) := by decide +kernel
theorem d_WT_delete_98 : decode b_WT_delete 98 = .ok (.iload 9, 2) := by decide +kernel
theorem d_WT_delete_100 : decode b_WT_delete 100 = .ok (.ifCond .eq 10, 3) := by decide +kernel
theorem d_WT_delete_103 : decode b_WT_delete 103 = .ok (.aload_n 0, 1) := by decide +kernel
theorem d_WT_delete_104 : decode b_WT_delete 104 = .ok (.getfield 19, 3) := by decide +kernel
theorem d_WT_delete_107 : decode b_WT_delete 107 = .ok (.invokevirtual 187, 3) := by decide +kernel
theorem d_WT_delete_110 : decode b_WT_delete 110 = .ok (.aload_n 0, 1) := by decide +kernel
theorem d_WT_delete_111 : decode b_WT_delete 111 = .ok (.getfield 19, 3) := by decide +kernel
theorem d_WT_delete_114 : decode b_WT_delete 114 = .ok (.aload 6, 2) := by decide +kernel
theorem d_WT_delete_116 : decode b_WT_delete 116 = .ok (.iload 7, 2) := by decide +kernel
theorem d_WT_delete_118 : decode b_WT_delete 118 = .ok (.iload 8, 2) := by decide +kernel
theorem d_WT_delete_120 : decode b_WT_delete 120 = .ok (.invokevirtual 190, 3) := by decide +kernel
theorem d_WT_delete_123 : decode b_WT_delete 123 = .ok (.ireturn, 1) := by decide +kernel
theorem d_WT_retain_0 : decode b_WT_retain 0 = .ok (.aload_n 0, 1) := by decide +kernel
theorem d_WT_retain_1 : decode b_WT_retain 1 = .ok (.getfield 19, 3) := by decide +kernel
theorem d_WT_retain_4 : decode b_WT_retain 4 = .ok (.lload_n 1, 1) := by decide +kernel
theorem d_WT_retain_5 : decode b_WT_retain 5 = .ok (.invokevirtual 194, 3) := by decide +kernel
theorem d_WT_retain_8 : decode b_WT_retain 8 = .ok (.ifCond .eq 15, 3) := by decide +kernel
theorem d_WT_retain_11 : decode b_WT_retain 11 = .ok (.lload_n 1, 1) := by decide +kernel
theorem d_WT_retain_12 : decode b_WT_retain 12 = .ok (.aload_n 0, 1) := by decide +kernel
theorem d_WT_retain_13 : decode b_WT_retain 13 = .ok (.getfield 19, 3) := by decide +kernel
theorem d_WT_retain_16 : decode b_WT_retain 16 = .ok (.invokevirtual 198, 3) := by decide +kernel
theorem d_WT_retain_19 : decode b_WT_retain 19 = .ok (.lcmp, 1) := by decide +kernel
theorem d_WT_retain_20 : decode b_WT_retain 20 = .ok (.ifCond .ge 13, 3) := by decide +kernel
theorem d_WT_retain_23 : decode b_WT_retain 23 = .ok (.new 80, 3) := by decide +kernel
theorem d_WT_retain_26 : decode b_WT_retain 26 = .ok (.dup, 1) := by decide +kernel
theorem d_WT_retain_27 : decode b_WT_retain 27 = .ok (.ldc 202, 2) := by decide +kernel
theorem d_WT_retain_29 : decode b_WT_retain 29 = .ok (.invokespecial 84, 3) := by decide +kernel
theorem d_WT_retain_32 : decode b_WT_retain 32 = .ok (.athrow, 1) := by decide +kernel
theorem d_WT_retain_33 : decode b_WT_retain 33 = .ok (.aload_n 0, 1) := by decide +kernel
theorem d_WT_retain_34 : decode b_WT_retain 34 = .ok (.getfield 19, 3) := by decide +kernel
theorem d_WT_retain_37 : decode b_WT_retain 37 = .ok (.lload_n 1, 1) := by decide +kernel
theorem d_WT_retain_38 : decode b_WT_retain 38 = .ok (.invokevirtual 204, 3) := by decide +kernel
theorem d_WT_retain_41 : decode b_WT_retain 41 = .ok (.ireturn, 1) := by decide +kernel
theorem d_WT_ask_0 : decode b_WT_ask 0 = .ok (.aload_n 0, 1) := by decide +kernel
theorem d_WT_ask_1 : decode b_WT_ask 1 = .ok (.getfield 19, 3) := by decide +kernel
theorem d_WT_ask_4 : decode b_WT_ask 4 = .ok (.lload_n 1, 1) := by decide +kernel
theorem d_WT_ask_5 : decode b_WT_ask 5 = .ok (.invokevirtual 194, 3) := by decide +kernel
theorem d_WT_ask_8 : decode b_WT_ask 8 = .ok (.ifCond .eq 30, 3) := by decide +kernel
theorem d_WT_ask_11 : decode b_WT_ask 11 = .ok (.lload_n 3, 1) := by decide +kernel
theorem d_WT_ask_12 : decode b_WT_ask 12 = .ok (.lconst 1, 1) := by decide +kernel
theorem d_WT_ask_13 : decode b_WT_ask 13 = .ok (.lcmp, 1) := by decide +kernel
theorem d_WT_ask_14 : decode b_WT_ask 14 = .ok (.ifCond .lt 24, 3) := by decide +kernel
theorem d_WT_ask_17 : decode b_WT_ask 17 = .ok (.lload_n 3, 1) := by decide +kernel
theorem d_WT_ask_18 : decode b_WT_ask 18 = .ok (.ldc2_w 170, 3) := by decide +kernel
theorem d_WT_ask_21 : decode b_WT_ask 21 = .ok (.lcmp, 1) := by decide +kernel
theorem d_WT_ask_22 : decode b_WT_ask 22 = .ok (.ifCond .gt 16, 3) := by decide +kernel
theorem d_WT_ask_25 : decode b_WT_ask 25 = .ok (.iload 5, 2) := by decide +kernel
theorem d_WT_ask_27 : decode b_WT_ask 27 = .ok (.iconst 1, 1) := by decide +kernel
theorem d_WT_ask_28 : decode b_WT_ask 28 = .ok (.if_icmp .lt 10, 3) := by decide +kernel
theorem d_WT_ask_31 : decode b_WT_ask 31 = .ok (.iload 5, 2) := by decide +kernel
theorem d_WT_ask_33 : decode b_WT_ask 33 = .ok (.bipush 64, 2) := by decide +kernel
theorem d_WT_ask_35 : decode b_WT_ask 35 = .ok (.if_icmp .le 13, 3) := by decide +kernel
theorem d_WT_ask_38 : decode b_WT_ask 38 = .ok (.new 80, 3) := by decide +kernel
theorem d_WT_ask_41 : decode b_WT_ask 41 = .ok (.dup, 1) := by decide +kernel
theorem d_WT_ask_42 : decode b_WT_ask 42 = .ok (.ldc 207, 2) := by decide +kernel
theorem d_WT_ask_44 : decode b_WT_ask 44 = .ok (.invokespecial 84, 3) := by decide +kernel
theorem d_WT_ask_47 : decode b_WT_ask 47 = .ok (.athrow, 1) := by decide +kernel
theorem d_WT_ask_48 : decode b_WT_ask 48 = .ok (.aload_n 0, 1) := by decide +kernel
theorem d_WT_ask_49 : decode b_WT_ask 49 = .ok (.aload_n 0, 1) := by decide +kernel
theorem d_WT_ask_50 : decode b_WT_ask 50 = .ok (.getfield 42, 3) := by decide +kernel
theorem d_WT_ask_53 : decode b_WT_ask 53 = .ok (.invokevirtual 209, 3) := by decide +kernel
theorem d_WT_ask_56 : decode b_WT_ask 56 = .ok (.putfield 211, 3) := by decide +kernel
theorem d_WT_ask_59 : decode b_WT_ask 59 = .ok (.aload_n 0, 1) := by decide +kernel
theorem d_WT_ask_60 : decode b_WT_ask 60 = .ok (.aload_n 0, 1) := by decide +kernel
theorem d_WT_ask_61 : decode b_WT_ask 61 = .ok (.getfield 42, 3) := by decide +kernel
theorem d_WT_ask_64 : decode b_WT_ask 64 = .ok (.invokevirtual 215, 3) := by decide +kernel
theorem d_WT_ask_67 : decode b_WT_ask 67 = .ok (.putfield 113, 3) := by decide +kernel
theorem d_WT_ask_70 : decode b_WT_ask 70 = .ok (.aload_n 0, 1) := by decide +kernel
theorem d_WT_ask_71 : decode b_WT_ask 71 = .ok (.aload_n 0, 1) := by decide +kernel
theorem d_WT_ask_72 : decode b_WT_ask 72 = .ok (.getfield 42, 3) := by decide +kernel
theorem d_WT_ask_75 : decode b_WT_ask 75 = .ok (.invokevirtual 216, 3) := by decide +kernel
theorem d_WT_ask_78 : decode b_WT_ask 78 = .ok (.putfield 119, 3) := by decide +kernel
theorem d_WT_ask_81 : decode b_WT_ask 81 = .ok (.iconst (-1), 1) := by decide +kernel
theorem d_WT_ask_82 : decode b_WT_ask 82 = .ok (.istore 6, 2) := by decide +kernel
theorem d_WT_ask_84 : decode b_WT_ask 84 = .ok (.aload_n 0, 1) := by decide +kernel
theorem d_WT_ask_85 : decode b_WT_ask 85 = .ok (.getfield 211, 3) := by decide +kernel
theorem d_WT_ask_88 : decode b_WT_ask 88 = .ok (.ifCond .eq 30, 3) := by decide +kernel
theorem d_WT_ask_91 : decode b_WT_ask 91 = .ok (.aload_n 0, 1) := by decide +kernel
theorem d_WT_ask_92 : decode b_WT_ask 92 = .ok (.getfield 51, 3) := by decide +kernel
theorem d_WT_ask_95 : decode b_WT_ask 95 = .ok (.aload_n 0, 1) := by decide +kernel
theorem d_WT_ask_96 : decode b_WT_ask 96 = .ok (.getfield 42, 3) := by decide +kernel
theorem d_WT_ask_99 : decode b_WT_ask 99 = .ok (.invokevirtual 217, 3) := by decide +kernel
theorem d_WT_ask_102 : decode b_WT_ask 102 = .ok (.invokevirtual 220, 3) := by decide +kernel
theorem d_WT_ask_105 : decode b_WT_ask 105 = .ok (.aload_n 0, 1) := by decide +kernel
theorem d_WT_ask_106 : decode b_WT_ask 106 = .ok (.getfield 60, 3) := by decide +kernel
theorem d_WT_ask_109 : decode b_WT_ask 109 = .ok (.lload_n 1, 1) := by decide +kernel
theorem d_WT_ask_110 : decode b_WT_ask 110 = .ok (.lload_n 3, 1) := by decide +kernel
theorem d_WT_ask_111 : decode b_WT_ask 111 = .ok (.iload 5, 2) := by decide +kernel
theorem d_WT_ask_113 : decode b_WT_ask 113 = .ok (.invokevirtual 223, 3) := by decide +kernel
theorem d_WT_ask_116 : decode b_WT_ask 116 = .ok (.istore 6, 2) := by decide +kernel
theorem d_WT_ask_118 : decode b_WT_ask 118 = .ok (.aload_n 0, 1) := by decide +kernel
theorem d_WT_ask_119 : decode b_WT_ask 119 = .ok (.getfield 12, 3) := by decide +kernel
theorem d_WT_ask_122 : decode b_WT_ask 122 = .ok (.iconst 0, 1) := by decide +kernel
theorem d_WT_ask_123 : decode b_WT_ask 123 = .ok (.invokevirtual 85, 3) := by decide +kernel
theorem d_WT_ask_126 : decode b_WT_ask 126 = .ok (.iload 6, 2) := by decide +kernel
theorem d_WT_ask_128 : decode b_WT_ask 128 = .ok (.ireturn, 1) := by decide +kernel
theorem d_WT_names_0 : decode b_WT_names 0 = .ok (.aload_n 0, 1) := by decide +kernel
theorem d_WT_names_1 : decode b_WT_names 1 = .ok (.getfield 211, 3) := by decide +kernel
theorem d_WT_names_4 : decode b_WT_names 4 = .ok (.ifCond .eq 13, 3) := by decide +kernel
theorem d_WT_names_7 : decode b_WT_names 7 = .ok (.aload_n 0, 1) := by decide +kernel
theorem d_WT_names_8 : decode b_WT_names 8 = .ok (.getfield 51, 3) := by decide +kernel
theorem d_WT_names_11 : decode b_WT_names 11 = .ok (.invokevirtual 227, 3) := by decide +kernel
theorem d_WT_names_14 : decode b_WT_names 14 = .ok (.goto 4, 3) := by decide +kernel
theorem d_WT_names_17 : decode b_WT_names 17 = .ok (.iconst (-1), 1) := by decide +kernel
theorem d_WT_names_18 : decode b_WT_names 18 = .ok (.ireturn, 1) := by decide +kernel
theorem d_WT_text_0 : decode b_WT_text 0 = .ok (.aload_n 0, 1) := by decide +kernel
theorem d_WT_text_1 : decode b_WT_text 1 = .ok (.iload_n 1, 1) := by decide +kernel
theorem d_WT_text_2 : decode b_WT_text 2 = .ok (.invokevirtual 230, 3) := by decide +kernel
theorem d_WT_text_5 : decode b_WT_text 5 = .ok (.ifCond .ne 13, 3) := by decide +kernel
theorem d_WT_text_8 : decode b_WT_text 8 = .ok (.new 121, 3) := by decide +kernel
theorem d_WT_text_11 : decode b_WT_text 11 = .ok (.dup, 1) := by decide +kernel
theorem d_WT_text_12 : decode b_WT_text 12 = .ok (.ldc 234, 2) := by decide +kernel
theorem d_WT_text_14 : decode b_WT_text 14 = .ok (.invokespecial 125, 3) := by decide +kernel
theorem d_WT_text_17 : decode b_WT_text 17 = .ok (.athrow, 1) := by decide +kernel
theorem d_WT_text_18 : decode b_WT_text 18 = .ok (.aload_n 0, 1) := by decide +kernel
theorem d_WT_text_19 : decode b_WT_text 19 = .ok (.getfield 51, 3) := by decide +kernel
theorem d_WT_text_22 : decode b_WT_text 22 = .ok (.iload_n 1, 1) := by decide +kernel
theorem d_WT_text_23 : decode b_WT_text 23 = .ok (.iload_n 2, 1) := by decide +kernel
theorem d_WT_text_24 : decode b_WT_text 24 = .ok (.iload_n 3, 1) := by decide +kernel
theorem d_WT_text_25 : decode b_WT_text 25 = .ok (.invokevirtual 236, 3) := by decide +kernel
theorem d_WT_text_28 : decode b_WT_text 28 = .ok (.ireturn, 1) := by decide +kernel
theorem d_WT_isThere_0 : decode b_WT_isThere 0 = .ok (.aload_n 0, 1) := by decide +kernel
theorem d_WT_isThere_1 : decode b_WT_isThere 1 = .ok (.iload_n 1, 1) := by decide +kernel
theorem d_WT_isThere_2 : decode b_WT_isThere 2 = .ok (.iload_n 2, 1) := by decide +kernel
theorem d_WT_isThere_3 : decode b_WT_isThere 3 = .ok (.invokevirtual 239, 3) := by decide +kernel
theorem d_WT_isThere_6 : decode b_WT_isThere 6 = .ok (.astore_n 3, 1) := by decide +kernel
theorem d_WT_isThere_7 : decode b_WT_isThere 7 = .ok (.aload_n 3, 1) := by decide +kernel
theorem d_WT_isThere_8 : decode b_WT_isThere 8 = .ok (.aload_n 3, 1) := by decide +kernel
theorem d_WT_isThere_9 : decode b_WT_isThere 9 = .ok (.iload_n 1, 1) := by decide +kernel
theorem d_WT_isThere_10 : decode b_WT_isThere 10 = .ok (.iload_n 2, 1) := by decide +kernel
theorem d_WT_isThere_11 : decode b_WT_isThere 11 = .ok (.invokevirtual 243, 3) := by decide +kernel
theorem d_WT_isThere_14 : decode b_WT_isThere 14 = .ok (.invokevirtual 248, 3) := by decide +kernel
theorem d_WT_isThere_17 : decode b_WT_isThere 17 = .ok (.ireturn, 1) := by decide +kernel
theorem d_WT_cell_0 : decode b_WT_cell 0 = .ok (.aload_n 0, 1) := by decide +kernel
theorem d_WT_cell_1 : decode b_WT_cell 1 = .ok (.iload_n 1, 1) := by decide +kernel
theorem d_WT_cell_2 : decode b_WT_cell 2 = .ok (.iload_n 2, 1) := by decide +kernel
theorem d_WT_cell_3 : decode b_WT_cell 3 = .ok (.invokevirtual 239, 3) := by decide +kernel
theorem d_WT_cell_6 : decode b_WT_cell 6 = .ok (.astore_n 3, 1) := by decide +kernel
theorem d_WT_cell_7 : decode b_WT_cell 7 = .ok (.aload_n 3, 1) := by decide +kernel
theorem d_WT_cell_8 : decode b_WT_cell 8 = .ok (.aload_n 3, 1) := by decide +kernel
theorem d_WT_cell_9 : decode b_WT_cell 9 = .ok (.iload_n 1, 1) := by decide +kernel
theorem d_WT_cell_10 : decode b_WT_cell 10 = .ok (.iload_n 2, 1) := by decide +kernel
theorem d_WT_cell_11 : decode b_WT_cell 11 = .ok (.invokevirtual 243, 3) := by decide +kernel
theorem d_WT_cell_14 : decode b_WT_cell 14 = .ok (.invokevirtual 251, 3) := by decide +kernel
theorem d_WT_cell_17 : decode b_WT_cell 17 = .ok (.lreturn, 1) := by decide +kernel
theorem d_WT_last_0 : decode b_WT_last 0 = .ok (.aload_n 0, 1) := by decide +kernel
theorem d_WT_last_1 : decode b_WT_last 1 = .ok (.iload_n 1, 1) := by decide +kernel
theorem d_WT_last_2 : decode b_WT_last 2 = .ok (.invokevirtual 126, 3) := by decide +kernel
theorem d_WT_last_5 : decode b_WT_last 5 = .ok (.invokevirtual 136, 3) := by decide +kernel
theorem d_WT_last_8 : decode b_WT_last 8 = .ok (.invokevirtual 254, 3) := by decide +kernel
theorem d_WT_last_11 : decode b_WT_last 11 = .ok (.lreturn, 1) := by decide +kernel
theorem d_WT_pack_0 : decode b_WT_pack 0 = .ok (.aload_n 0, 1) := by decide +kernel
theorem d_WT_pack_1 : decode b_WT_pack 1 = .ok (.getfield 19, 3) := by decide +kernel
theorem d_WT_pack_4 : decode b_WT_pack 4 = .ok (.invokevirtual 155, 3) := by decide +kernel
theorem d_WT_pack_7 : decode b_WT_pack 7 = .ok (.ifCond .le 26, 3) := by decide +kernel
theorem d_WT_pack_10 : decode b_WT_pack 10 = .ok (.aload_n 0, 1) := by decide +kernel
theorem d_WT_pack_11 : decode b_WT_pack 11 = .ok (.getfield 19, 3) := by decide +kernel
theorem d_WT_pack_14 : decode b_WT_pack 14 = .ok (.invokevirtual 257, 3) := by decide +kernel
theorem d_WT_pack_17 : decode b_WT_pack 17 = .ok (.bipush 32, 2) := by decide +kernel
theorem d_WT_pack_19 : decode b_WT_pack 19 = .ok (.if_icmp .lt 14, 3) := by decide +kernel
theorem d_WT_pack_22 : decode b_WT_pack 22 = .ok (.new 69, 3) := by decide +kernel
theorem d_WT_pack_25 : decode b_WT_pack 25 = .ok (.dup, 1) := by decide +kernel
theorem d_WT_pack_26 : decode b_WT_pack 26 = .ok (.ldc_w 260, 3) := by decide +kernel
theorem d_WT_pack_29 : decode b_WT_pack 29 = .ok (.invokespecial 73, 3) := by decide +kernel
theorem d_WT_pack_32 : decode b_WT_pack 32 = .ok (.athrow, 1) := by decide +kernel
theorem d_WT_pack_33 : decode b_WT_pack 33 = .ok (.aload_n 0, 1) := by decide +kernel
theorem d_WT_pack_34 : decode b_WT_pack 34 = .ok (.getfield 19, 3) := by decide +kernel
theorem d_WT_pack_37 : decode b_WT_pack 37 = .ok (.invokevirtual 262, 3) := by decide +kernel
theorem d_WT_pack_40 : decode b_WT_pack 40 = .ok (.ireturn, 1) := by decide +kernel
theorem d_WT_count_0 : decode b_WT_count 0 = .ok (.iload_n 1, 1) := by decide +kernel
theorem d_WT_count_1 : decode b_WT_count 1 = .ok (.tableswitch 75 0 4 #[35, 43, 51, 59, 67], 35) := by decide +kernel
theorem d_WT_count_36 : decode b_WT_count 36 = .ok (.aload_n 0, 1) := by decide +kernel
theorem d_WT_count_37 : decode b_WT_count 37 = .ok (.getfield 19, 3) := by decide +kernel
theorem d_WT_count_40 : decode b_WT_count 40 = .ok (.invokevirtual 265, 3) := by decide +kernel
theorem d_WT_count_43 : decode b_WT_count 43 = .ok (.ireturn, 1) := by decide +kernel
theorem d_WT_count_44 : decode b_WT_count 44 = .ok (.aload_n 0, 1) := by decide +kernel
theorem d_WT_count_45 : decode b_WT_count 45 = .ok (.getfield 19, 3) := by decide +kernel
theorem d_WT_count_48 : decode b_WT_count 48 = .ok (.invokevirtual 155, 3) := by decide +kernel
theorem d_WT_count_51 : decode b_WT_count 51 = .ok (.ireturn, 1) := by decide +kernel
theorem d_WT_count_52 : decode b_WT_count 52 = .ok (.aload_n 0, 1) := by decide +kernel
theorem d_WT_count_53 : decode b_WT_count 53 = .ok (.getfield 19, 3) := by decide +kernel
theorem d_WT_count_56 : decode b_WT_count 56 = .ok (.invokevirtual 257, 3) := by decide +kernel
theorem d_WT_count_59 : decode b_WT_count 59 = .ok (.ireturn, 1) := by decide +kernel
theorem d_WT_count_60 : decode b_WT_count 60 = .ok (.aload_n 0, 1) := by decide +kernel
theorem d_WT_count_61 : decode b_WT_count 61 = .ok (.getfield 19, 3) := by decide +kernel
theorem d_WT_count_64 : decode b_WT_count 64 = .ok (.invokevirtual 182, 3) := by decide +kernel
theorem d_WT_count_67 : decode b_WT_count 67 = .ok (.ireturn, 1) := by decide +kernel
theorem d_WT_count_68 : decode b_WT_count 68 = .ok (.aload_n 0, 1) := by decide +kernel
theorem d_WT_count_69 : decode b_WT_count 69 = .ok (.getfield 19, 3) := by decide +kernel
theorem d_WT_count_72 : decode b_WT_count 72 = .ok (.invokevirtual 266, 3) := by decide +kernel
theorem d_WT_count_75 : decode b_WT_count 75 = .ok (.ireturn, 1) := by decide +kernel
theorem d_WT_count_76 : decode b_WT_count 76 = .ok (.new 80, 3) := by decide +kernel
theorem d_WT_count_79 : decode b_WT_count 79 = .ok (.dup, 1) := by decide +kernel
theorem d_WT_count_80 : decode b_WT_count 80 = .ok (.ldc_w 269, 3) := by decide +kernel
theorem d_WT_count_83 : decode b_WT_count 83 = .ok (.invokespecial 84, 3) := by decide +kernel
theorem d_WT_count_86 : decode b_WT_count 86 = .ok (.athrow, 1) := by decide +kernel
theorem d_WT_existing_0 : decode b_WT_existing 0 = .ok (.aload_n 0, 1) := by decide +kernel
theorem d_WT_existing_1 : decode b_WT_existing 1 = .ok (.getfield 19, 3) := by decide +kernel
theorem d_WT_existing_4 : decode b_WT_existing 4 = .ok (.iload_n 1, 1) := by decide +kernel
theorem d_WT_existing_5 : decode b_WT_existing 5 = .ok (.invokevirtual 271, 3) := by decide +kernel
theorem d_WT_existing_8 : decode b_WT_existing 8 = .ok (.astore_n 2, 1) := by decide +kernel
theorem d_WT_existing_9 : decode b_WT_existing 9 = .ok (.aload_n 2, 1) := by decide +kernel
theorem d_WT_existing_10 : decode b_WT_existing 10 = .ok (.ifnonnull 14, 3) := by decide +kernel
theorem d_WT_existing_13 : decode b_WT_existing 13 = .ok (.new 121, 3) := by decide +kernel
theorem d_WT_existing_16 : decode b_WT_existing 16 = .ok (.dup, 1) := by decide +kernel
theorem d_WT_existing_17 : decode b_WT_existing 17 = .ok (.ldc_w 274, 3) := by decide +kernel
theorem d_WT_existing_20 : decode b_WT_existing 20 = .ok (.invokespecial 125, 3) := by decide +kernel
theorem d_WT_existing_23 : decode b_WT_existing 23 = .ok (.athrow, 1) := by decide +kernel
theorem d_WT_existing_24 : decode b_WT_existing 24 = .ok (.aload_n 2, 1) := by decide +kernel
theorem d_WT_existing_25 : decode b_WT_existing 25 = .ok (.areturn, 1) := by decide +kernel
theorem d_WT_hasRow_0 : decode b_WT_hasRow 0 = .ok (.aload_n 0, 1) := by decide +kernel
theorem d_WT_hasRow_1 : decode b_WT_hasRow 1 = .ok (.getfield 211, 3) := by decide +kernel
theorem d_WT_hasRow_4 : decode b_WT_hasRow 4 = .ok (.ifCond .eq 25, 3) := by decide +kernel
theorem d_WT_hasRow_7 : decode b_WT_hasRow 7 = .ok (.iload_n 1, 1) := by decide +kernel
theorem d_WT_hasRow_8 : decode b_WT_hasRow 8 = .ok (.ifCond .lt 21, 3) := by decide +kernel
theorem d_WT_hasRow_11 : decode b_WT_hasRow 11 = .ok (.iload_n 1, 1) := by decide +kernel
theorem d_WT_hasRow_12 : decode b_WT_hasRow 12 = .ok (.aload_n 0, 1) := by decide +kernel
theorem d_WT_hasRow_13 : decode b_WT_hasRow 13 = .ok (.getfield 60, 3) := by decide +kernel
theorem d_WT_hasRow_16 : decode b_WT_hasRow 16 = .ok (.invokevirtual 276, 3) := by decide +kernel
theorem d_WT_hasRow_19 : decode b_WT_hasRow 19 = .ok (.invokevirtual 280, 3) := by decide +kernel
theorem d_WT_hasRow_22 : decode b_WT_hasRow 22 = .ok (.if_icmp .ge 7, 3) := by decide +kernel
theorem d_WT_hasRow_25 : decode b_WT_hasRow 25 = .ok (.iconst 1, 1) := by decide +kernel
theorem d_WT_hasRow_26 : decode b_WT_hasRow 26 = .ok (.goto 4, 3) := by decide +kernel
theorem d_WT_hasRow_29 : decode b_WT_hasRow 29 = .ok (.iconst 0, 1) := by decide +kernel
theorem d_WT_hasRow_30 : decode b_WT_hasRow 30 = .ok (.ireturn, 1) := by decide +kernel
theorem d_WT_tableWith_0 : decode b_WT_tableWith 0 = .ok (.aload_n 0, 1) := by decide +kernel
theorem d_WT_tableWith_1 : decode b_WT_tableWith 1 = .ok (.getfield 60, 3) := by decide +kernel
theorem d_WT_tableWith_4 : decode b_WT_tableWith 4 = .ok (.invokevirtual 276, 3) := by decide +kernel
theorem d_WT_tableWith_7 : decode b_WT_tableWith 7 = .ok (.astore_n 3, 1) := by decide +kernel
theorem d_WT_tableWith_8 : decode b_WT_tableWith 8 = .ok (.aload_n 0, 1) := by decide +kernel
theorem d_WT_tableWith_9 : decode b_WT_tableWith 9 = .ok (.iload_n 1, 1) := by decide +kernel
theorem d_WT_tableWith_10 : decode b_WT_tableWith 10 = .ok (.invokevirtual 230, 3) := by decide +kernel
theorem d_WT_tableWith_13 : decode b_WT_tableWith 13 = .ok (.ifCond .eq 15, 3) := by decide +kernel
theorem d_WT_tableWith_16 : decode b_WT_tableWith 16 = .ok (.iload_n 2, 1) := by decide +kernel
theorem d_WT_tableWith_17 : decode b_WT_tableWith 17 = .ok (.ifCond .lt 11, 3) := by decide +kernel
theorem d_WT_tableWith_20 : decode b_WT_tableWith 20 = .ok (.iload_n 2, 1) := by decide +kernel
theorem d_WT_tableWith_21 : decode b_WT_tableWith 21 = .ok (.aload_n 3, 1) := by decide +kernel
theorem d_WT_tableWith_22 : decode b_WT_tableWith 22 = .ok (.invokevirtual 283, 3) := by decide +kernel
theorem d_WT_tableWith_25 : decode b_WT_tableWith 25 = .ok (.if_icmp .lt 14, 3) := by decide +kernel
theorem d_WT_tableWith_28 : decode b_WT_tableWith 28 = .ok (.new 121, 3) := by decide +kernel
theorem d_WT_tableWith_31 : decode b_WT_tableWith 31 = .ok (.dup, 1) := by decide +kernel
theorem d_WT_tableWith_32 : decode b_WT_tableWith 32 = .ok (.ldc_w 286, 3) := by decide +kernel
theorem d_WT_tableWith_35 : decode b_WT_tableWith 35 = .ok (.invokespecial 125, 3) := by decide +kernel
theorem d_WT_tableWith_38 : decode b_WT_tableWith 38 = .ok (.athrow, 1) := by decide +kernel
theorem d_WT_tableWith_39 : decode b_WT_tableWith 39 = .ok (.aload_n 3, 1) := by decide +kernel
theorem d_WT_tableWith_40 : decode b_WT_tableWith 40 = .ok (.areturn, 1) := by decide +kernel
theorem d_Ev_init_0 : decode b_Ev_init 0 = .ok (.aload_n 0, 1) := by decide +kernel
theorem d_Ev_init_1 : decode b_Ev_init 1 = .ok (.invokespecial 3, 3) := by decide +kernel
theorem d_Ev_init_4 : decode b_Ev_init 4 = .ok (.aload_n 0, 1) := by decide +kernel
theorem d_Ev_init_5 : decode b_Ev_init 5 = .ok (.bipush 19, 2) := by decide +kernel
theorem d_Ev_init_7 : decode b_Ev_init 7 = .ok (.anewarray 9, 3) := by decide +kernel
theorem d_Ev_init_10 : decode b_Ev_init 10 = .ok (.putfield 11, 3) := by decide +kernel
theorem d_Ev_init_13 : decode b_Ev_init 13 = .ok (.aload_n 0, 1) := by decide +kernel
theorem d_Ev_init_14 : decode b_Ev_init 14 = .ok (.iconst 0, 1) := by decide +kernel
theorem d_Ev_init_15 : decode b_Ev_init 15 = .ok (.newarray .long, 2) := by decide +kernel
theorem d_Ev_init_17 : decode b_Ev_init 17 = .ok (.putfield 17, 3) := by decide +kernel
theorem d_Ev_init_20 : decode b_Ev_init 20 = .ok (.aload_n 0, 1) := by decide +kernel
theorem d_Ev_init_21 : decode b_Ev_init 21 = .ok (.aload_n 1, 1) := by decide +kernel
theorem d_Ev_init_22 : decode b_Ev_init 22 = .ok (.putfield 21, 3) := by decide +kernel
theorem d_Ev_init_25 : decode b_Ev_init 25 = .ok (.aload_n 0, 1) := by decide +kernel
theorem d_Ev_init_26 : decode b_Ev_init 26 = .ok (.aload_n 2, 1) := by decide +kernel
theorem d_Ev_init_27 : decode b_Ev_init 27 = .ok (.putfield 25, 3) := by decide +kernel
theorem d_Ev_init_30 : decode b_Ev_init 30 = .ok (.aload_n 0, 1) := by decide +kernel
theorem d_Ev_init_31 : decode b_Ev_init 31 = .ok (.aload_n 3, 1) := by decide +kernel
theorem d_Ev_init_32 : decode b_Ev_init 32 = .ok (.putfield 29, 3) := by decide +kernel
theorem d_Ev_init_35 : decode b_Ev_init 35 = .ok (.aload_n 0, 1) := by decide +kernel
theorem d_Ev_init_36 : decode b_Ev_init 36 = .ok (.aload 4, 2) := by decide +kernel
theorem d_Ev_init_38 : decode b_Ev_init 38 = .ok (.putfield 33, 3) := by decide +kernel
theorem d_Ev_init_41 : decode b_Ev_init 41 = .ok (.iconst 0, 1) := by decide +kernel
theorem d_Ev_init_42 : decode b_Ev_init 42 = .ok (.istore 5, 2) := by decide +kernel
theorem d_Ev_init_44 : decode b_Ev_init 44 = .ok (.iload 5, 2) := by decide +kernel
theorem d_Ev_init_46 : decode b_Ev_init 46 = .ok (.aload_n 0, 1) := by decide +kernel
theorem d_Ev_init_47 : decode b_Ev_init 47 = .ok (.getfield 11, 3) := by decide +kernel
theorem d_Ev_init_50 : decode b_Ev_init 50 = .ok (.arraylength, 1) := by decide +kernel
theorem d_Ev_init_51 : decode b_Ev_init 51 = .ok (.if_icmp .ge 23, 3) := by decide +kernel
theorem d_Ev_init_54 : decode b_Ev_init 54 = .ok (.aload_n 0, 1) := by decide +kernel
theorem d_Ev_init_55 : decode b_Ev_init 55 = .ok (.getfield 11, 3) := by decide +kernel
theorem d_Ev_init_58 : decode b_Ev_init 58 = .ok (.iload 5, 2) := by decide +kernel
theorem d_Ev_init_60 : decode b_Ev_init 60 = .ok (.new 9, 3) := by decide +kernel
theorem d_Ev_init_63 : decode b_Ev_init 63 = .ok (.dup, 1) := by decide +kernel
theorem d_Ev_init_64 : decode b_Ev_init 64 = .ok (.invokespecial 37, 3) := by decide +kernel
theorem d_Ev_init_67 : decode b_Ev_init 67 = .ok (.aastore, 1) := by decide +kernel
theorem d_Ev_init_68 : decode b_Ev_init 68 = .ok (.iinc 5 1, 3) := by decide +kernel
theorem d_Ev_init_71 : decode b_Ev_init 71 = .ok (.goto (-27), 3) := by decide +kernel
theorem d_Ev_init_74 : decode b_Ev_init 74 = .ok (.return_, 1) := by decide +kernel
theorem d_Ev_table_0 : decode b_Ev_table 0 = .ok (.aload_n 0, 1) := by decide +kernel
theorem d_Ev_table_1 : decode b_Ev_table 1 = .ok (.getfield 11, 3) := by decide +kernel
theorem d_Ev_table_4 : decode b_Ev_table 4 = .ok (.iconst 0, 1) := by decide +kernel
theorem d_Ev_table_5 : decode b_Ev_table 5 = .ok (.aaload, 1) := by decide +kernel
theorem d_Ev_table_6 : decode b_Ev_table 6 = .ok (.areturn, 1) := by decide +kernel
theorem d_Ev_run_0 : decode b_Ev_run 0 = .ok (.aload_n 0, 1) := by decide +kernel
theorem d_Ev_run_1 : decode b_Ev_run 1 = .ok (.lload_n 1, 1) := by decide +kernel
theorem d_Ev_run_2 : decode b_Ev_run 2 = .ok (.putfield 38, 3) := by decide +kernel
theorem d_Ev_run_5 : decode b_Ev_run 5 = .ok (.aload_n 0, 1) := by decide +kernel
theorem d_Ev_run_6 : decode b_Ev_run 6 = .ok (.lload_n 3, 1) := by decide +kernel
theorem d_Ev_run_7 : decode b_Ev_run 7 = .ok (.putfield 42, 3) := by decide +kernel
theorem d_Ev_run_10 : decode b_Ev_run 10 = .ok (.aload_n 0, 1) := by decide +kernel
theorem d_Ev_run_11 : decode b_Ev_run 11 = .ok (.iload 5, 2) := by decide +kernel
theorem d_Ev_run_13 : decode b_Ev_run 13 = .ok (.putfield 45, 3) := by decide +kernel
theorem d_Ev_run_16 : decode b_Ev_run 16 = .ok (.aload_n 0, 1) := by decide +kernel
theorem d_Ev_run_17 : decode b_Ev_run 17 = .ok (.iconst 0, 1) := by decide +kernel
theorem d_Ev_run_18 : decode b_Ev_run 18 = .ok (.putfield 49, 3) := by decide +kernel
theorem d_Ev_run_21 : decode b_Ev_run 21 = .ok (.iconst 1, 1) := by decide +kernel
theorem d_Ev_run_22 : decode b_Ev_run 22 = .ok (.istore 6, 2) := by decide +kernel
theorem d_Ev_run_24 : decode b_Ev_run 24 = .ok (.iconst 0, 1) := by decide +kernel
theorem d_Ev_run_25 : decode b_Ev_run 25 = .ok (.istore 7, 2) := by decide +kernel
theorem d_Ev_run_27 : decode b_Ev_run 27 = .ok (.iload 7, 2) := by decide +kernel
theorem d_Ev_run_29 : decode b_Ev_run 29 = .ok (.aload_n 0, 1) := by decide +kernel
theorem d_Ev_run_30 : decode b_Ev_run 30 = .ok (.getfield 29, 3) := by decide +kernel
theorem d_Ev_run_33 : decode b_Ev_run 33 = .ok (.invokevirtual 52, 3) := by decide +kernel
theorem d_Ev_run_36 : decode b_Ev_run 36 = .ok (.if_icmp .ge 115, 3) := by decide +kernel
theorem d_Ev_run_39 : decode b_Ev_run 39 = .ok (.iconst 1, 1) := by decide +kernel
theorem d_Ev_run_40 : decode b_Ev_run 40 = .ok (.aload_n 0, 1) := by decide +kernel
theorem d_Ev_run_41 : decode b_Ev_run 41 = .ok (.getfield 29, 3) := by decide +kernel
theorem d_Ev_run_44 : decode b_Ev_run 44 = .ok (.iload 7, 2) := by decide +kernel
theorem d_Ev_run_46 : decode b_Ev_run 46 = .ok (.invokevirtual 58, 3) := by decide +kernel
theorem d_Ev_run_49 : decode b_Ev_run 49 = .ok (.invokestatic 62, 3) := by decide +kernel
theorem d_Ev_run_52 : decode b_Ev_run 52 = .ok (.istore 6, 2) := by decide +kernel
theorem d_Ev_run_54 : decode b_Ev_run 54 = .ok (.aload_n 0, 1) := by decide +kernel
theorem d_Ev_run_55 : decode b_Ev_run 55 = .ok (.getfield 29, 3) := by decide +kernel
theorem d_Ev_run_58 : decode b_Ev_run 58 = .ok (.iload 7, 2) := by decide +kernel
theorem d_Ev_run_60 : decode b_Ev_run 60 = .ok (.invokevirtual 68, 3) := by decide +kernel
theorem d_Ev_run_63 : decode b_Ev_run 63 = .ok (.lookupswitch 65 #[(302, 33), (310, 49), (311, 58)], 33) := by decide +kernel
theorem d_Ev_run_96 : decode b_Ev_run 96 = .ok (.aload_n 0, 1) := by decide +kernel
theorem d_Ev_run_97 : decode b_Ev_run 97 = .ok (.aload_n 0, 1) := by decide +kernel
theorem d_Ev_run_98 : decode b_Ev_run 98 = .ok (.getfield 29, 3) := by decide +kernel
theorem d_Ev_run_101 : decode b_Ev_run 101 = .ok (.iload 7, 2) := by decide +kernel
theorem d_Ev_run_103 : decode b_Ev_run 103 = .ok (.invokevirtual 71, 3) := by decide +kernel
theorem d_Ev_run_106 : decode b_Ev_run 106 = .ok (.invokevirtual 75, 3) := by decide +kernel
theorem d_Ev_run_109 : decode b_Ev_run 109 = .ok (.goto 32, 3) := by decide +kernel
theorem d_Ev_run_112 : decode b_Ev_run 112 = .ok (.aload_n 0, 1) := by decide +kernel
theorem d_Ev_run_113 : decode b_Ev_run 113 = .ok (.iload 7, 2) := by decide +kernel
theorem d_Ev_run_115 : decode b_Ev_run 115 = .ok (.invokevirtual 79, 3) := by decide +kernel
theorem d_Ev_run_118 : decode b_Ev_run 118 = .ok (.goto 23, 3) := by decide +kernel
theorem d_Ev_run_121 : decode b_Ev_run 121 = .ok (.aload_n 0, 1) := by decide +kernel
theorem d_Ev_run_122 : decode b_Ev_run 122 = .ok (.invokevirtual 83, 3) := by decide +kernel
theorem d_Ev_run_125 : decode b_Ev_run 125 = .ok (.goto 16, 3) := by decide +kernel
theorem d_Ev_run_128 : decode b_Ev_run 128 = .ok (.aload_n 0, 1) := by decide +kernel
theorem d_Ev_run_129 : decode b_Ev_run 129 = .ok (.aload_n 0, 1) := by decide +kernel
theorem d_Ev_run_130 : decode b_Ev_run 130 = .ok (.getfield 29, 3) := by decide +kernel
theorem d_Ev_run_133 : decode b_Ev_run 133 = .ok (.iload 7, 2) := by decide +kernel
theorem d_Ev_run_135 : decode b_Ev_run 135 = .ok (.invokevirtual 68, 3) := by decide +kernel
theorem d_Ev_run_138 : decode b_Ev_run 138 = .ok (.invokevirtual 86, 3) := by decide +kernel
theorem d_Ev_run_141 : decode b_Ev_run 141 = .ok (.iload 7, 2) := by decide +kernel
theorem d_Ev_run_143 : decode b_Ev_run 143 = .ok (.iload 6, 2) := by decide +kernel
theorem d_Ev_run_145 : decode b_Ev_run 145 = .ok (.iadd, 1) := by decide +kernel
theorem d_Ev_run_146 : decode b_Ev_run 146 = .ok (.istore 7, 2) := by decide +kernel
theorem d_Ev_run_148 : decode b_Ev_run 148 = .ok (.goto (-121), 3) := by decide +kernel
theorem d_Ev_run_151 : decode b_Ev_run 151 = .ok (.aload_n 0, 1) := by decide +kernel
theorem d_Ev_run_152 : decode b_Ev_run 152 = .ok (.invokevirtual 89, 3) := by decide +kernel
theorem d_Ev_run_155 : decode b_Ev_run 155 = .ok (.aload_n 0, 1) := by decide +kernel
theorem d_Ev_run_156 : decode b_Ev_run 156 = .ok (.invokevirtual 92, 3) := by decide +kernel
theorem d_Ev_run_159 : decode b_Ev_run 159 = .ok (.invokevirtual 96, 3) := by decide +kernel
theorem d_Ev_run_162 : decode b_Ev_run 162 = .ok (.ireturn, 1) := by decide +kernel
theorem d_Ev_push_0 : decode b_Ev_push 0 = .ok (.aload_n 0, 1) := by decide +kernel
theorem d_Ev_push_1 : decode b_Ev_push 1 = .ok (.getfield 49, 3) := by decide +kernel
theorem d_Ev_push_4 : decode b_Ev_push 4 = .ok (.aload_n 0, 1) := by decide +kernel
theorem d_Ev_push_5 : decode b_Ev_push 5 = .ok (.getfield 11, 3) := by decide +kernel
theorem d_Ev_push_8 : decode b_Ev_push 8 = .ok (.arraylength, 1) := by decide +kernel
theorem d_Ev_push_9 : decode b_Ev_push 9 = .ok (.if_icmp .ge 13, 3) := by decide +kernel
theorem d_Ev_push_12 : decode b_Ev_push 12 = .ok (.aload_n 0, 1) := by decide +kernel
theorem d_Ev_push_13 : decode b_Ev_push 13 = .ok (.dup, 1) := by decide +kernel
theorem d_Ev_push_14 : decode b_Ev_push 14 = .ok (.getfield 49, 3) := by decide +kernel
theorem d_Ev_push_17 : decode b_Ev_push 17 = .ok (.iconst 1, 1) := by decide +kernel
theorem d_Ev_push_18 : decode b_Ev_push 18 = .ok (.iadd, 1) := by decide +kernel
theorem d_Ev_push_19 : decode b_Ev_push 19 = .ok (.putfield 49, 3) := by decide +kernel
theorem d_Ev_push_22 : decode b_Ev_push 22 = .ok (.aload_n 0, 1) := by decide +kernel
theorem d_Ev_push_23 : decode b_Ev_push 23 = .ok (.getfield 11, 3) := by decide +kernel
theorem d_Ev_push_26 : decode b_Ev_push 26 = .ok (.aload_n 0, 1) := by decide +kernel
theorem d_Ev_push_27 : decode b_Ev_push 27 = .ok (.getfield 49, 3) := by decide +kernel
theorem d_Ev_push_30 : decode b_Ev_push 30 = .ok (.iconst 1, 1) := by decide +kernel
theorem d_Ev_push_31 : decode b_Ev_push 31 = .ok (.isub, 1) := by decide +kernel
theorem d_Ev_push_32 : decode b_Ev_push 32 = .ok (.aaload, 1) := by decide +kernel
theorem d_Ev_push_33 : decode b_Ev_push 33 = .ok (.astore_n 3, 1) := by decide +kernel
theorem d_Ev_push_34 : decode b_Ev_push 34 = .ok (.aload_n 3, 1) := by decide +kernel
theorem d_Ev_push_35 : decode b_Ev_push 35 = .ok (.iload_n 1, 1) := by decide +kernel
theorem d_Ev_push_36 : decode b_Ev_push 36 = .ok (.aload_n 0, 1) := by decide +kernel
theorem d_Ev_push_37 : decode b_Ev_push 37 = .ok (.getfield 45, 3) := by decide +kernel
theorem d_Ev_push_40 : decode b_Ev_push 40 = .ok (.iload_n 2, 1) := by decide +kernel
theorem d_Ev_push_41 : decode b_Ev_push 41 = .ok (.invokevirtual 99, 3) := by decide +kernel
theorem d_Ev_push_44 : decode b_Ev_push 44 = .ok (.aload_n 3, 1) := by decide +kernel
theorem d_Ev_push_45 : decode b_Ev_push 45 = .ok (.areturn, 1) := by decide +kernel
theorem d_Ev_pushNumber_0 : decode b_Ev_pushNumber 0 = .ok (.aload_n 0, 1) := by decide +kernel
theorem d_Ev_pushNumber_1 : decode b_Ev_pushNumber 1 = .ok (.iconst 1, 1) := by decide +kernel
theorem d_Ev_pushNumber_2 : decode b_Ev_pushNumber 2 = .ok (.iconst 0, 1) := by decide +kernel
theorem d_Ev_pushNumber_3 : decode b_Ev_pushNumber 3 = .ok (.invokevirtual 103, 3) := by decide +kernel
theorem d_Ev_pushNumber_6 : decode b_Ev_pushNumber 6 = .ok (.astore_n 3, 1) := by decide +kernel
theorem d_Ev_pushNumber_7 : decode b_Ev_pushNumber 7 = .ok (.iconst 0, 1) := by decide +kernel
theorem d_Ev_pushNumber_8 : decode b_Ev_pushNumber 8 = .ok (.istore 4, 2) := by decide +kernel
theorem d_Ev_pushNumber_10 : decode b_Ev_pushNumber 10 = .ok (.iload 4, 2) := by decide +kernel
theorem d_Ev_pushNumber_12 : decode b_Ev_pushNumber 12 = .ok (.aload_n 0, 1) := by decide +kernel
theorem d_Ev_pushNumber_13 : decode b_Ev_pushNumber 13 = .ok (.getfield 45, 3) := by decide +kernel
theorem d_Ev_pushNumber_16 : decode b_Ev_pushNumber 16 = .ok (.if_icmp .ge 16, 3) := by decide +kernel
theorem d_Ev_pushNumber_19 : decode b_Ev_pushNumber 19 = .ok (.aload_n 3, 1) := by decide +kernel
theorem d_Ev_pushNumber_20 : decode b_Ev_pushNumber 20 = .ok (.iload 4, 2) := by decide +kernel
theorem d_Ev_pushNumber_22 : decode b_Ev_pushNumber 22 = .ok (.lload_n 1, 1) := by decide +kernel
theorem d_Ev_pushNumber_23 : decode b_Ev_pushNumber 23 = .ok (.invokevirtual 107, 3) := by decide +kernel
theorem d_Ev_pushNumber_26 : decode b_Ev_pushNumber 26 = .ok (.iinc 4 1, 3) := by decide +kernel
theorem d_Ev_pushNumber_29 : decode b_Ev_pushNumber 29 = .ok (.goto (-19), 3) := by decide +kernel
theorem d_Ev_pushNumber_32 : decode b_Ev_pushNumber 32 = .ok (.return_, 1) := by decide +kernel
theorem d_Ev_negate_0 : decode b_Ev_negate 0 = .ok (.aload_n 0, 1) := by decide +kernel
theorem d_Ev_negate_1 : decode b_Ev_negate 1 = .ok (.getfield 49, 3) := by decide +kernel
theorem d_Ev_negate_4 : decode b_Ev_negate 4 = .ok (.iconst 1, 1) := by decide +kernel
theorem d_Ev_negate_5 : decode b_Ev_negate 5 = .ok (.if_icmp .ge 4, 3) := by decide +kernel
theorem d_Ev_negate_8 : decode b_Ev_negate 8 = .ok (.return_, 1) := by decide +kernel
theorem d_Ev_negate_9 : decode b_Ev_negate 9 = .ok (.aload_n 0, 1) := by decide +kernel
theorem d_Ev_negate_10 : decode b_Ev_negate 10 = .ok (.getfield 11, 3) := by decide +kernel
theorem d_Ev_negate_13 : decode b_Ev_negate 13 = .ok (.aload_n 0, 1) := by decide +kernel
theorem d_Ev_negate_14 : decode b_Ev_negate 14 = .ok (.getfield 49, 3) := by decide +kernel
theorem d_Ev_negate_17 : decode b_Ev_negate 17 = .ok (.iconst 1, 1) := by decide +kernel
theorem d_Ev_negate_18 : decode b_Ev_negate 18 = .ok (.isub, 1) := by decide +kernel
theorem d_Ev_negate_19 : decode b_Ev_negate 19 = .ok (.aaload, 1) := by decide +kernel
theorem d_Ev_negate_20 : decode b_Ev_negate 20 = .ok (.astore_n 1, 1) := by decide +kernel
theorem d_Ev_negate_21 : decode b_Ev_negate 21 = .ok (.iconst 0, 1) := by decide +kernel
theorem d_Ev_negate_22 : decode b_Ev_negate 22 = .ok (.istore_n 2, 1) := by decide +kernel
theorem d_Ev_negate_23 : decode b_Ev_negate 23 = .ok (.iload_n 2, 1) := by decide +kernel
theorem d_Ev_negate_24 : decode b_Ev_negate 24 = .ok (.aload_n 1, 1) := by decide +kernel
theorem d_Ev_negate_25 : decode b_Ev_negate 25 = .ok (.invokevirtual 96, 3) := by decide +kernel
theorem d_Ev_negate_28 : decode b_Ev_negate 28 = .ok (.if_icmp .ge 55, 3) := by decide +kernel
theorem d_Ev_negate_31 : decode b_Ev_negate 31 = .ok (.iconst 0, 1) := by decide +kernel
theorem d_Ev_negate_32 : decode b_Ev_negate 32 = .ok (.istore_n 3, 1) := by decide +kernel
theorem d_Ev_negate_33 : decode b_Ev_negate 33 = .ok (.iload_n 3, 1) := by decide +kernel
theorem d_Ev_negate_34 : decode b_Ev_negate 34 = .ok (.aload_n 0, 1) := by decide +kernel
theorem d_Ev_negate_35 : decode b_Ev_negate 35 = .ok (.getfield 45, 3) := by decide +kernel
theorem d_Ev_negate_38 : decode b_Ev_negate 38 = .ok (.if_icmp .ge 39, 3) := by decide +kernel
theorem d_Ev_negate_41 : decode b_Ev_negate 41 = .ok (.aload_n 1, 1) := by decide +kernel
theorem d_Ev_negate_42 : decode b_Ev_negate 42 = .ok (.iload_n 2, 1) := by decide +kernel
theorem d_Ev_negate_43 : decode b_Ev_negate 43 = .ok (.iload_n 3, 1) := by decide +kernel
theorem d_Ev_negate_44 : decode b_Ev_negate 44 = .ok (.invokevirtual 111, 3) := by decide +kernel
theorem d_Ev_negate_47 : decode b_Ev_negate 47 = .ok (.istore 4, 2) := by decide +kernel
theorem d_Ev_negate_49 : decode b_Ev_negate 49 = .ok (.aload_n 1, 1) := by decide +kernel
theorem d_Ev_negate_50 : decode b_Ev_negate 50 = .ok (.iload 4, 2) := by decide +kernel
theorem d_Ev_negate_52 : decode b_Ev_negate 52 = .ok (.invokevirtual 114, 3) := by decide +kernel
theorem d_Ev_negate_55 : decode b_Ev_negate 55 = .ok (.ifCond .eq 16, 3) := by decide +kernel
theorem d_Ev_negate_58 : decode b_Ev_negate 58 = .ok (.aload_n 1, 1) := by decide +kernel
theorem d_Ev_negate_59 : decode b_Ev_negate 59 = .ok (.iload 4, 2) := by decide +kernel
theorem d_Ev_negate_61 : decode b_Ev_negate 61 = .ok (.aload_n 1, 1) := by decide +kernel
theorem d_Ev_negate_62 : decode b_Ev_negate 62 = .ok (.iload 4, 2) := by decide +kernel
theorem d_Ev_negate_64 : decode b_Ev_negate 64 = .ok (.invokevirtual 118, 3) := by decide +kernel
theorem d_Ev_negate_67 : decode b_Ev_negate 67 = .ok (.lneg, 1) := by decide +kernel
theorem d_Ev_negate_68 : decode b_Ev_negate 68 = .ok (.invokevirtual 107, 3) := by decide +kernel
theorem d_Ev_negate_71 : decode b_Ev_negate 71 = .ok (.iinc 3 1, 3) := by decide +kernel
theorem d_Ev_negate_74 : decode b_Ev_negate 74 = .ok (.goto (-41), 3) := by decide +kernel
theorem d_Ev_negate_77 : decode b_Ev_negate 77 = .ok (.iinc 2 1, 3) := by decide +kernel
theorem d_Ev_negate_80 : decode b_Ev_negate 80 = .ok (.goto (-57), 3) := by decide +kernel
theorem d_Ev_negate_83 : decode b_Ev_negate 83 = .ok (.return_, 1) := by decide +kernel
theorem d_Ev_combine_0 : decode b_Ev_combine 0 = .ok (.aload_n 0, 1) := by decide +kernel
theorem d_Ev_combine_1 : decode b_Ev_combine 1 = .ok (.getfield 49, 3) := by decide +kernel
theorem d_Ev_combine_4 : decode b_Ev_combine 4 = .ok (.iconst 2, 1) := by decide +kernel
theorem d_Ev_combine_5 : decode b_Ev_combine 5 = .ok (.if_icmp .ge 4, 3) := by decide +kernel
theorem d_Ev_combine_8 : decode b_Ev_combine 8 = .ok (.return_, 1) := by decide +kernel
theorem d_Ev_combine_9 : decode b_Ev_combine 9 = .ok (.aload_n 0, 1) := by decide +kernel
theorem d_Ev_combine_10 : decode b_Ev_combine 10 = .ok (.getfield 11, 3) := by decide +kernel
theorem d_Ev_combine_13 : decode b_Ev_combine 13 = .ok (.aload_n 0, 1) := by decide +kernel
theorem d_Ev_combine_14 : decode b_Ev_combine 14 = .ok (.getfield 49, 3) := by decide +kernel
theorem d_Ev_combine_17 : decode b_Ev_combine 17 = .ok (.iconst 2, 1) := by decide +kernel
theorem d_Ev_combine_18 : decode b_Ev_combine 18 = .ok (.isub, 1) := by decide +kernel
theorem d_Ev_combine_19 : decode b_Ev_combine 19 = .ok (.aaload, 1) := by decide +kernel
theorem d_Ev_combine_20 : decode b_Ev_combine 20 = .ok (.astore_n 2, 1) := by decide +kernel
theorem d_Ev_combine_21 : decode b_Ev_combine 21 = .ok (.aload_n 0, 1) := by decide +kernel
theorem d_Ev_combine_22 : decode b_Ev_combine 22 = .ok (.getfield 11, 3) := by decide +kernel
theorem d_Ev_combine_25 : decode b_Ev_combine 25 = .ok (.aload_n 0, 1) := by decide +kernel
theorem d_Ev_combine_26 : decode b_Ev_combine 26 = .ok (.getfield 49, 3) := by decide +kernel
theorem d_Ev_combine_29 : decode b_Ev_combine 29 = .ok (.iconst 1, 1) := by decide +kernel
theorem d_Ev_combine_30 : decode b_Ev_combine 30 = .ok (.isub, 1) := by decide +kernel
theorem d_Ev_combine_31 : decode b_Ev_combine 31 = .ok (.aaload, 1) := by decide +kernel
theorem d_Ev_combine_32 : decode b_Ev_combine 32 = .ok (.astore_n 3, 1) := by decide +kernel
theorem d_Ev_combine_33 : decode b_Ev_combine 33 = .ok (.aload_n 3, 1) := by decide +kernel
theorem d_Ev_combine_34 : decode b_Ev_combine 34 = .ok (.invokevirtual 121, 3) := by decide +kernel
theorem d_Ev_combine_37 : decode b_Ev_combine 37 = .ok (.ifCond .eq 7, 3) := by decide +kernel
theorem d_Ev_combine_40 : decode b_Ev_combine 40 = .ok (.aload_n 3, 1) := by decide +kernel
theorem d_Ev_combine_41 : decode b_Ev_combine 41 = .ok (.goto 4, 3) := by decide +kernel
theorem d_Ev_combine_44 : decode b_Ev_combine 44 = .ok (.aload_n 2, 1) := by decide +kernel
theorem d_Ev_combine_45 : decode b_Ev_combine 45 = .ok (.astore 4, 2) := by decide +kernel
theorem d_Ev_combine_47 : decode b_Ev_combine 47 = .ok (.iconst 0, 1) := by decide +kernel
theorem d_Ev_combine_48 : decode b_Ev_combine 48 = .ok (.istore 5, 2) := by decide +kernel
theorem d_Ev_combine_50 : decode b_Ev_combine 50 = .ok (.iload 5, 2) := by decide +kernel
theorem d_Ev_combine_52 : decode b_Ev_combine 52 = .ok (.aload 4, 2) := by decide +kernel
theorem d_Ev_combine_54 : decode b_Ev_combine 54 = .ok (.invokevirtual 96, 3) := by decide +kernel
theorem d_Ev_combine_57 : decode b_Ev_combine 57 = .ok (.if_icmp .ge 125, 3) := by decide +kernel
theorem d_Ev_combine_60 : decode b_Ev_combine 60 = .ok (.iconst 0, 1) := by decide +kernel
theorem d_Ev_combine_61 : decode b_Ev_combine 61 = .ok (.istore 6, 2) := by decide +kernel
theorem d_Ev_combine_63 : decode b_Ev_combine 63 = .ok (.iload 6, 2) := by decide +kernel
theorem d_Ev_combine_65 : decode b_Ev_combine 65 = .ok (.aload_n 0, 1) := by decide +kernel
theorem d_Ev_combine_66 : decode b_Ev_combine 66 = .ok (.getfield 45, 3) := by decide +kernel
theorem d_Ev_combine_69 : decode b_Ev_combine 69 = .ok (.if_icmp .ge 107, 3) := by decide +kernel
theorem d_Ev_combine_72 : decode b_Ev_combine 72 = .ok (.aload_n 2, 1) := by decide +kernel
theorem d_Ev_combine_73 : decode b_Ev_combine 73 = .ok (.iload 5, 2) := by decide +kernel
theorem d_Ev_combine_75 : decode b_Ev_combine 75 = .ok (.iload 6, 2) := by decide +kernel
theorem d_Ev_combine_77 : decode b_Ev_combine 77 = .ok (.invokevirtual 111, 3) := by decide +kernel
theorem d_Ev_combine_80 : decode b_Ev_combine 80 = .ok (.istore 7, 2) := by decide +kernel
theorem d_Ev_combine_82 : decode b_Ev_combine 82 = .ok (.aload_n 3, 1) := by decide +kernel
theorem d_Ev_combine_83 : decode b_Ev_combine 83 = .ok (.iload 5, 2) := by decide +kernel
theorem d_Ev_combine_85 : decode b_Ev_combine 85 = .ok (.iload 6, 2) := by decide +kernel
theorem d_Ev_combine_87 : decode b_Ev_combine 87 = .ok (.invokevirtual 111, 3) := by decide +kernel
theorem d_Ev_combine_90 : decode b_Ev_combine 90 = .ok (.istore 8, 2) := by decide +kernel
theorem d_Ev_combine_92 : decode b_Ev_combine 92 = .ok (.aload_n 2, 1) := by decide +kernel
theorem d_Ev_combine_93 : decode b_Ev_combine 93 = .ok (.iload 7, 2) := by decide +kernel
theorem d_Ev_combine_95 : decode b_Ev_combine 95 = .ok (.invokevirtual 114, 3) := by decide +kernel
theorem d_Ev_combine_98 : decode b_Ev_combine 98 = .ok (.ifCond .eq 58, 3) := by decide +kernel
theorem d_Ev_combine_101 : decode b_Ev_combine 101 = .ok (.aload_n 3, 1) := by decide +kernel
theorem d_Ev_combine_102 : decode b_Ev_combine 102 = .ok (.iload 8, 2) := by decide +kernel
theorem d_Ev_combine_104 : decode b_Ev_combine 104 = .ok (.invokevirtual 114, 3) := by decide +kernel
theorem d_Ev_combine_107 : decode b_Ev_combine 107 = .ok (.ifCond .eq 49, 3) := by decide +kernel
theorem d_Ev_combine_110 : decode b_Ev_combine 110 = .ok (.iload_n 1, 1) := by decide +kernel
theorem d_Ev_combine_111 : decode b_Ev_combine 111 = .ok (.aload_n 3, 1) := by decide +kernel
theorem d_Ev_combine_112 : decode b_Ev_combine 112 = .ok (.iload 8, 2) := by decide +kernel
theorem d_Ev_combine_114 : decode b_Ev_combine 114 = .ok (.invokevirtual 118, 3) := by decide +kernel
theorem d_Ev_combine_117 : decode b_Ev_combine 117 = .ok (.invokestatic 125, 3) := by decide +kernel
theorem d_Ev_combine_120 : decode b_Ev_combine 120 = .ok (.ifCond .eq 36, 3) := by decide +kernel
theorem d_Ev_combine_123 : decode b_Ev_combine 123 = .ok (.aload 4, 2) := by decide +kernel
theorem d_Ev_combine_125 : decode b_Ev_combine 125 = .ok (.aload 4, 2) := by decide +kernel
theorem d_Ev_combine_127 : decode b_Ev_combine 127 = .ok (.iload 5, 2) := by decide +kernel
theorem d_Ev_combine_129 : decode b_Ev_combine 129 = .ok (.iload 6, 2) := by decide +kernel
theorem d_Ev_combine_131 : decode b_Ev_combine 131 = .ok (.invokevirtual 111, 3) := by decide +kernel
theorem d_Ev_combine_134 : decode b_Ev_combine 134 = .ok (.iload_n 1, 1) := by decide +kernel
theorem d_Ev_combine_135 : decode b_Ev_combine 135 = .ok (.aload_n 2, 1) := by decide +kernel
theorem d_Ev_combine_136 : decode b_Ev_combine 136 = .ok (.iload 7, 2) := by decide +kernel
theorem d_Ev_combine_138 : decode b_Ev_combine 138 = .ok (.invokevirtual 118, 3) := by decide +kernel
theorem d_Ev_combine_141 : decode b_Ev_combine 141 = .ok (.aload_n 3, 1) := by decide +kernel
theorem d_Ev_combine_142 : decode b_Ev_combine 142 = .ok (.iload 8, 2) := by decide +kernel
theorem d_Ev_combine_144 : decode b_Ev_combine 144 = .ok (.invokevirtual 118, 3) := by decide +kernel
theorem d_Ev_combine_147 : decode b_Ev_combine 147 = .ok (.invokestatic 129, 3) := by decide +kernel
theorem d_Ev_combine_150 : decode b_Ev_combine 150 = .ok (.invokevirtual 107, 3) := by decide +kernel
theorem d_Ev_combine_153 : decode b_Ev_combine 153 = .ok (.goto 17, 3) := by decide +kernel
theorem d_Ev_combine_156 : decode b_Ev_combine 156 = .ok (.aload 4, 2) := by decide +kernel
theorem d_Ev_combine_158 : decode b_Ev_combine 158 = .ok (.aload 4, 2) := by decide +kernel
theorem d_Ev_combine_160 : decode b_Ev_combine 160 = .ok (.iload 5, 2) := by decide +kernel
theorem d_Ev_combine_162 : decode b_Ev_combine 162 = .ok (.iload 6, 2) := by decide +kernel
theorem d_Ev_combine_164 : decode b_Ev_combine 164 = .ok (.invokevirtual 111, 3) := by decide +kernel
theorem d_Ev_combine_167 : decode b_Ev_combine 167 = .ok (.invokevirtual 133, 3) := by decide +kernel
theorem d_Ev_combine_170 : decode b_Ev_combine 170 = .ok (.iinc 6 1, 3) := by decide +kernel
theorem d_Ev_combine_173 : decode b_Ev_combine 173 = .ok (.goto (-110), 3) := by decide +kernel
theorem d_Ev_combine_176 : decode b_Ev_combine 176 = .ok (.iinc 5 1, 3) := by decide +kernel
theorem d_Ev_combine_179 : decode b_Ev_combine 179 = .ok (.goto (-129), 3) := by decide +kernel
theorem d_Ev_combine_182 : decode b_Ev_combine 182 = .ok (.aload_n 0, 1) := by decide +kernel
theorem d_Ev_combine_183 : decode b_Ev_combine 183 = .ok (.getfield 11, 3) := by decide +kernel
theorem d_Ev_combine_186 : decode b_Ev_combine 186 = .ok (.aload_n 0, 1) := by decide +kernel
theorem d_Ev_combine_187 : decode b_Ev_combine 187 = .ok (.getfield 49, 3) := by decide +kernel
theorem d_Ev_combine_190 : decode b_Ev_combine 190 = .ok (.iconst 1, 1) := by decide +kernel
theorem d_Ev_combine_191 : decode b_Ev_combine 191 = .ok (.isub, 1) := by decide +kernel
theorem d_Ev_combine_192 : decode b_Ev_combine 192 = .ok (.aload 4, 2) := by decide +kernel
theorem d_Ev_combine_194 : decode b_Ev_combine 194 = .ok (.aload_n 2, 1) := by decide +kernel
theorem d_Ev_combine_195 : decode b_Ev_combine 195 = .ok (.if_acmp .ne 7, 3) := by decide +kernel
theorem d_Ev_combine_198 : decode b_Ev_combine 198 = .ok (.aload_n 3, 1) := by decide +kernel
theorem d_Ev_combine_199 : decode b_Ev_combine 199 = .ok (.goto 4, 3) := by decide +kernel
theorem d_Ev_combine_202 : decode b_Ev_combine 202 = .ok (.aload_n 2, 1) := by decide +kernel
theorem d_Ev_combine_203 : decode b_Ev_combine 203 = .ok (.aastore, 1) := by decide +kernel
theorem d_Ev_combine_204 : decode b_Ev_combine 204 = .ok (.aload_n 0, 1) := by decide +kernel
theorem d_Ev_combine_205 : decode b_Ev_combine 205 = .ok (.getfield 11, 3) := by decide +kernel
theorem d_Ev_combine_208 : decode b_Ev_combine 208 = .ok (.aload_n 0, 1) := by decide +kernel
theorem d_Ev_combine_209 : decode b_Ev_combine 209 = .ok (.getfield 49, 3) := by decide +kernel
theorem d_Ev_combine_212 : decode b_Ev_combine 212 = .ok (.iconst 2, 1) := by decide +kernel
theorem d_Ev_combine_213 : decode b_Ev_combine 213 = .ok (.isub, 1) := by decide +kernel
theorem d_Ev_combine_214 : decode b_Ev_combine 214 = .ok (.aload 4, 2) := by decide +kernel
theorem d_Ev_combine_216 : decode b_Ev_combine 216 = .ok (.aastore, 1) := by decide +kernel
theorem d_Ev_combine_217 : decode b_Ev_combine 217 = .ok (.aload_n 0, 1) := by decide +kernel
theorem d_Ev_combine_218 : decode b_Ev_combine 218 = .ok (.dup, 1) := by decide +kernel
theorem d_Ev_combine_219 : decode b_Ev_combine 219 = .ok (.getfield 49, 3) := by decide +kernel
theorem d_Ev_combine_222 : decode b_Ev_combine 222 = .ok (.iconst 1, 1) := by decide +kernel
theorem d_Ev_combine_223 : decode b_Ev_combine 223 = .ok (.isub, 1) := by decide +kernel
theorem d_Ev_combine_224 : decode b_Ev_combine 224 = .ok (.putfield 49, 3) := by decide +kernel
theorem d_Ev_combine_227 : decode b_Ev_combine 227 = .ok (.return_, 1) := by decide +kernel
theorem d_Ev_isAllowed_0 : decode b_Ev_isAllowed 0 = .ok (.lload_n 1, 1) := by decide +kernel
theorem d_Ev_isAllowed_1 : decode b_Ev_isAllowed 1 = .ok (.lconst 0, 1) := by decide +kernel
theorem d_Ev_isAllowed_2 : decode b_Ev_isAllowed 2 = .ok (.lcmp, 1) := by decide +kernel
theorem d_Ev_isAllowed_3 : decode b_Ev_isAllowed 3 = .ok (.ifCond .ne 15, 3) := by decide +kernel
theorem d_Ev_isAllowed_6 : decode b_Ev_isAllowed 6 = .ok (.iload_n 0, 1) := by decide +kernel
theorem d_Ev_isAllowed_7 : decode b_Ev_isAllowed 7 = .ok (.bipush 47, 2) := by decide +kernel
theorem d_Ev_isAllowed_9 : decode b_Ev_isAllowed 9 = .ok (.if_icmp .eq 13, 3) := by decide +kernel
theorem d_Ev_isAllowed_12 : decode b_Ev_isAllowed 12 = .ok (.iload_n 0, 1) := by decide +kernel
theorem d_Ev_isAllowed_13 : decode b_Ev_isAllowed 13 = .ok (.bipush 37, 2) := by decide +kernel
theorem d_Ev_isAllowed_15 : decode b_Ev_isAllowed 15 = .ok (.if_icmp .eq 7, 3) := by decide +kernel
theorem d_Ev_isAllowed_18 : decode b_Ev_isAllowed 18 = .ok (.iconst 1, 1) := by decide +kernel
theorem d_Ev_isAllowed_19 : decode b_Ev_isAllowed 19 = .ok (.goto 4, 3) := by decide +kernel
theorem d_Ev_isAllowed_22 : decode b_Ev_isAllowed 22 = .ok (.iconst 0, 1) := by decide +kernel
theorem d_Ev_isAllowed_23 : decode b_Ev_isAllowed 23 = .ok (.ireturn, 1) := by decide +kernel
theorem d_Ev_resultOf_0 : decode b_Ev_resultOf 0 = .ok (.iload_n 0, 1) := by decide +kernel
theorem d_Ev_resultOf_1 : decode b_Ev_resultOf 1 = .ok (.tableswitch 65 42 47 #[47, 39, 65, 43, 65, 51], 39) := by decide +kernel
theorem d_Ev_resultOf_40 : decode b_Ev_resultOf 40 = .ok (.lload_n 1, 1) := by decide +kernel
theorem d_Ev_resultOf_41 : decode b_Ev_resultOf 41 = .ok (.lload_n 3, 1) := by decide +kernel
theorem d_Ev_resultOf_42 : decode b_Ev_resultOf 42 = .ok (.ladd, 1) := by decide +kernel
theorem d_Ev_resultOf_43 : decode b_Ev_resultOf 43 = .ok (.lreturn, 1) := by decide +kernel
theorem d_Ev_resultOf_44 : decode b_Ev_resultOf 44 = .ok (.lload_n 1, 1) := by decide +kernel
theorem d_Ev_resultOf_45 : decode b_Ev_resultOf 45 = .ok (.lload_n 3, 1) := by decide +kernel
theorem d_Ev_resultOf_46 : decode b_Ev_resultOf 46 = .ok (.lsub, 1) := by decide +kernel
theorem d_Ev_resultOf_47 : decode b_Ev_resultOf 47 = .ok (.lreturn, 1) := by decide +kernel
theorem d_Ev_resultOf_48 : decode b_Ev_resultOf 48 = .ok (.lload_n 1, 1) := by decide +kernel
theorem d_Ev_resultOf_49 : decode b_Ev_resultOf 49 = .ok (.lload_n 3, 1) := by decide +kernel
theorem d_Ev_resultOf_50 : decode b_Ev_resultOf 50 = .ok (.lmul, 1) := by decide +kernel
theorem d_Ev_resultOf_51 : decode b_Ev_resultOf 51 = .ok (.lreturn, 1) := by decide +kernel
theorem d_Ev_resultOf_52 : decode b_Ev_resultOf 52 = .ok (.lload_n 3, 1) := by decide +kernel
theorem d_Ev_resultOf_53 : decode b_Ev_resultOf 53 = .ok (.lconst 0, 1) := by decide +kernel
theorem d_Ev_resultOf_54 : decode b_Ev_resultOf 54 = .ok (.lcmp, 1) := by decide +kernel
theorem d_Ev_resultOf_55 : decode b_Ev_resultOf 55 = .ok (.ifCond .ne 7, 3) := by decide +kernel
theorem d_Ev_resultOf_58 : decode b_Ev_resultOf 58 = .ok (.lconst 0, 1) := by decide +kernel
theorem d_Ev_resultOf_59 : decode b_Ev_resultOf 59 = .ok (.goto 6, 3) := by decide +kernel
theorem d_Ev_resultOf_62 : decode b_Ev_resultOf 62 = .ok (.lload_n 1, 1) := by decide +kernel
theorem d_Ev_resultOf_63 : decode b_Ev_resultOf 63 = .ok (.lload_n 3, 1) := by decide +kernel
theorem d_Ev_resultOf_64 : decode b_Ev_resultOf 64 = .ok (.ldiv, 1) := by decide +kernel
theorem d_Ev_resultOf_65 : decode b_Ev_resultOf 65 = .ok (.lreturn, 1) := by decide +kernel
theorem d_Ev_resultOf_66 : decode b_Ev_resultOf 66 = .ok (.lload_n 3, 1) := by decide +kernel
theorem d_Ev_resultOf_67 : decode b_Ev_resultOf 67 = .ok (.lconst 0, 1) := by decide +kernel
theorem d_Ev_resultOf_68 : decode b_Ev_resultOf 68 = .ok (.lcmp, 1) := by decide +kernel
theorem d_Ev_resultOf_69 : decode b_Ev_resultOf 69 = .ok (.ifCond .ne 7, 3) := by decide +kernel
theorem d_Ev_resultOf_72 : decode b_Ev_resultOf 72 = .ok (.lconst 0, 1) := by decide +kernel
theorem d_Ev_resultOf_73 : decode b_Ev_resultOf 73 = .ok (.goto 6, 3) := by decide +kernel
theorem d_Ev_resultOf_76 : decode b_Ev_resultOf 76 = .ok (.lload_n 1, 1) := by decide +kernel
theorem d_Ev_resultOf_77 : decode b_Ev_resultOf 77 = .ok (.lload_n 3, 1) := by decide +kernel
theorem d_Ev_resultOf_78 : decode b_Ev_resultOf 78 = .ok (.lrem, 1) := by decide +kernel
theorem d_Ev_resultOf_79 : decode b_Ev_resultOf 79 = .ok (.lreturn, 1) := by decide +kernel
theorem d_Ev_pushFunc_0 : decode b_Ev_pushFunc 0 = .ok (.aload_n 0, 1) := by decide +kernel
theorem d_Ev_pushFunc_1 : decode b_Ev_pushFunc 1 = .ok (.getfield 29, 3) := by decide +kernel
theorem d_Ev_pushFunc_4 : decode b_Ev_pushFunc 4 = .ok (.iload_n 1, 1) := by decide +kernel
theorem d_Ev_pushFunc_5 : decode b_Ev_pushFunc 5 = .ok (.invokevirtual 136, 3) := by decide +kernel
theorem d_Ev_pushFunc_8 : decode b_Ev_pushFunc 8 = .ok (.ifCond .le 7, 3) := by decide +kernel
theorem d_Ev_pushFunc_11 : decode b_Ev_pushFunc 11 = .ok (.iconst 1, 1) := by decide +kernel
theorem d_Ev_pushFunc_12 : decode b_Ev_pushFunc 12 = .ok (.goto 4, 3) := by decide +kernel
theorem d_Ev_pushFunc_15 : decode b_Ev_pushFunc 15 = .ok (.iconst 0, 1) := by decide +kernel
theorem d_Ev_pushFunc_16 : decode b_Ev_pushFunc 16 = .ok (.istore_n 2, 1) := by decide +kernel
theorem d_Ev_pushFunc_17 : decode b_Ev_pushFunc 17 = .ok (.aload_n 0, 1) := by decide +kernel
theorem d_Ev_pushFunc_18 : decode b_Ev_pushFunc 18 = .ok (.iload_n 2, 1) := by decide +kernel
theorem d_Ev_pushFunc_19 : decode b_Ev_pushFunc 19 = .ok (.ifCond .eq 13, 3) := by decide +kernel
theorem d_Ev_pushFunc_22 : decode b_Ev_pushFunc 22 = .ok (.aload_n 0, 1) := by decide +kernel
theorem d_Ev_pushFunc_23 : decode b_Ev_pushFunc 23 = .ok (.getfield 33, 3) := by decide +kernel
theorem d_Ev_pushFunc_26 : decode b_Ev_pushFunc 26 = .ok (.invokevirtual 139, 3) := by decide +kernel
theorem d_Ev_pushFunc_29 : decode b_Ev_pushFunc 29 = .ok (.goto 4, 3) := by decide +kernel
theorem d_Ev_pushFunc_32 : decode b_Ev_pushFunc 32 = .ok (.iconst 1, 1) := by decide +kernel
theorem d_Ev_pushFunc_33 : decode b_Ev_pushFunc 33 = .ok (.iload_n 2, 1) := by decide +kernel
theorem d_Ev_pushFunc_34 : decode b_Ev_pushFunc 34 = .ok (.invokevirtual 103, 3) := by decide +kernel
theorem d_Ev_pushFunc_37 : decode b_Ev_pushFunc 37 = .ok (.astore_n 3, 1) := by decide +kernel
theorem d_Ev_pushFunc_38 : decode b_Ev_pushFunc 38 = .ok (.aload_n 0, 1) := by decide +kernel
theorem d_Ev_pushFunc_39 : decode b_Ev_pushFunc 39 = .ok (.getfield 29, 3) := by decide +kernel
theorem d_Ev_pushFunc_42 : decode b_Ev_pushFunc 42 = .ok (.iload_n 1, 1) := by decide +kernel
theorem d_Ev_pushFunc_43 : decode b_Ev_pushFunc 43 = .ok (.invokevirtual 142, 3) := by decide +kernel
theorem d_Ev_pushFunc_46 : decode b_Ev_pushFunc 46 = .ok (.istore 4, 2) := by decide +kernel
theorem d_Ev_pushFunc_48 : decode b_Ev_pushFunc 48 = .ok (.iload 4, 2) := by decide +kernel
theorem d_Ev_pushFunc_50 : decode b_Ev_pushFunc 50 = .ok (.iconst 5, 1) := by decide +kernel
theorem d_Ev_pushFunc_51 : decode b_Ev_pushFunc 51 = .ok (.if_icmp .eq 10, 3) := by decide +kernel
theorem d_Ev_pushFunc_54 : decode b_Ev_pushFunc 54 = .ok (.iload 4, 2) := by decide +kernel
theorem d_Ev_pushFunc_56 : decode b_Ev_pushFunc 56 = .ok (.bipush 6, 2) := by decide +kernel
theorem d_Ev_pushFunc_58 : decode b_Ev_pushFunc 58 = .ok (.if_icmp .ne 16, 3) := by decide +kernel
theorem d_Ev_pushFunc_61 : decode b_Ev_pushFunc 61 = .ok (.aload_n 0, 1) := by decide +kernel
theorem d_Ev_pushFunc_62 : decode b_Ev_pushFunc 62 = .ok (.aload_n 3, 1) := by decide +kernel
theorem d_Ev_pushFunc_63 : decode b_Ev_pushFunc 63 = .ok (.invokevirtual 96, 3) := by decide +kernel
theorem d_Ev_pushFunc_66 : decode b_Ev_pushFunc 66 = .ok (.aload_n 0, 1) := by decide +kernel
theorem d_Ev_pushFunc_67 : decode b_Ev_pushFunc 67 = .ok (.getfield 45, 3) := by decide +kernel
theorem d_Ev_pushFunc_70 : decode b_Ev_pushFunc 70 = .ok (.imul, 1) := by decide +kernel
theorem d_Ev_pushFunc_71 : decode b_Ev_pushFunc 71 = .ok (.invokevirtual 145, 3) := by decide +kernel
theorem d_Ev_pushFunc_74 : decode b_Ev_pushFunc 74 = .ok (.iconst 0, 1) := by decide +kernel
theorem d_Ev_pushFunc_75 : decode b_Ev_pushFunc 75 = .ok (.istore 5, 2) := by decide +kernel
theorem d_Ev_pushFunc_77 : decode b_Ev_pushFunc 77 = .ok (.iload 5, 2) := by decide +kernel
theorem d_Ev_pushFunc_79 : decode b_Ev_pushFunc 79 = .ok (.aload_n 0, 1) := by decide +kernel
theorem d_Ev_pushFunc_80 : decode b_Ev_pushFunc 80 = .ok (.getfield 25, 3) := by decide +kernel
theorem d_Ev_pushFunc_83 : decode b_Ev_pushFunc 83 = .ok (.invokevirtual 148, 3) := by decide +kernel
theorem d_Ev_pushFunc_86 : decode b_Ev_pushFunc 86 = .ok (.if_icmp .ge 64, 3) := by decide +kernel
theorem d_Ev_pushFunc_89 : decode b_Ev_pushFunc 89 = .ok (.aload_n 0, 1) := by decide +kernel
theorem d_Ev_pushFunc_90 : decode b_Ev_pushFunc 90 = .ok (.getfield 25, 3) := by decide +kernel
theorem d_Ev_pushFunc_93 : decode b_Ev_pushFunc 93 = .ok (.iload 5, 2) := by decide +kernel
theorem d_Ev_pushFunc_95 : decode b_Ev_pushFunc 95 = .ok (.invokevirtual 151, 3) := by decide +kernel
theorem d_Ev_pushFunc_98 : decode b_Ev_pushFunc 98 = .ok (.astore 6, 2) := by decide +kernel
theorem d_Ev_pushFunc_100 : decode b_Ev_pushFunc 100 = .ok (.aload 6, 2) := by decide +kernel
theorem d_Ev_pushFunc_102 : decode b_Ev_pushFunc 102 = .ok (.ifnull 42, 3) := by decide +kernel
theorem d_Ev_pushFunc_105 : decode b_Ev_pushFunc 105 = .ok (.aload_n 0, 1) := by decide +kernel
theorem d_Ev_pushFunc_106 : decode b_Ev_pushFunc 106 = .ok (.aload 6, 2) := by decide +kernel
theorem d_Ev_pushFunc_108 : decode b_Ev_pushFunc 108 = .ok (.iload_n 1, 1) := by decide +kernel
theorem d_Ev_pushFunc_109 : decode b_Ev_pushFunc 109 = .ok (.invokevirtual 155, 3) := by decide +kernel
theorem d_Ev_pushFunc_112 : decode b_Ev_pushFunc 112 = .ok (.ifCond .eq 32, 3) := by decide +kernel
theorem d_Ev_pushFunc_115 : decode b_Ev_pushFunc 115 = .ok (.aload_n 0, 1) := by decide +kernel
theorem d_Ev_pushFunc_116 : decode b_Ev_pushFunc 116 = .ok (.iload 4, 2) := by decide +kernel
theorem d_Ev_pushFunc_118 : decode b_Ev_pushFunc 118 = .ok (.aload_n 3, 1) := by decide +kernel
theorem d_Ev_pushFunc_119 : decode b_Ev_pushFunc 119 = .ok (.iload_n 2, 1) := by decide +kernel
theorem d_Ev_pushFunc_120 : decode b_Ev_pushFunc 120 = .ok (.ifCond .eq 15, 3) := by decide +kernel
theorem d_Ev_pushFunc_123 : decode b_Ev_pushFunc 123 = .ok (.aload_n 0, 1) := by decide +kernel
theorem d_Ev_pushFunc_124 : decode b_Ev_pushFunc 124 = .ok (.getfield 33, 3) := by decide +kernel
theorem d_Ev_pushFunc_127 : decode b_Ev_pushFunc 127 = .ok (.iload 5, 2) := by decide +kernel
theorem d_Ev_pushFunc_129 : decode b_Ev_pushFunc 129 = .ok (.invokevirtual 159, 3) := by decide +kernel
theorem d_Ev_pushFunc_132 : decode b_Ev_pushFunc 132 = .ok (.goto 4, 3) := by decide +kernel
theorem d_Ev_pushFunc_135 : decode b_Ev_pushFunc 135 = .ok (.iconst 0, 1) := by decide +kernel
theorem d_Ev_pushFunc_136 : decode b_Ev_pushFunc 136 = .ok (.aload 6, 2) := by decide +kernel
theorem d_Ev_pushFunc_138 : decode b_Ev_pushFunc 138 = .ok (.invokevirtual 162, 3) := by decide +kernel
theorem d_Ev_pushFunc_141 : decode b_Ev_pushFunc 141 = .ok (.invokevirtual 168, 3) := by decide +kernel
theorem d_Ev_pushFunc_144 : decode b_Ev_pushFunc 144 = .ok (.iinc 5 1, 3) := by decide +kernel
theorem d_Ev_pushFunc_147 : decode b_Ev_pushFunc 147 = .ok (.goto (-70), 3) := by decide +kernel
theorem d_Ev_pushFunc_150 : decode b_Ev_pushFunc 150 = .ok (.return_, 1) := by decide +kernel
theorem d_Ev_makeMoments_0 : decode b_Ev_makeMoments 0 = .ok (.iload_n 1, 1) := by decide +kernel
theorem d_Ev_makeMoments_1 : decode b_Ev_makeMoments 1 = .ok (.aload_n 0, 1) := by decide +kernel
theorem d_Ev_makeMoments_2 : decode b_Ev_makeMoments 2 = .ok (.getfield 17, 3) := by decide +kernel
theorem d_Ev_makeMoments_5 : decode b_Ev_makeMoments 5 = .ok (.arraylength, 1) := by decide +kernel
theorem d_Ev_makeMoments_6 : decode b_Ev_makeMoments 6 = .ok (.if_icmp .le 26, 3) := by decide +kernel
theorem d_Ev_makeMoments_9 : decode b_Ev_makeMoments 9 = .ok (.aload_n 0, 1) := by decide +kernel
theorem d_Ev_makeMoments_10 : decode b_Ev_makeMoments 10 = .ok (.iload_n 1, 1) := by decide +kernel
theorem d_Ev_makeMoments_11 : decode b_Ev_makeMoments 11 = .ok (.iconst 2, 1) := by decide +kernel
theorem d_Ev_makeMoments_12 : decode b_Ev_makeMoments 12 = .ok (.aload_n 0, 1) := by decide +kernel
theorem d_Ev_makeMoments_13 : decode b_Ev_makeMoments 13 = .ok (.getfield 17, 3) := by decide +kernel
theorem d_Ev_makeMoments_16 : decode b_Ev_makeMoments 16 = .ok (.arraylength, 1) := by decide +kernel
theorem d_Ev_makeMoments_17 : decode b_Ev_makeMoments 17 = .ok (.imul, 1) := by decide +kernel
theorem d_Ev_makeMoments_18 : decode b_Ev_makeMoments 18 = .ok (.sipush 16384, 3) := by decide +kernel
theorem d_Ev_makeMoments_21 : decode b_Ev_makeMoments 21 = .ok (.invokestatic 172, 3) := by decide +kernel
theorem d_Ev_makeMoments_24 : decode b_Ev_makeMoments 24 = .ok (.invokestatic 62, 3) := by decide +kernel
theorem d_Ev_makeMoments_27 : decode b_Ev_makeMoments 27 = .ok (.newarray .long, 2) := by decide +kernel
theorem d_Ev_makeMoments_29 : decode b_Ev_makeMoments 29 = .ok (.putfield 17, 3) := by decide +kernel
theorem d_Ev_makeMoments_32 : decode b_Ev_makeMoments 32 = .ok (.return_, 1) := by decide +kernel
theorem d_Ev_matchesAll_0 : decode b_Ev_matchesAll 0 = .ok (.iconst 0, 1) := by decide +kernel
theorem d_Ev_matchesAll_1 : decode b_Ev_matchesAll 1 = .ok (.istore_n 3, 1) := by decide +kernel
theorem d_Ev_matchesAll_2 : decode b_Ev_matchesAll 2 = .ok (.iload_n 3, 1) := by decide +kernel
theorem d_Ev_matchesAll_3 : decode b_Ev_matchesAll 3 = .ok (.aload_n 0, 1) := by decide +kernel
theorem d_Ev_matchesAll_4 : decode b_Ev_matchesAll 4 = .ok (.getfield 29, 3) := by decide +kernel
theorem d_Ev_matchesAll_7 : decode b_Ev_matchesAll 7 = .ok (.iload_n 2, 1) := by decide +kernel
theorem d_Ev_matchesAll_8 : decode b_Ev_matchesAll 8 = .ok (.invokevirtual 175, 3) := by decide +kernel
theorem d_Ev_matchesAll_11 : decode b_Ev_matchesAll 11 = .ok (.if_icmp .ge 28, 3) := by decide +kernel
theorem d_Ev_matchesAll_14 : decode b_Ev_matchesAll 14 = .ok (.aload_n 0, 1) := by decide +kernel
theorem d_Ev_matchesAll_15 : decode b_Ev_matchesAll 15 = .ok (.aload_n 1, 1) := by decide +kernel
theorem d_Ev_matchesAll_16 : decode b_Ev_matchesAll 16 = .ok (.aload_n 0, 1) := by decide +kernel
theorem d_Ev_matchesAll_17 : decode b_Ev_matchesAll 17 = .ok (.getfield 29, 3) := by decide +kernel
theorem d_Ev_matchesAll_20 : decode b_Ev_matchesAll 20 = .ok (.iload_n 2, 1) := by decide +kernel
theorem d_Ev_matchesAll_21 : decode b_Ev_matchesAll 21 = .ok (.iload_n 3, 1) := by decide +kernel
theorem d_Ev_matchesAll_22 : decode b_Ev_matchesAll 22 = .ok (.invokevirtual 178, 3) := by decide +kernel
theorem d_Ev_matchesAll_25 : decode b_Ev_matchesAll 25 = .ok (.invokevirtual 181, 3) := by decide +kernel
theorem d_Ev_matchesAll_28 : decode b_Ev_matchesAll 28 = .ok (.ifCond .ne 5, 3) := by decide +kernel
theorem d_Ev_matchesAll_31 : decode b_Ev_matchesAll 31 = .ok (.iconst 0, 1) := by decide +kernel
theorem d_Ev_matchesAll_32 : decode b_Ev_matchesAll 32 = .ok (.ireturn, 1) := by decide +kernel
theorem d_Ev_matchesAll_33 : decode b_Ev_matchesAll 33 = .ok (.iinc 3 1, 3) := by decide +kernel
theorem d_Ev_matchesAll_36 : decode b_Ev_matchesAll 36 = .ok (.goto (-34), 3) := by decide +kernel
theorem d_Ev_matchesAll_39 : decode b_Ev_matchesAll 39 = .ok (.iconst 1, 1) := by decide +kernel
theorem d_Ev_matchesAll_40 : decode b_Ev_matchesAll 40 = .ok (.ireturn, 1) := by decide +kernel
theorem d_Ev_matches_0 : decode b_Ev_matches 0 = .ok (.aload_n 1, 1) := by decide +kernel
theorem d_Ev_matches_1 : decode b_Ev_matches 1 = .ok (.aload_n 0, 1) := by decide +kernel
theorem d_Ev_matches_2 : decode b_Ev_matches 2 = .ok (.getfield 21, 3) := by decide +kernel
theorem d_Ev_matches_5 : decode b_Ev_matches 5 = .ok (.aload_n 0, 1) := by decide +kernel
theorem d_Ev_matches_6 : decode b_Ev_matches 6 = .ok (.getfield 29, 3) := by decide +kernel
theorem d_Ev_matches_9 : decode b_Ev_matches 9 = .ok (.iload_n 2, 1) := by decide +kernel
theorem d_Ev_matches_10 : decode b_Ev_matches 10 = .ok (.invokevirtual 68, 3) := by decide +kernel
theorem d_Ev_matches_13 : decode b_Ev_matches 13 = .ok (.aload_n 0, 1) := by decide +kernel
theorem d_Ev_matches_14 : decode b_Ev_matches 14 = .ok (.getfield 29, 3) := by decide +kernel
theorem d_Ev_matches_17 : decode b_Ev_matches 17 = .ok (.iload_n 2, 1) := by decide +kernel
theorem d_Ev_matches_18 : decode b_Ev_matches 18 = .ok (.iconst 1, 1) := by decide +kernel
theorem d_Ev_matches_19 : decode b_Ev_matches 19 = .ok (.iadd, 1) := by decide +kernel
theorem d_Ev_matches_20 : decode b_Ev_matches 20 = .ok (.invokevirtual 68, 3) := by decide +kernel
theorem d_Ev_matches_23 : decode b_Ev_matches 23 = .ok (.invokevirtual 184, 3) := by decide +kernel
theorem d_Ev_matches_26 : decode b_Ev_matches 26 = .ok (.istore_n 3, 1) := by decide +kernel
theorem d_Ev_matches_27 : decode b_Ev_matches 27 = .ok (.aload_n 0, 1) := by decide +kernel
theorem d_Ev_matches_28 : decode b_Ev_matches 28 = .ok (.getfield 29, 3) := by decide +kernel
theorem d_Ev_matches_31 : decode b_Ev_matches 31 = .ok (.iload_n 2, 1) := by decide +kernel
theorem d_Ev_matches_32 : decode b_Ev_matches 32 = .ok (.iconst 4, 1) := by decide +kernel
theorem d_Ev_matches_33 : decode b_Ev_matches 33 = .ok (.iadd, 1) := by decide +kernel
theorem d_Ev_matches_34 : decode b_Ev_matches 34 = .ok (.invokevirtual 68, 3) := by decide +kernel
theorem d_Ev_matches_37 : decode b_Ev_matches 37 = .ok (.istore 4, 2) := by decide +kernel
theorem d_Ev_matches_39 : decode b_Ev_matches 39 = .ok (.aload_n 1, 1) := by decide +kernel
theorem d_Ev_matches_40 : decode b_Ev_matches 40 = .ok (.iload_n 3, 1) := by decide +kernel
theorem d_Ev_matches_41 : decode b_Ev_matches 41 = .ok (.aload_n 0, 1) := by decide +kernel
theorem d_Ev_matches_42 : decode b_Ev_matches 42 = .ok (.getfield 21, 3) := by decide +kernel
theorem d_Ev_matches_45 : decode b_Ev_matches 45 = .ok (.aload_n 0, 1) := by decide +kernel
theorem d_Ev_matches_46 : decode b_Ev_matches 46 = .ok (.getfield 29, 3) := by decide +kernel
theorem d_Ev_matches_49 : decode b_Ev_matches 49 = .ok (.iload_n 2, 1) := by decide +kernel
theorem d_Ev_matches_50 : decode b_Ev_matches 50 = .ok (.iconst 3, 1) := by decide +kernel
theorem d_Ev_matches_51 : decode b_Ev_matches 51 = .ok (.iadd, 1) := by decide +kernel
theorem d_Ev_matches_52 : decode b_Ev_matches 52 = .ok (.invokevirtual 68, 3) := by decide +kernel
theorem d_Ev_matches_55 : decode b_Ev_matches 55 = .ok (.iload 4, 2) := by decide +kernel
theorem d_Ev_matches_57 : decode b_Ev_matches 57 = .ok (.invokevirtual 188, 3) := by decide +kernel
theorem d_Ev_matches_60 : decode b_Ev_matches 60 = .ok (.istore 5, 2) := by decide +kernel
theorem d_Ev_matches_62 : decode b_Ev_matches 62 = .ok (.iload 5, 2) := by decide +kernel
theorem d_Ev_matches_64 : decode b_Ev_matches 64 = .ok (.ifCond .eq 17, 3) := by decide +kernel
theorem d_Ev_matches_67 : decode b_Ev_matches 67 = .ok (.aload_n 1, 1) := by decide +kernel
theorem d_Ev_matches_68 : decode b_Ev_matches 68 = .ok (.iload_n 3, 1) := by decide +kernel
theorem d_Ev_matches_69 : decode b_Ev_matches 69 = .ok (.invokevirtual 192, 3) := by decide +kernel
theorem d_Ev_matches_72 : decode b_Ev_matches 72 = .ok (.iload 4, 2) := by decide +kernel
theorem d_Ev_matches_74 : decode b_Ev_matches 74 = .ok (.if_icmp .ne 7, 3) := by decide +kernel
theorem d_Ev_matches_77 : decode b_Ev_matches 77 = .ok (.iconst 1, 1) := by decide +kernel
theorem d_Ev_matches_78 : decode b_Ev_matches 78 = .ok (.goto 4, 3) := by decide +kernel
theorem d_Ev_matches_81 : decode b_Ev_matches 81 = .ok (.iconst 0, 1) := by decide +kernel
theorem d_Ev_matches_82 : decode b_Ev_matches 82 = .ok (.istore 6, 2) := by decide +kernel
theorem d_Ev_matches_84 : decode b_Ev_matches 84 = .ok (.aload_n 0, 1) := by decide +kernel
theorem d_Ev_matches_85 : decode b_Ev_matches 85 = .ok (.getfield 29, 3) := by decide +kernel
theorem d_Ev_matches_88 : decode b_Ev_matches 88 = .ok (.iload_n 2, 1) := by decide +kernel
theorem d_Ev_matches_89 : decode b_Ev_matches 89 = .ok (.iconst 2, 1) := by decide +kernel
theorem d_Ev_matches_90 : decode b_Ev_matches 90 = .ok (.iadd, 1) := by decide +kernel
theorem d_Ev_matches_91 : decode b_Ev_matches 91 = .ok (.invokevirtual 68, 3) := by decide +kernel
theorem d_Ev_matches_94 : decode b_Ev_matches 94 = .ok (.lookupswitch 51 #[(61, 34), (305, 37), (306, 48)], 34) := by decide +kernel
theorem d_Ev_matches_128 : decode b_Ev_matches 128 = .ok (.iload 6, 2) := by decide +kernel
theorem d_Ev_matches_130 : decode b_Ev_matches 130 = .ok (.ireturn, 1) := by decide +kernel
theorem d_Ev_matches_131 : decode b_Ev_matches 131 = .ok (.iload 6, 2) := by decide +kernel
theorem d_Ev_matches_133 : decode b_Ev_matches 133 = .ok (.ifCond .ne 7, 3) := by decide +kernel
theorem d_Ev_matches_136 : decode b_Ev_matches 136 = .ok (.iconst 1, 1) := by decide +kernel
theorem d_Ev_matches_137 : decode b_Ev_matches 137 = .ok (.goto 4, 3) := by decide +kernel
theorem d_Ev_matches_140 : decode b_Ev_matches 140 = .ok (.iconst 0, 1) := by decide +kernel
theorem d_Ev_matches_141 : decode b_Ev_matches 141 = .ok (.ireturn, 1) := by decide +kernel
theorem d_Ev_matches_142 : decode b_Ev_matches 142 = .ok (.iload 5, 2) := by decide +kernel
theorem d_Ev_matches_144 : decode b_Ev_matches 144 = .ok (.ireturn, 1) := by decide +kernel
theorem d_Ev_matches_145 : decode b_Ev_matches 145 = .ok (.iload 5, 2) := by decide +kernel
theorem d_Ev_matches_147 : decode b_Ev_matches 147 = .ok (.ifCond .ne 7, 3) := by decide +kernel
theorem d_Ev_matches_150 : decode b_Ev_matches 150 = .ok (.iconst 1, 1) := by decide +kernel
theorem d_Ev_matches_151 : decode b_Ev_matches 151 = .ok (.goto 4, 3) := by decide +kernel
theorem d_Ev_matches_154 : decode b_Ev_matches 154 = .ok (.iconst 0, 1) := by decide +kernel
theorem d_Ev_matches_155 : decode b_Ev_matches 155 = .ok (.ireturn, 1) := by decide +kernel
theorem d_Ev_addPoints_0 : decode b_Ev_addPoints 0 = .ok (.aload_n 0, 1) := by decide +kernel
theorem d_Ev_addPoints_1 : decode b_Ev_addPoints 1 = .ok (.getfield 42, 3) := by decide +kernel
theorem d_Ev_addPoints_4 : decode b_Ev_addPoints 4 = .ok (.lconst 1, 1) := by decide +kernel
theorem d_Ev_addPoints_5 : decode b_Ev_addPoints 5 = .ok (.lcmp, 1) := by decide +kernel
theorem d_Ev_addPoints_6 : decode b_Ev_addPoints 6 = .ok (.ifCond .ge 4, 3) := by decide +kernel
theorem d_Ev_addPoints_9 : decode b_Ev_addPoints 9 = .ok (.return_, 1) := by decide +kernel
theorem d_Ev_addPoints_10 : decode b_Ev_addPoints 10 = .ok (.aload 4, 2) := by decide +kernel
theorem d_Ev_addPoints_12 : decode b_Ev_addPoints 12 = .ok (.aload_n 0, 1) := by decide +kernel
theorem d_Ev_addPoints_13 : decode b_Ev_addPoints 13 = .ok (.getfield 38, 3) := by decide +kernel
theorem d_Ev_addPoints_16 : decode b_Ev_addPoints 16 = .ok (.invokevirtual 195, 3) := by decide +kernel
theorem d_Ev_addPoints_19 : decode b_Ev_addPoints 19 = .ok (.istore 5, 2) := by decide +kernel
theorem d_Ev_addPoints_21 : decode b_Ev_addPoints 21 = .ok (.iload 5, 2) := by decide +kernel
theorem d_Ev_addPoints_23 : decode b_Ev_addPoints 23 = .ok (.aload 4, 2) := by decide +kernel
theorem d_Ev_addPoints_25 : decode b_Ev_addPoints 25 = .ok (.invokevirtual 201, 3) := by decide +kernel
theorem d_Ev_addPoints_28 : decode b_Ev_addPoints 28 = .ok (.if_icmp .ge 58, 3) := by decide +kernel
theorem d_Ev_addPoints_31 : decode b_Ev_addPoints 31 = .ok (.aload 4, 2) := by decide +kernel
theorem d_Ev_addPoints_33 : decode b_Ev_addPoints 33 = .ok (.iload 5, 2) := by decide +kernel
theorem d_Ev_addPoints_35 : decode b_Ev_addPoints 35 = .ok (.invokevirtual 202, 3) := by decide +kernel
theorem d_Ev_addPoints_38 : decode b_Ev_addPoints 38 = .ok (.aload_n 0, 1) := by decide +kernel
theorem d_Ev_addPoints_39 : decode b_Ev_addPoints 39 = .ok (.getfield 38, 3) := by decide +kernel
theorem d_Ev_addPoints_42 : decode b_Ev_addPoints 42 = .ok (.lsub, 1) := by decide +kernel
theorem d_Ev_addPoints_43 : decode b_Ev_addPoints 43 = .ok (.aload_n 0, 1) := by decide +kernel
theorem d_Ev_addPoints_44 : decode b_Ev_addPoints 44 = .ok (.getfield 42, 3) := by decide +kernel
theorem d_Ev_addPoints_47 : decode b_Ev_addPoints 47 = .ok (.ldiv, 1) := by decide +kernel
theorem d_Ev_addPoints_48 : decode b_Ev_addPoints 48 = .ok (.lstore 6, 2) := by decide +kernel
theorem d_Ev_addPoints_50 : decode b_Ev_addPoints 50 = .ok (.lload 6, 2) := by decide +kernel
theorem d_Ev_addPoints_52 : decode b_Ev_addPoints 52 = .ok (.aload_n 0, 1) := by decide +kernel
theorem d_Ev_addPoints_53 : decode b_Ev_addPoints 53 = .ok (.getfield 45, 3) := by decide +kernel
theorem d_Ev_addPoints_56 : decode b_Ev_addPoints 56 = .ok (.i2l, 1) := by decide +kernel
theorem d_Ev_addPoints_57 : decode b_Ev_addPoints 57 = .ok (.lcmp, 1) := by decide +kernel
theorem d_Ev_addPoints_58 : decode b_Ev_addPoints 58 = .ok (.ifCond .lt 4, 3) := by decide +kernel
theorem d_Ev_addPoints_61 : decode b_Ev_addPoints 61 = .ok (.return_, 1) := by decide +kernel
theorem d_Ev_addPoints_62 : decode b_Ev_addPoints 62 = .ok (.aload_n 0, 1) := by decide +kernel
theorem d_Ev_addPoints_63 : decode b_Ev_addPoints 63 = .ok (.iload_n 1, 1) := by decide +kernel
theorem d_Ev_addPoints_64 : decode b_Ev_addPoints 64 = .ok (.aload_n 2, 1) := by decide +kernel
theorem d_Ev_addPoints_65 : decode b_Ev_addPoints 65 = .ok (.aload_n 2, 1) := by decide +kernel
theorem d_Ev_addPoints_66 : decode b_Ev_addPoints 66 = .ok (.iload_n 3, 1) := by decide +kernel
theorem d_Ev_addPoints_67 : decode b_Ev_addPoints 67 = .ok (.lload 6, 2) := by decide +kernel
theorem d_Ev_addPoints_69 : decode b_Ev_addPoints 69 = .ok (.l2i, 1) := by decide +kernel
theorem d_Ev_addPoints_70 : decode b_Ev_addPoints 70 = .ok (.invokevirtual 111, 3) := by decide +kernel
theorem d_Ev_addPoints_73 : decode b_Ev_addPoints 73 = .ok (.aload 4, 2) := by decide +kernel
theorem d_Ev_addPoints_75 : decode b_Ev_addPoints 75 = .ok (.iload 5, 2) := by decide +kernel
theorem d_Ev_addPoints_77 : decode b_Ev_addPoints 77 = .ok (.invokevirtual 205, 3) := by decide +kernel
theorem d_Ev_addPoints_80 : decode b_Ev_addPoints 80 = .ok (.iinc 5 1, 3) := by decide +kernel
theorem d_Ev_addPoints_83 : decode b_Ev_addPoints 83 = .ok (.goto (-62), 3) := by decide +kernel
theorem d_Ev_addPoints_86 : decode b_Ev_addPoints 86 = .ok (.return_, 1) := by decide +kernel
theorem d_Ev_addPoint_0 : decode b_Ev_addPoint 0 = .ok (.aload 4, 2) := by decide +kernel
theorem d_Ev_addPoint_2 : decode b_Ev_addPoint 2 = .ok (.iload 5, 2) := by decide +kernel
theorem d_Ev_addPoint_4 : decode b_Ev_addPoint 4 = .ok (.invokevirtual 209, 3) := by decide +kernel
theorem d_Ev_addPoint_7 : decode b_Ev_addPoint 7 = .ok (.lstore 6, 2) := by decide +kernel
theorem d_Ev_addPoint_9 : decode b_Ev_addPoint 9 = .ok (.aload_n 2, 1) := by decide +kernel
theorem d_Ev_addPoint_10 : decode b_Ev_addPoint 10 = .ok (.iload_n 3, 1) := by decide +kernel
theorem d_Ev_addPoint_11 : decode b_Ev_addPoint 11 = .ok (.invokevirtual 118, 3) := by decide +kernel
theorem d_Ev_addPoint_14 : decode b_Ev_addPoint 14 = .ok (.lstore 8, 2) := by decide +kernel
theorem d_Ev_addPoint_16 : decode b_Ev_addPoint 16 = .ok (.aload_n 2, 1) := by decide +kernel
theorem d_Ev_addPoint_17 : decode b_Ev_addPoint 17 = .ok (.iload_n 3, 1) := by decide +kernel
theorem d_Ev_addPoint_18 : decode b_Ev_addPoint 18 = .ok (.invokevirtual 114, 3) := by decide +kernel
theorem d_Ev_addPoint_21 : decode b_Ev_addPoint 21 = .ok (.ifCond .ne 7, 3) := by decide +kernel
theorem d_Ev_addPoint_24 : decode b_Ev_addPoint 24 = .ok (.iconst 1, 1) := by decide +kernel
theorem d_Ev_addPoint_25 : decode b_Ev_addPoint 25 = .ok (.goto 4, 3) := by decide +kernel
theorem d_Ev_addPoint_28 : decode b_Ev_addPoint 28 = .ok (.iconst 0, 1) := by decide +kernel
theorem d_Ev_addPoint_29 : decode b_Ev_addPoint 29 = .ok (.istore 10, 2) := by decide +kernel
theorem d_Ev_addPoint_31 : decode b_Ev_addPoint 31 = .ok (.iload_n 1, 1) := by decide +kernel
theorem d_Ev_addPoint_32 : decode b_Ev_addPoint 32 = .ok (.tableswitch 149 1 7 #[44, 57, 69, 94, 149, 149, 119], 44) := by decide +kernel
theorem d_Ev_addPoint_76 : decode b_Ev_addPoint 76 = .ok (.aload_n 2, 1) := by decide +kernel
theorem d_Ev_addPoint_77 : decode b_Ev_addPoint 77 = .ok (.iload_n 3, 1) := by decide +kernel
theorem d_Ev_addPoint_78 : decode b_Ev_addPoint 78 = .ok (.lload 8, 2) := by decide +kernel
theorem d_Ev_addPoint_80 : decode b_Ev_addPoint 80 = .ok (.lload 6, 2) := by decide +kernel
theorem d_Ev_addPoint_82 : decode b_Ev_addPoint 82 = .ok (.ladd, 1) := by decide +kernel
theorem d_Ev_addPoint_83 : decode b_Ev_addPoint 83 = .ok (.invokevirtual 107, 3) := by decide +kernel
theorem d_Ev_addPoint_86 : decode b_Ev_addPoint 86 = .ok (.goto 111, 3) := by decide +kernel
theorem d_Ev_addPoint_89 : decode b_Ev_addPoint 89 = .ok (.aload_n 2, 1) := by decide +kernel
theorem d_Ev_addPoint_90 : decode b_Ev_addPoint 90 = .ok (.iload_n 3, 1) := by decide +kernel
theorem d_Ev_addPoint_91 : decode b_Ev_addPoint 91 = .ok (.lload 8, 2) := by decide +kernel
theorem d_Ev_addPoint_93 : decode b_Ev_addPoint 93 = .ok (.lconst 1, 1) := by decide +kernel
theorem d_Ev_addPoint_94 : decode b_Ev_addPoint 94 = .ok (.ladd, 1) := by decide +kernel
theorem d_Ev_addPoint_95 : decode b_Ev_addPoint 95 = .ok (.invokevirtual 107, 3) := by decide +kernel
theorem d_Ev_addPoint_98 : decode b_Ev_addPoint 98 = .ok (.goto 99, 3) := by decide +kernel
theorem d_Ev_addPoint_101 : decode b_Ev_addPoint 101 = .ok (.aload_n 2, 1) := by decide +kernel
theorem d_Ev_addPoint_102 : decode b_Ev_addPoint 102 = .ok (.iload_n 3, 1) := by decide +kernel
theorem d_Ev_addPoint_103 : decode b_Ev_addPoint 103 = .ok (.iload 10, 2) := by decide +kernel
theorem d_Ev_addPoint_105 : decode b_Ev_addPoint 105 = .ok (.ifCond .eq 8, 3) := by decide +kernel
theorem d_Ev_addPoint_108 : decode b_Ev_addPoint 108 = .ok (.lload 6, 2) := by decide +kernel
theorem d_Ev_addPoint_110 : decode b_Ev_addPoint 110 = .ok (.goto 10, 3) := by decide +kernel
theorem d_Ev_addPoint_113 : decode b_Ev_addPoint 113 = .ok (.lload 8, 2) := by decide +kernel
theorem d_Ev_addPoint_115 : decode b_Ev_addPoint 115 = .ok (.lload 6, 2) := by decide +kernel
theorem d_Ev_addPoint_117 : decode b_Ev_addPoint 117 = .ok (.invokestatic 212, 3) := by decide +kernel
theorem d_Ev_addPoint_120 : decode b_Ev_addPoint 120 = .ok (.invokevirtual 107, 3) := by decide +kernel
theorem d_Ev_addPoint_123 : decode b_Ev_addPoint 123 = .ok (.goto 74, 3) := by decide +kernel
theorem d_Ev_addPoint_126 : decode b_Ev_addPoint 126 = .ok (.aload_n 2, 1) := by decide +kernel
theorem d_Ev_addPoint_127 : decode b_Ev_addPoint 127 = .ok (.iload_n 3, 1) := by decide +kernel
theorem d_Ev_addPoint_128 : decode b_Ev_addPoint 128 = .ok (.iload 10, 2) := by decide +kernel
theorem d_Ev_addPoint_130 : decode b_Ev_addPoint 130 = .ok (.ifCond .eq 8, 3) := by decide +kernel
theorem d_Ev_addPoint_133 : decode b_Ev_addPoint 133 = .ok (.lload 6, 2) := by decide +kernel
theorem d_Ev_addPoint_135 : decode b_Ev_addPoint 135 = .ok (.goto 10, 3) := by decide +kernel
theorem d_Ev_addPoint_138 : decode b_Ev_addPoint 138 = .ok (.lload 8, 2) := by decide +kernel
theorem d_Ev_addPoint_140 : decode b_Ev_addPoint 140 = .ok (.lload 6, 2) := by decide +kernel
theorem d_Ev_addPoint_142 : decode b_Ev_addPoint 142 = .ok (.invokestatic 215, 3) := by decide +kernel
theorem d_Ev_addPoint_145 : decode b_Ev_addPoint 145 = .ok (.invokevirtual 107, 3) := by decide +kernel
theorem d_Ev_addPoint_148 : decode b_Ev_addPoint 148 = .ok (.goto 49, 3) := by decide +kernel
theorem d_Ev_addPoint_151 : decode b_Ev_addPoint 151 = .ok (.iload 5, 2) := by decide +kernel
theorem d_Ev_addPoint_153 : decode b_Ev_addPoint 153 = .ok (.ifCond .le 44, 3) := by decide +kernel
theorem d_Ev_addPoint_156 : decode b_Ev_addPoint 156 = .ok (.aload_n 2, 1) := by decide +kernel
theorem d_Ev_addPoint_157 : decode b_Ev_addPoint 157 = .ok (.iload_n 3, 1) := by decide +kernel
theorem d_Ev_addPoint_158 : decode b_Ev_addPoint 158 = .ok (.lload 8, 2) := by decide +kernel
theorem d_Ev_addPoint_160 : decode b_Ev_addPoint 160 = .ok (.aload 4, 2) := by decide +kernel
theorem d_Ev_addPoint_162 : decode b_Ev_addPoint 162 = .ok (.iload 5, 2) := by decide +kernel
theorem d_Ev_addPoint_164 : decode b_Ev_addPoint 164 = .ok (.iconst 1, 1) := by decide +kernel
theorem d_Ev_addPoint_165 : decode b_Ev_addPoint 165 = .ok (.isub, 1) := by decide +kernel
theorem d_Ev_addPoint_166 : decode b_Ev_addPoint 166 = .ok (.invokevirtual 209, 3) := by decide +kernel
theorem d_Ev_addPoint_169 : decode b_Ev_addPoint 169 = .ok (.lload 6, 2) := by decide +kernel
theorem d_Ev_addPoint_171 : decode b_Ev_addPoint 171 = .ok (.invokestatic 217, 3) := by decide +kernel
theorem d_Ev_addPoint_174 : decode b_Ev_addPoint 174 = .ok (.ladd, 1) := by decide +kernel
theorem d_Ev_addPoint_175 : decode b_Ev_addPoint 175 = .ok (.invokevirtual 107, 3) := by decide +kernel
theorem d_Ev_addPoint_178 : decode b_Ev_addPoint 178 = .ok (.goto 19, 3) := by decide +kernel
theorem d_Ev_addPoint_181 : decode b_Ev_addPoint 181 = .ok (.aload_n 0, 1) := by decide +kernel
theorem d_Ev_addPoint_182 : decode b_Ev_addPoint 182 = .ok (.iload_n 1, 1) := by decide +kernel
theorem d_Ev_addPoint_183 : decode b_Ev_addPoint 183 = .ok (.aload_n 2, 1) := by decide +kernel
theorem d_Ev_addPoint_184 : decode b_Ev_addPoint 184 = .ok (.iload_n 3, 1) := by decide +kernel
theorem d_Ev_addPoint_185 : decode b_Ev_addPoint 185 = .ok (.aload 4, 2) := by decide +kernel
theorem d_Ev_addPoint_187 : decode b_Ev_addPoint 187 = .ok (.iload 5, 2) := by decide +kernel
theorem d_Ev_addPoint_189 : decode b_Ev_addPoint 189 = .ok (.invokevirtual 202, 3) := by decide +kernel
theorem d_Ev_addPoint_192 : decode b_Ev_addPoint 192 = .ok (.lload 6, 2) := by decide +kernel
theorem d_Ev_addPoint_194 : decode b_Ev_addPoint 194 = .ok (.invokevirtual 220, 3) := by decide +kernel
theorem d_Ev_addPoint_197 : decode b_Ev_addPoint 197 = .ok (.return_, 1) := by decide +kernel
theorem d_Ev_grownBy_0 : decode b_Ev_grownBy 0 = .ok (.lload_n 0, 1) := by decide +kernel
theorem d_Ev_grownBy_1 : decode b_Ev_grownBy 1 = .ok (.lload_n 2, 1) := by decide +kernel
theorem d_Ev_grownBy_2 : decode b_Ev_grownBy 2 = .ok (.lcmp, 1) := by decide +kernel
theorem d_Ev_grownBy_3 : decode b_Ev_grownBy 3 = .ok (.ifCond .gt 9, 3) := by decide +kernel
theorem d_Ev_grownBy_6 : decode b_Ev_grownBy 6 = .ok (.lload_n 2, 1) := by decide +kernel
theorem d_Ev_grownBy_7 : decode b_Ev_grownBy 7 = .ok (.lload_n 0, 1) := by decide +kernel
theorem d_Ev_grownBy_8 : decode b_Ev_grownBy 8 = .ok (.lsub, 1) := by decide +kernel
theorem d_Ev_grownBy_9 : decode b_Ev_grownBy 9 = .ok (.goto 4, 3) := by decide +kernel
theorem d_Ev_grownBy_12 : decode b_Ev_grownBy 12 = .ok (.lload_n 2, 1) := by decide +kernel
theorem d_Ev_grownBy_13 : decode b_Ev_grownBy 13 = .ok (.lreturn, 1) := by decide +kernel
theorem d_Ev_addMoment_0 : decode b_Ev_addMoment 0 = .ok (.iload_n 3, 1) := by decide +kernel
theorem d_Ev_addMoment_1 : decode b_Ev_addMoment 1 = .ok (.ifCond .lt 12, 3) := by decide +kernel
theorem d_Ev_addMoment_4 : decode b_Ev_addMoment 4 = .ok (.iload_n 3, 1) := by decide +kernel
theorem d_Ev_addMoment_5 : decode b_Ev_addMoment 5 = .ok (.aload_n 0, 1) := by decide +kernel
theorem d_Ev_addMoment_6 : decode b_Ev_addMoment 6 = .ok (.getfield 17, 3) := by decide +kernel
theorem d_Ev_addMoment_9 : decode b_Ev_addMoment 9 = .ok (.arraylength, 1) := by decide +kernel
theorem d_Ev_addMoment_10 : decode b_Ev_addMoment 10 = .ok (.if_icmp .lt 4, 3) := by decide +kernel
theorem d_Ev_addMoment_13 : decode b_Ev_addMoment 13 = .ok (.return_, 1) := by decide +kernel
theorem d_Ev_addMoment_14 : decode b_Ev_addMoment 14 = .ok (.iload_n 1, 1) := by decide +kernel
theorem d_Ev_addMoment_15 : decode b_Ev_addMoment 15 = .ok (.iconst 5, 1) := by decide +kernel
theorem d_Ev_addMoment_16 : decode b_Ev_addMoment 16 = .ok (.if_icmp .ne 23, 3) := by decide +kernel
theorem d_Ev_addMoment_19 : decode b_Ev_addMoment 19 = .ok (.lload 4, 2) := by decide +kernel
theorem d_Ev_addMoment_21 : decode b_Ev_addMoment 21 = .ok (.aload_n 0, 1) := by decide +kernel
theorem d_Ev_addMoment_22 : decode b_Ev_addMoment 22 = .ok (.getfield 17, 3) := by decide +kernel
theorem d_Ev_addMoment_25 : decode b_Ev_addMoment 25 = .ok (.iload_n 3, 1) := by decide +kernel
theorem d_Ev_addMoment_26 : decode b_Ev_addMoment 26 = .ok (.laload, 1) := by decide +kernel
theorem d_Ev_addMoment_27 : decode b_Ev_addMoment 27 = .ok (.lcmp, 1) := by decide +kernel
theorem d_Ev_addMoment_28 : decode b_Ev_addMoment 28 = .ok (.ifCond .ge 7, 3) := by decide +kernel
theorem d_Ev_addMoment_31 : decode b_Ev_addMoment 31 = .ok (.iconst 1, 1) := by decide +kernel
theorem d_Ev_addMoment_32 : decode b_Ev_addMoment 32 = .ok (.goto 24, 3) := by decide +kernel
theorem d_Ev_addMoment_35 : decode b_Ev_addMoment 35 = .ok (.iconst 0, 1) := by decide +kernel
theorem d_Ev_addMoment_36 : decode b_Ev_addMoment 36 = .ok (.goto 20, 3) := by decide +kernel
theorem d_Ev_addMoment_39 : decode b_Ev_addMoment 39 = .ok (.lload 4, 2) := by decide +kernel
theorem d_Ev_addMoment_41 : decode b_Ev_addMoment 41 = .ok (.aload_n 0, 1) := by decide +kernel
theorem d_Ev_addMoment_42 : decode b_Ev_addMoment 42 = .ok (.getfield 17, 3) := by decide +kernel
theorem d_Ev_addMoment_45 : decode b_Ev_addMoment 45 = .ok (.iload_n 3, 1) := by decide +kernel
theorem d_Ev_addMoment_46 : decode b_Ev_addMoment 46 = .ok (.laload, 1) := by decide +kernel
theorem d_Ev_addMoment_47 : decode b_Ev_addMoment 47 = .ok (.lcmp, 1) := by decide +kernel
theorem d_Ev_addMoment_48 : decode b_Ev_addMoment 48 = .ok (.ifCond .le 7, 3) := by decide +kernel
theorem d_Ev_addMoment_51 : decode b_Ev_addMoment 51 = .ok (.iconst 1, 1) := by decide +kernel
theorem d_Ev_addMoment_52 : decode b_Ev_addMoment 52 = .ok (.goto 4, 3) := by decide +kernel
theorem d_Ev_addMoment_55 : decode b_Ev_addMoment 55 = .ok (.iconst 0, 1) := by decide +kernel
theorem d_Ev_addMoment_56 : decode b_Ev_addMoment 56 = .ok (.istore 8, 2) := by decide +kernel
theorem d_Ev_addMoment_58 : decode b_Ev_addMoment 58 = .ok (.iload 8, 2) := by decide +kernel
theorem d_Ev_addMoment_60 : decode b_Ev_addMoment 60 = .ok (.ifCond .ne 11, 3) := by decide +kernel
theorem d_Ev_addMoment_63 : decode b_Ev_addMoment 63 = .ok (.aload_n 2, 1) := by decide +kernel
theorem d_Ev_addMoment_64 : decode b_Ev_addMoment 64 = .ok (.iload_n 3, 1) := by decide +kernel
theorem d_Ev_addMoment_65 : decode b_Ev_addMoment 65 = .ok (.invokevirtual 114, 3) := by decide +kernel
theorem d_Ev_addMoment_68 : decode b_Ev_addMoment 68 = .ok (.ifCond .ne 18, 3) := by decide +kernel
theorem d_Ev_addMoment_71 : decode b_Ev_addMoment 71 = .ok (.aload_n 2, 1) := by decide +kernel
theorem d_Ev_addMoment_72 : decode b_Ev_addMoment 72 = .ok (.iload_n 3, 1) := by decide +kernel
theorem d_Ev_addMoment_73 : decode b_Ev_addMoment 73 = .ok (.lload 6, 2) := by decide +kernel
theorem d_Ev_addMoment_75 : decode b_Ev_addMoment 75 = .ok (.invokevirtual 107, 3) := by decide +kernel
theorem d_Ev_addMoment_78 : decode b_Ev_addMoment 78 = .ok (.aload_n 0, 1) := by decide +kernel
theorem d_Ev_addMoment_79 : decode b_Ev_addMoment 79 = .ok (.getfield 17, 3) := by decide +kernel
theorem d_Ev_addMoment_82 : decode b_Ev_addMoment 82 = .ok (.iload_n 3, 1) := by decide +kernel
theorem d_Ev_addMoment_83 : decode b_Ev_addMoment 83 = .ok (.lload 4, 2) := by decide +kernel
theorem d_Ev_addMoment_85 : decode b_Ev_addMoment 85 = .ok (.lastore, 1) := by decide +kernel
theorem d_Ev_addMoment_86 : decode b_Ev_addMoment 86 = .ok (.return_, 1) := by decide +kernel
theorem d_Ev_dropEmptyLines_0 : decode b_Ev_dropEmptyLines 0 = .ok (.aload_n 0, 1) := by decide +kernel
theorem d_Ev_dropEmptyLines_1 : decode b_Ev_dropEmptyLines 1 = .ok (.invokevirtual 92, 3) := by decide +kernel
theorem d_Ev_dropEmptyLines_4 : decode b_Ev_dropEmptyLines 4 = .ok (.astore_n 1, 1) := by decide +kernel
theorem d_Ev_dropEmptyLines_5 : decode b_Ev_dropEmptyLines 5 = .ok (.iconst 0, 1) := by decide +kernel
theorem d_Ev_dropEmptyLines_6 : decode b_Ev_dropEmptyLines 6 = .ok (.istore_n 2, 1) := by decide +kernel
theorem d_Ev_dropEmptyLines_7 : decode b_Ev_dropEmptyLines 7 = .ok (.iconst 0, 1) := by decide +kernel
theorem d_Ev_dropEmptyLines_8 : decode b_Ev_dropEmptyLines 8 = .ok (.istore_n 3, 1) := by decide +kernel
theorem d_Ev_dropEmptyLines_9 : decode b_Ev_dropEmptyLines 9 = .ok (.iload_n 3, 1) := by decide +kernel
theorem d_Ev_dropEmptyLines_10 : decode b_Ev_dropEmptyLines 10 = .ok (.aload_n 1, 1) := by decide +kernel
theorem d_Ev_dropEmptyLines_11 : decode b_Ev_dropEmptyLines 11 = .ok (.invokevirtual 96, 3) := by decide +kernel
theorem d_Ev_dropEmptyLines_14 : decode b_Ev_dropEmptyLines 14 = .ok (.if_icmp .ge 35, 3) := by decide +kernel
theorem d_Ev_dropEmptyLines_17 : decode b_Ev_dropEmptyLines 17 = .ok (.aload_n 1, 1) := by decide +kernel
theorem d_Ev_dropEmptyLines_18 : decode b_Ev_dropEmptyLines 18 = .ok (.iload_n 3, 1) := by decide +kernel
theorem d_Ev_dropEmptyLines_19 : decode b_Ev_dropEmptyLines 19 = .ok (.invokevirtual 224, 3) := by decide +kernel
theorem d_Ev_dropEmptyLines_22 : decode b_Ev_dropEmptyLines 22 = .ok (.ifCond .ne 21, 3) := by decide +kernel
theorem d_Ev_dropEmptyLines_25 : decode b_Ev_dropEmptyLines 25 = .ok (.aload_n 1, 1) := by decide +kernel
theorem d_Ev_dropEmptyLines_26 : decode b_Ev_dropEmptyLines 26 = .ok (.iload_n 3, 1) := by decide +kernel
theorem d_Ev_dropEmptyLines_27 : decode b_Ev_dropEmptyLines 27 = .ok (.iload_n 2, 1) := by decide +kernel
theorem d_Ev_dropEmptyLines_28 : decode b_Ev_dropEmptyLines 28 = .ok (.invokevirtual 227, 3) := by decide +kernel
theorem d_Ev_dropEmptyLines_31 : decode b_Ev_dropEmptyLines 31 = .ok (.aload_n 0, 1) := by decide +kernel
theorem d_Ev_dropEmptyLines_32 : decode b_Ev_dropEmptyLines 32 = .ok (.getfield 33, 3) := by decide +kernel
theorem d_Ev_dropEmptyLines_35 : decode b_Ev_dropEmptyLines 35 = .ok (.iload_n 3, 1) := by decide +kernel
theorem d_Ev_dropEmptyLines_36 : decode b_Ev_dropEmptyLines 36 = .ok (.iload_n 2, 1) := by decide +kernel
theorem d_Ev_dropEmptyLines_37 : decode b_Ev_dropEmptyLines 37 = .ok (.invokevirtual 231, 3) := by decide +kernel
theorem d_Ev_dropEmptyLines_40 : decode b_Ev_dropEmptyLines 40 = .ok (.iinc 2 1, 3) := by decide +kernel
theorem d_Ev_dropEmptyLines_43 : decode b_Ev_dropEmptyLines 43 = .ok (.iinc 3 1, 3) := by decide +kernel
theorem d_Ev_dropEmptyLines_46 : decode b_Ev_dropEmptyLines 46 = .ok (.goto (-37), 3) := by decide +kernel
theorem d_Ev_dropEmptyLines_49 : decode b_Ev_dropEmptyLines 49 = .ok (.aload_n 1, 1) := by decide +kernel
theorem d_Ev_dropEmptyLines_50 : decode b_Ev_dropEmptyLines 50 = .ok (.iload_n 2, 1) := by decide +kernel
theorem d_Ev_dropEmptyLines_51 : decode b_Ev_dropEmptyLines 51 = .ok (.invokevirtual 234, 3) := by decide +kernel
theorem d_Ev_dropEmptyLines_54 : decode b_Ev_dropEmptyLines 54 = .ok (.return_, 1) := by decide +kernel
