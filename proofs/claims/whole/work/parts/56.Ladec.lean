theorem d_La_feed_0 : decode b_La_feed 0 = .ok (.aload 6, 2) := by decide +kernel
theorem d_La_feed_2 : decode b_La_feed 2 = .ok (.iconst 0, 1) := by decide +kernel
theorem d_La_feed_3 : decode b_La_feed 3 = .ok (.aload_n 0, 1) := by decide +kernel
theorem d_La_feed_4 : decode b_La_feed 4 = .ok (.iload_n 1, 1) := by decide +kernel
theorem d_La_feed_5 : decode b_La_feed 5 = .ok (.iload_n 2, 1) := by decide +kernel
theorem d_La_feed_6 : decode b_La_feed 6 = .ok (.iload_n 3, 1) := by decide +kernel
theorem d_La_feed_7 : decode b_La_feed 7 = .ok (.iload 4, 2) := by decide +kernel
theorem d_La_feed_9 : decode b_La_feed 9 = .ok (.iload 5, 2) := by decide +kernel
theorem d_La_feed_11 : decode b_La_feed 11 = .ok (.invokevirtual 7, 3) := by decide +kernel
theorem d_La_feed_14 : decode b_La_feed 14 = .ok (.i2l, 1) := by decide +kernel
theorem d_La_feed_15 : decode b_La_feed 15 = .ok (.lastore, 1) := by decide +kernel
theorem d_La_feed_16 : decode b_La_feed 16 = .ok (.goto 7, 3) := by decide +kernel
theorem d_La_feed_19 : decode b_La_feed 19 = .ok (.astore 7, 2) := by decide +kernel
theorem d_La_feed_21 : decode b_La_feed 21 = .ok (.iconst 1, 1) := by decide +kernel
theorem d_La_feed_22 : decode b_La_feed 22 = .ok (.ireturn, 1) := by decide +kernel
theorem d_La_feed_23 : decode b_La_feed 23 = .ok (.iconst 0, 1) := by decide +kernel
theorem d_La_feed_24 : decode b_La_feed 24 = .ok (.ireturn, 1) := by decide +kernel
theorem d_La_end_0 : decode b_La_end 0 = .ok (.aload_n 0, 1) := by decide +kernel
theorem d_La_end_1 : decode b_La_end 1 = .ok (.iload_n 1, 1) := by decide +kernel
theorem d_La_end_2 : decode b_La_end 2 = .ok (.invokevirtual 15, 3) := by decide +kernel
theorem d_La_end_5 : decode b_La_end 5 = .ok (.goto 6, 3) := by decide +kernel
theorem d_La_end_8 : decode b_La_end 8 = .ok (.astore_n 2, 1) := by decide +kernel
theorem d_La_end_9 : decode b_La_end 9 = .ok (.iconst 1, 1) := by decide +kernel
theorem d_La_end_10 : decode b_La_end 10 = .ok (.ireturn, 1) := by decide +kernel
theorem d_La_end_11 : decode b_La_end 11 = .ok (.iconst 0, 1) := by decide +kernel
theorem d_La_end_12 : decode b_La_end 12 = .ok (.ireturn, 1) := by decide +kernel
theorem d_La_series_0 : decode b_La_series 0 = .ok (.aload_n 1, 1) := by decide +kernel
theorem d_La_series_1 : decode b_La_series 1 = .ok (.iconst 0, 1) := by decide +kernel
theorem d_La_series_2 : decode b_La_series 2 = .ok (.aload_n 0, 1) := by decide +kernel
theorem d_La_series_3 : decode b_La_series 3 = .ok (.invokevirtual 21, 3) := by decide +kernel
theorem d_La_series_6 : decode b_La_series 6 = .ok (.i2l, 1) := by decide +kernel
theorem d_La_series_7 : decode b_La_series 7 = .ok (.lastore, 1) := by decide +kernel
theorem d_La_series_8 : decode b_La_series 8 = .ok (.goto 6, 3) := by decide +kernel
theorem d_La_series_11 : decode b_La_series 11 = .ok (.astore_n 2, 1) := by decide +kernel
theorem d_La_series_12 : decode b_La_series 12 = .ok (.iconst 1, 1) := by decide +kernel
theorem d_La_series_13 : decode b_La_series 13 = .ok (.ireturn, 1) := by decide +kernel
theorem d_La_series_14 : decode b_La_series 14 = .ok (.iconst 0, 1) := by decide +kernel
theorem d_La_series_15 : decode b_La_series 15 = .ok (.ireturn, 1) := by decide +kernel
theorem d_La_fault_0 : decode b_La_fault 0 = .ok (.aload_n 2, 1) := by decide +kernel
theorem d_La_fault_1 : decode b_La_fault 1 = .ok (.iconst 0, 1) := by decide +kernel
theorem d_La_fault_2 : decode b_La_fault 2 = .ok (.aload_n 0, 1) := by decide +kernel
theorem d_La_fault_3 : decode b_La_fault 3 = .ok (.iload_n 1, 1) := by decide +kernel
theorem d_La_fault_4 : decode b_La_fault 4 = .ok (.invokevirtual 25, 3) := by decide +kernel
theorem d_La_fault_7 : decode b_La_fault 7 = .ok (.i2l, 1) := by decide +kernel
theorem d_La_fault_8 : decode b_La_fault 8 = .ok (.lastore, 1) := by decide +kernel
theorem d_La_fault_9 : decode b_La_fault 9 = .ok (.goto 6, 3) := by decide +kernel
theorem d_La_fault_12 : decode b_La_fault 12 = .ok (.astore_n 3, 1) := by decide +kernel
theorem d_La_fault_13 : decode b_La_fault 13 = .ok (.iconst 1, 1) := by decide +kernel
theorem d_La_fault_14 : decode b_La_fault 14 = .ok (.ireturn, 1) := by decide +kernel
theorem d_La_fault_15 : decode b_La_fault 15 = .ok (.iconst 0, 1) := by decide +kernel
theorem d_La_fault_16 : decode b_La_fault 16 = .ok (.ireturn, 1) := by decide +kernel
theorem d_La_letter_0 : decode b_La_letter 0 = .ok (.aload_n 3, 1) := by decide +kernel
theorem d_La_letter_1 : decode b_La_letter 1 = .ok (.iconst 0, 1) := by decide +kernel
theorem d_La_letter_2 : decode b_La_letter 2 = .ok (.aload_n 0, 1) := by decide +kernel
theorem d_La_letter_3 : decode b_La_letter 3 = .ok (.iload_n 1, 1) := by decide +kernel
theorem d_La_letter_4 : decode b_La_letter 4 = .ok (.iload_n 2, 1) := by decide +kernel
theorem d_La_letter_5 : decode b_La_letter 5 = .ok (.invokevirtual 31, 3) := by decide +kernel
theorem d_La_letter_8 : decode b_La_letter 8 = .ok (.i2l, 1) := by decide +kernel
theorem d_La_letter_9 : decode b_La_letter 9 = .ok (.lastore, 1) := by decide +kernel
theorem d_La_letter_10 : decode b_La_letter 10 = .ok (.goto 7, 3) := by decide +kernel
theorem d_La_letter_13 : decode b_La_letter 13 = .ok (.astore 4, 2) := by decide +kernel
theorem d_La_letter_15 : decode b_La_letter 15 = .ok (.iconst 1, 1) := by decide +kernel
theorem d_La_letter_16 : decode b_La_letter 16 = .ok (.ireturn, 1) := by decide +kernel
theorem d_La_letter_17 : decode b_La_letter 17 = .ok (.iconst 0, 1) := by decide +kernel
theorem d_La_letter_18 : decode b_La_letter 18 = .ok (.ireturn, 1) := by decide +kernel
theorem d_La_append_0 : decode b_La_append 0 = .ok (.aload 6, 2) := by decide +kernel
theorem d_La_append_2 : decode b_La_append 2 = .ok (.iconst 0, 1) := by decide +kernel
theorem d_La_append_3 : decode b_La_append 3 = .ok (.aload_n 0, 1) := by decide +kernel
theorem d_La_append_4 : decode b_La_append 4 = .ok (.iload_n 1, 1) := by decide +kernel
theorem d_La_append_5 : decode b_La_append 5 = .ok (.lload_n 2, 1) := by decide +kernel
theorem d_La_append_6 : decode b_La_append 6 = .ok (.lload 4, 2) := by decide +kernel
theorem d_La_append_8 : decode b_La_append 8 = .ok (.invokevirtual 35, 3) := by decide +kernel
theorem d_La_append_11 : decode b_La_append 11 = .ok (.i2l, 1) := by decide +kernel
theorem d_La_append_12 : decode b_La_append 12 = .ok (.lastore, 1) := by decide +kernel
theorem d_La_append_13 : decode b_La_append 13 = .ok (.goto 15, 3) := by decide +kernel
theorem d_La_append_16 : decode b_La_append 16 = .ok (.astore 7, 2) := by decide +kernel
theorem d_La_append_18 : decode b_La_append 18 = .ok (.iconst 1, 1) := by decide +kernel
theorem d_La_append_19 : decode b_La_append 19 = .ok (.ireturn, 1) := by decide +kernel
theorem d_La_append_20 : decode b_La_append 20 = .ok (.astore 7, 2) := by decide +kernel
theorem d_La_append_22 : decode b_La_append 22 = .ok (.iconst 2, 1) := by decide +kernel
theorem d_La_append_23 : decode b_La_append 23 = .ok (.ireturn, 1) := by decide +kernel
theorem d_La_append_24 : decode b_La_append 24 = .ok (.astore 7, 2) := by decide +kernel
theorem d_La_append_26 : decode b_La_append 26 = .ok (.iconst 3, 1) := by decide +kernel
theorem d_La_append_27 : decode b_La_append 27 = .ok (.ireturn, 1) := by decide +kernel
theorem d_La_append_28 : decode b_La_append 28 = .ok (.iconst 0, 1) := by decide +kernel
theorem d_La_append_29 : decode b_La_append 29 = .ok (.ireturn, 1) := by decide +kernel
theorem d_La_bulk_0 : decode b_La_bulk 0 = .ok (.aload_n 2, 1) := by decide +kernel
theorem d_La_bulk_1 : decode b_La_bulk 1 = .ok (.iconst 0, 1) := by decide +kernel
theorem d_La_bulk_2 : decode b_La_bulk 2 = .ok (.aload_n 0, 1) := by decide +kernel
theorem d_La_bulk_3 : decode b_La_bulk 3 = .ok (.iload_n 1, 1) := by decide +kernel
theorem d_La_bulk_4 : decode b_La_bulk 4 = .ok (.invokevirtual 39, 3) := by decide +kernel
theorem d_La_bulk_7 : decode b_La_bulk 7 = .ok (.i2l, 1) := by decide +kernel
theorem d_La_bulk_8 : decode b_La_bulk 8 = .ok (.lastore, 1) := by decide +kernel
theorem d_La_bulk_9 : decode b_La_bulk 9 = .ok (.goto 6, 3) := by decide +kernel
theorem d_La_bulk_12 : decode b_La_bulk 12 = .ok (.astore_n 3, 1) := by decide +kernel
theorem d_La_bulk_13 : decode b_La_bulk 13 = .ok (.iconst 1, 1) := by decide +kernel
theorem d_La_bulk_14 : decode b_La_bulk 14 = .ok (.ireturn, 1) := by decide +kernel
theorem d_La_bulk_15 : decode b_La_bulk 15 = .ok (.iconst 0, 1) := by decide +kernel
theorem d_La_bulk_16 : decode b_La_bulk 16 = .ok (.ireturn, 1) := by decide +kernel
theorem d_La_delete_0 : decode b_La_delete 0 = .ok (.aload 6, 2) := by decide +kernel
theorem d_La_delete_2 : decode b_La_delete 2 = .ok (.iconst 0, 1) := by decide +kernel
theorem d_La_delete_3 : decode b_La_delete 3 = .ok (.aload_n 0, 1) := by decide +kernel
theorem d_La_delete_4 : decode b_La_delete 4 = .ok (.iload_n 1, 1) := by decide +kernel
theorem d_La_delete_5 : decode b_La_delete 5 = .ok (.lload_n 2, 1) := by decide +kernel
theorem d_La_delete_6 : decode b_La_delete 6 = .ok (.lload 4, 2) := by decide +kernel
theorem d_La_delete_8 : decode b_La_delete 8 = .ok (.invokevirtual 42, 3) := by decide +kernel
theorem d_La_delete_11 : decode b_La_delete 11 = .ok (.i2l, 1) := by decide +kernel
theorem d_La_delete_12 : decode b_La_delete 12 = .ok (.lastore, 1) := by decide +kernel
theorem d_La_delete_13 : decode b_La_delete 13 = .ok (.goto 15, 3) := by decide +kernel
theorem d_La_delete_16 : decode b_La_delete 16 = .ok (.astore 7, 2) := by decide +kernel
theorem d_La_delete_18 : decode b_La_delete 18 = .ok (.iconst 1, 1) := by decide +kernel
theorem d_La_delete_19 : decode b_La_delete 19 = .ok (.ireturn, 1) := by decide +kernel
theorem d_La_delete_20 : decode b_La_delete 20 = .ok (.astore 7, 2) := by decide +kernel
theorem d_La_delete_22 : decode b_La_delete 22 = .ok (.iconst 2, 1) := by decide +kernel
theorem d_La_delete_23 : decode b_La_delete 23 = .ok (.ireturn, 1) := by decide +kernel
theorem d_La_delete_24 : decode b_La_delete 24 = .ok (.astore 7, 2) := by decide +kernel
theorem d_La_delete_26 : decode b_La_delete 26 = .ok (.iconst 3, 1) := by decide +kernel
theorem d_La_delete_27 : decode b_La_delete 27 = .ok (.ireturn, 1) := by decide +kernel
theorem d_La_delete_28 : decode b_La_delete 28 = .ok (.iconst 0, 1) := by decide +kernel
theorem d_La_delete_29 : decode b_La_delete 29 = .ok (.ireturn, 1) := by decide +kernel
theorem d_La_retain_0 : decode b_La_retain 0 = .ok (.aload_n 3, 1) := by decide +kernel
theorem d_La_retain_1 : decode b_La_retain 1 = .ok (.iconst 0, 1) := by decide +kernel
theorem d_La_retain_2 : decode b_La_retain 2 = .ok (.aload_n 0, 1) := by decide +kernel
theorem d_La_retain_3 : decode b_La_retain 3 = .ok (.lload_n 1, 1) := by decide +kernel
theorem d_La_retain_4 : decode b_La_retain 4 = .ok (.invokevirtual 45, 3) := by decide +kernel
theorem d_La_retain_7 : decode b_La_retain 7 = .ok (.i2l, 1) := by decide +kernel
theorem d_La_retain_8 : decode b_La_retain 8 = .ok (.lastore, 1) := by decide +kernel
theorem d_La_retain_9 : decode b_La_retain 9 = .ok (.goto 7, 3) := by decide +kernel
theorem d_La_retain_12 : decode b_La_retain 12 = .ok (.astore 4, 2) := by decide +kernel
theorem d_La_retain_14 : decode b_La_retain 14 = .ok (.iconst 1, 1) := by decide +kernel
theorem d_La_retain_15 : decode b_La_retain 15 = .ok (.ireturn, 1) := by decide +kernel
theorem d_La_retain_16 : decode b_La_retain 16 = .ok (.iconst 0, 1) := by decide +kernel
theorem d_La_retain_17 : decode b_La_retain 17 = .ok (.ireturn, 1) := by decide +kernel
theorem d_La_ask_0 : decode b_La_ask 0 = .ok (.aload 6, 2) := by decide +kernel
theorem d_La_ask_2 : decode b_La_ask 2 = .ok (.iconst 0, 1) := by decide +kernel
theorem d_La_ask_3 : decode b_La_ask 3 = .ok (.aload_n 0, 1) := by decide +kernel
theorem d_La_ask_4 : decode b_La_ask 4 = .ok (.lload_n 1, 1) := by decide +kernel
theorem d_La_ask_5 : decode b_La_ask 5 = .ok (.lload_n 3, 1) := by decide +kernel
theorem d_La_ask_6 : decode b_La_ask 6 = .ok (.iload 5, 2) := by decide +kernel
theorem d_La_ask_8 : decode b_La_ask 8 = .ok (.invokevirtual 49, 3) := by decide +kernel
theorem d_La_ask_11 : decode b_La_ask 11 = .ok (.i2l, 1) := by decide +kernel
theorem d_La_ask_12 : decode b_La_ask 12 = .ok (.lastore, 1) := by decide +kernel
theorem d_La_ask_13 : decode b_La_ask 13 = .ok (.goto 7, 3) := by decide +kernel
theorem d_La_ask_16 : decode b_La_ask 16 = .ok (.astore 7, 2) := by decide +kernel
theorem d_La_ask_18 : decode b_La_ask 18 = .ok (.iconst 1, 1) := by decide +kernel
theorem d_La_ask_19 : decode b_La_ask 19 = .ok (.ireturn, 1) := by decide +kernel
theorem d_La_ask_20 : decode b_La_ask 20 = .ok (.iconst 0, 1) := by decide +kernel
theorem d_La_ask_21 : decode b_La_ask 21 = .ok (.ireturn, 1) := by decide +kernel
theorem d_La_text_0 : decode b_La_text 0 = .ok (.aload 4, 2) := by decide +kernel
theorem d_La_text_2 : decode b_La_text 2 = .ok (.iconst 0, 1) := by decide +kernel
theorem d_La_text_3 : decode b_La_text 3 = .ok (.aload_n 0, 1) := by decide +kernel
theorem d_La_text_4 : decode b_La_text 4 = .ok (.iload_n 1, 1) := by decide +kernel
theorem d_La_text_5 : decode b_La_text 5 = .ok (.iload_n 2, 1) := by decide +kernel
theorem d_La_text_6 : decode b_La_text 6 = .ok (.iload_n 3, 1) := by decide +kernel
theorem d_La_text_7 : decode b_La_text 7 = .ok (.invokevirtual 53, 3) := by decide +kernel
theorem d_La_text_10 : decode b_La_text 10 = .ok (.i2l, 1) := by decide +kernel
theorem d_La_text_11 : decode b_La_text 11 = .ok (.lastore, 1) := by decide +kernel
theorem d_La_text_12 : decode b_La_text 12 = .ok (.goto 7, 3) := by decide +kernel
theorem d_La_text_15 : decode b_La_text 15 = .ok (.astore 5, 2) := by decide +kernel
theorem d_La_text_17 : decode b_La_text 17 = .ok (.iconst 1, 1) := by decide +kernel
theorem d_La_text_18 : decode b_La_text 18 = .ok (.ireturn, 1) := by decide +kernel
theorem d_La_text_19 : decode b_La_text 19 = .ok (.iconst 0, 1) := by decide +kernel
theorem d_La_text_20 : decode b_La_text 20 = .ok (.ireturn, 1) := by decide +kernel
theorem d_La_isThere_0 : decode b_La_isThere 0 = .ok (.aload_n 3, 1) := by decide +kernel
theorem d_La_isThere_1 : decode b_La_isThere 1 = .ok (.iconst 0, 1) := by decide +kernel
theorem d_La_isThere_2 : decode b_La_isThere 2 = .ok (.aload_n 0, 1) := by decide +kernel
theorem d_La_isThere_3 : decode b_La_isThere 3 = .ok (.iload_n 1, 1) := by decide +kernel
theorem d_La_isThere_4 : decode b_La_isThere 4 = .ok (.iload_n 2, 1) := by decide +kernel
theorem d_La_isThere_5 : decode b_La_isThere 5 = .ok (.invokevirtual 57, 3) := by decide +kernel
theorem d_La_isThere_8 : decode b_La_isThere 8 = .ok (.ifCond .eq 7, 3) := by decide +kernel
theorem d_La_isThere_11 : decode b_La_isThere 11 = .ok (.lconst 1, 1) := by decide +kernel
theorem d_La_isThere_12 : decode b_La_isThere 12 = .ok (.goto 4, 3) := by decide +kernel
theorem d_La_isThere_15 : decode b_La_isThere 15 = .ok (.lconst 0, 1) := by decide +kernel
theorem d_La_isThere_16 : decode b_La_isThere 16 = .ok (.lastore, 1) := by decide +kernel
theorem d_La_isThere_17 : decode b_La_isThere 17 = .ok (.goto 7, 3) := by decide +kernel
theorem d_La_isThere_20 : decode b_La_isThere 20 = .ok (.astore 4, 2) := by decide +kernel
theorem d_La_isThere_22 : decode b_La_isThere 22 = .ok (.iconst 1, 1) := by decide +kernel
theorem d_La_isThere_23 : decode b_La_isThere 23 = .ok (.ireturn, 1) := by decide +kernel
theorem d_La_isThere_24 : decode b_La_isThere 24 = .ok (.iconst 0, 1) := by decide +kernel
theorem d_La_isThere_25 : decode b_La_isThere 25 = .ok (.ireturn, 1) := by decide +kernel
theorem d_La_cell1_0 : decode b_La_cell1 0 = .ok (.aload_n 3, 1) := by decide +kernel
theorem d_La_cell1_1 : decode b_La_cell1 1 = .ok (.iconst 0, 1) := by decide +kernel
theorem d_La_cell1_2 : decode b_La_cell1 2 = .ok (.aload_n 0, 1) := by decide +kernel
theorem d_La_cell1_3 : decode b_La_cell1 3 = .ok (.iload_n 1, 1) := by decide +kernel
theorem d_La_cell1_4 : decode b_La_cell1 4 = .ok (.iload_n 2, 1) := by decide +kernel
theorem d_La_cell1_5 : decode b_La_cell1 5 = .ok (.invokevirtual 61, 3) := by decide +kernel
theorem d_La_cell1_8 : decode b_La_cell1 8 = .ok (.lastore, 1) := by decide +kernel
theorem d_La_cell1_9 : decode b_La_cell1 9 = .ok (.goto 7, 3) := by decide +kernel
theorem d_La_cell1_12 : decode b_La_cell1 12 = .ok (.astore 4, 2) := by decide +kernel
theorem d_La_cell1_14 : decode b_La_cell1 14 = .ok (.iconst 1, 1) := by decide +kernel
theorem d_La_cell1_15 : decode b_La_cell1 15 = .ok (.ireturn, 1) := by decide +kernel
theorem d_La_cell1_16 : decode b_La_cell1 16 = .ok (.iconst 0, 1) := by decide +kernel
theorem d_La_cell1_17 : decode b_La_cell1 17 = .ok (.ireturn, 1) := by decide +kernel
theorem d_La_last_0 : decode b_La_last 0 = .ok (.aload_n 2, 1) := by decide +kernel
theorem d_La_last_1 : decode b_La_last 1 = .ok (.iconst 0, 1) := by decide +kernel
theorem d_La_last_2 : decode b_La_last 2 = .ok (.aload_n 0, 1) := by decide +kernel
theorem d_La_last_3 : decode b_La_last 3 = .ok (.iload_n 1, 1) := by decide +kernel
theorem d_La_last_4 : decode b_La_last 4 = .ok (.invokevirtual 65, 3) := by decide +kernel
theorem d_La_last_7 : decode b_La_last 7 = .ok (.lastore, 1) := by decide +kernel
theorem d_La_last_8 : decode b_La_last 8 = .ok (.goto 6, 3) := by decide +kernel
theorem d_La_last_11 : decode b_La_last 11 = .ok (.astore_n 3, 1) := by decide +kernel
theorem d_La_last_12 : decode b_La_last 12 = .ok (.iconst 1, 1) := by decide +kernel
theorem d_La_last_13 : decode b_La_last 13 = .ok (.ireturn, 1) := by decide +kernel
theorem d_La_last_14 : decode b_La_last 14 = .ok (.iconst 0, 1) := by decide +kernel
theorem d_La_last_15 : decode b_La_last 15 = .ok (.ireturn, 1) := by decide +kernel
theorem d_La_pack_0 : decode b_La_pack 0 = .ok (.aload_n 1, 1) := by decide +kernel
theorem d_La_pack_1 : decode b_La_pack 1 = .ok (.iconst 0, 1) := by decide +kernel
theorem d_La_pack_2 : decode b_La_pack 2 = .ok (.aload_n 0, 1) := by decide +kernel
theorem d_La_pack_3 : decode b_La_pack 3 = .ok (.invokevirtual 69, 3) := by decide +kernel
theorem d_La_pack_6 : decode b_La_pack 6 = .ok (.i2l, 1) := by decide +kernel
theorem d_La_pack_7 : decode b_La_pack 7 = .ok (.lastore, 1) := by decide +kernel
theorem d_La_pack_8 : decode b_La_pack 8 = .ok (.goto 6, 3) := by decide +kernel
theorem d_La_pack_11 : decode b_La_pack 11 = .ok (.astore_n 2, 1) := by decide +kernel
theorem d_La_pack_12 : decode b_La_pack 12 = .ok (.iconst 1, 1) := by decide +kernel
theorem d_La_pack_13 : decode b_La_pack 13 = .ok (.ireturn, 1) := by decide +kernel
theorem d_La_pack_14 : decode b_La_pack 14 = .ok (.iconst 0, 1) := by decide +kernel
theorem d_La_pack_15 : decode b_La_pack 15 = .ok (.ireturn, 1) := by decide +kernel
theorem d_La_count_0 : decode b_La_count 0 = .ok (.aload_n 2, 1) := by decide +kernel
theorem d_La_count_1 : decode b_La_count 1 = .ok (.iconst 0, 1) := by decide +kernel
theorem d_La_count_2 : decode b_La_count 2 = .ok (.aload_n 0, 1) := by decide +kernel
theorem d_La_count_3 : decode b_La_count 3 = .ok (.iload_n 1, 1) := by decide +kernel
theorem d_La_count_4 : decode b_La_count 4 = .ok (.invokevirtual 72, 3) := by decide +kernel
theorem d_La_count_7 : decode b_La_count 7 = .ok (.i2l, 1) := by decide +kernel
theorem d_La_count_8 : decode b_La_count 8 = .ok (.lastore, 1) := by decide +kernel
theorem d_La_count_9 : decode b_La_count 9 = .ok (.goto 6, 3) := by decide +kernel
theorem d_La_count_12 : decode b_La_count 12 = .ok (.astore_n 3, 1) := by decide +kernel
theorem d_La_count_13 : decode b_La_count 13 = .ok (.iconst 1, 1) := by decide +kernel
theorem d_La_count_14 : decode b_La_count 14 = .ok (.ireturn, 1) := by decide +kernel
theorem d_La_count_15 : decode b_La_count 15 = .ok (.iconst 0, 1) := by decide +kernel
theorem d_La_count_16 : decode b_La_count 16 = .ok (.ireturn, 1) := by decide +kernel
theorem d_La_law_0 : decode code 0 = .ok (.new 8, 3) := by decide +kernel
theorem d_La_law_3 : decode code 3 = .ok (.dup, 1) := by decide +kernel
theorem d_La_law_4 : decode code 4 = .ok (.invokespecial 75, 3) := by decide +kernel
theorem d_La_law_7 : decode code 7 = .ok (.astore_n 1, 1) := by decide +kernel
theorem d_La_law_8 : decode code 8 = .ok (.new 76, 3) := by decide +kernel
theorem d_La_law_11 : decode code 11 = .ok (.dup, 1) := by decide +kernel
theorem d_La_law_12 : decode code 12 = .ok (.invokespecial 78, 3) := by decide +kernel
theorem d_La_law_15 : decode code 15 = .ok (.astore_n 2, 1) := by decide +kernel
theorem d_La_law_16 : decode code 16 = .ok (.iconst 1, 1) := by decide +kernel
theorem d_La_law_17 : decode code 17 = .ok (.newarray .long, 2) := by decide +kernel
theorem d_La_law_19 : decode code 19 = .ok (.astore_n 3, 1) := by decide +kernel
theorem d_La_law_20 : decode code 20 = .ok (.iconst 0, 1) := by decide +kernel
theorem d_La_law_21 : decode code 21 = .ok (.istore 4, 2) := by decide +kernel
theorem d_La_law_23 : decode code 23 = .ok (.iload 4, 2) := by decide +kernel
theorem d_La_law_25 : decode code 25 = .ok (.aload_n 0, 1) := by decide +kernel
theorem d_La_law_26 : decode code 26 = .ok (.arraylength, 1) := by decide +kernel
theorem d_La_law_27 : decode code 27 = .ok (.bipush 6, 2) := by decide +kernel
theorem d_La_law_29 : decode code 29 = .ok (.isub, 1) := by decide +kernel
theorem d_La_law_30 : decode code 30 = .ok (.if_icmp .gt 1374, 3) := by decide +kernel
theorem d_La_law_33 : decode code 33 = .ok (.aload_n 0, 1) := by decide +kernel
theorem d_La_law_34 : decode code 34 = .ok (.iload 4, 2) := by decide +kernel
theorem d_La_law_36 : decode code 36 = .ok (.iaload, 1) := by decide +kernel
theorem d_La_law_37 : decode code 37 = .ok (.bipush 31, 2) := by decide +kernel
theorem d_La_law_39 : decode code 39 = .ok (.iand, 1) := by decide +kernel
theorem d_La_law_40 : decode code 40 = .ok (.tableswitch 1358 0 16 #[84, 188, 224, 268, 324, 392, 536, 592, 736, 824, 968, 981, 1061, 1136, 1203, 1258, 1302], 84) := by decide +kernel
theorem d_La_law_124 : decode code 124 = .ok (.aload_n 1, 1) := by decide +kernel
theorem d_La_law_125 : decode code 125 = .ok (.aload_n 0, 1) := by decide +kernel
theorem d_La_law_126 : decode code 126 = .ok (.iload 4, 2) := by decide +kernel
theorem d_La_law_128 : decode code 128 = .ok (.iconst 1, 1) := by decide +kernel
theorem d_La_law_129 : decode code 129 = .ok (.iadd, 1) := by decide +kernel
theorem d_La_law_130 : decode code 130 = .ok (.iaload, 1) := by decide +kernel
theorem d_La_law_131 : decode code 131 = .ok (.aload_n 0, 1) := by decide +kernel
theorem d_La_law_132 : decode code 132 = .ok (.iload 4, 2) := by decide +kernel
theorem d_La_law_134 : decode code 134 = .ok (.iconst 2, 1) := by decide +kernel
theorem d_La_law_135 : decode code 135 = .ok (.iadd, 1) := by decide +kernel
theorem d_La_law_136 : decode code 136 = .ok (.iaload, 1) := by decide +kernel
theorem d_La_law_137 : decode code 137 = .ok (.aload_n 0, 1) := by decide +kernel
theorem d_La_law_138 : decode code 138 = .ok (.iload 4, 2) := by decide +kernel
theorem d_La_law_140 : decode code 140 = .ok (.iconst 3, 1) := by decide +kernel
theorem d_La_law_141 : decode code 141 = .ok (.iadd, 1) := by decide +kernel
theorem d_La_law_142 : decode code 142 = .ok (.iaload, 1) := by decide +kernel
theorem d_La_law_143 : decode code 143 = .ok (.aload_n 0, 1) := by decide +kernel
theorem d_La_law_144 : decode code 144 = .ok (.iload 4, 2) := by decide +kernel
theorem d_La_law_146 : decode code 146 = .ok (.iconst 4, 1) := by decide +kernel
theorem d_La_law_147 : decode code 147 = .ok (.iadd, 1) := by decide +kernel
theorem d_La_law_148 : decode code 148 = .ok (.iaload, 1) := by decide +kernel
theorem d_La_law_149 : decode code 149 = .ok (.aload_n 0, 1) := by decide +kernel
theorem d_La_law_150 : decode code 150 = .ok (.iload 4, 2) := by decide +kernel
theorem d_La_law_152 : decode code 152 = .ok (.iconst 5, 1) := by decide +kernel
theorem d_La_law_153 : decode code 153 = .ok (.iadd, 1) := by decide +kernel
theorem d_La_law_154 : decode code 154 = .ok (.iaload, 1) := by decide +kernel
theorem d_La_law_155 : decode code 155 = .ok (.aload_n 3, 1) := by decide +kernel
theorem d_La_law_156 : decode code 156 = .ok (.invokestatic 79, 3) := by decide +kernel
theorem d_La_law_159 : decode code 159 = .ok (.istore 5, 2) := by decide +kernel
theorem d_La_law_161 : decode code 161 = .ok (.aload_n 2, 1) := by decide +kernel
theorem d_La_law_162 : decode code 162 = .ok (.aload_n 0, 1) := by decide +kernel
theorem d_La_law_163 : decode code 163 = .ok (.iload 4, 2) := by decide +kernel
theorem d_La_law_165 : decode code 165 = .ok (.iconst 1, 1) := by decide +kernel
theorem d_La_law_166 : decode code 166 = .ok (.iadd, 1) := by decide +kernel
theorem d_La_law_167 : decode code 167 = .ok (.iaload, 1) := by decide +kernel
theorem d_La_law_168 : decode code 168 = .ok (.aload_n 0, 1) := by decide +kernel
theorem d_La_law_169 : decode code 169 = .ok (.iload 4, 2) := by decide +kernel
theorem d_La_law_171 : decode code 171 = .ok (.iconst 2, 1) := by decide +kernel
theorem d_La_law_172 : decode code 172 = .ok (.iadd, 1) := by decide +kernel
theorem d_La_law_173 : decode code 173 = .ok (.iaload, 1) := by decide +kernel
theorem d_La_law_174 : decode code 174 = .ok (.aload_n 0, 1) := by decide +kernel
theorem d_La_law_175 : decode code 175 = .ok (.iload 4, 2) := by decide +kernel
theorem d_La_law_177 : decode code 177 = .ok (.iconst 3, 1) := by decide +kernel
theorem d_La_law_178 : decode code 178 = .ok (.iadd, 1) := by decide +kernel
theorem d_La_law_179 : decode code 179 = .ok (.iaload, 1) := by decide +kernel
theorem d_La_law_180 : decode code 180 = .ok (.aload_n 0, 1) := by decide +kernel
theorem d_La_law_181 : decode code 181 = .ok (.iload 4, 2) := by decide +kernel
theorem d_La_law_183 : decode code 183 = .ok (.iconst 4, 1) := by decide +kernel
theorem d_La_law_184 : decode code 184 = .ok (.iadd, 1) := by decide +kernel
theorem d_La_law_185 : decode code 185 = .ok (.iaload, 1) := by decide +kernel
theorem d_La_law_186 : decode code 186 = .ok (.aload_n 0, 1) := by decide +kernel
theorem d_La_law_187 : decode code 187 = .ok (.iload 4, 2) := by decide +kernel
theorem d_La_law_189 : decode code 189 = .ok (.iconst 5, 1) := by decide +kernel
theorem d_La_law_190 : decode code 190 = .ok (.iadd, 1) := by decide +kernel
theorem d_La_law_191 : decode code 191 = .ok (.iaload, 1) := by decide +kernel
theorem d_La_law_192 : decode code 192 = .ok (.invokevirtual 84, 3) := by decide +kernel
theorem d_La_law_195 : decode code 195 = .ok (.istore 6, 2) := by decide +kernel
theorem d_La_law_197 : decode code 197 = .ok (.aload_n 2, 1) := by decide +kernel
theorem d_La_law_198 : decode code 198 = .ok (.invokevirtual 85, 3) := by decide +kernel
theorem d_La_law_201 : decode code 201 = .ok (.iload 5, 2) := by decide +kernel
theorem d_La_law_203 : decode code 203 = .ok (.if_icmp .eq 5, 3) := by decide +kernel
theorem d_La_law_206 : decode code 206 = .ok (.iconst 0, 1) := by decide +kernel
theorem d_La_law_207 : decode code 207 = .ok (.ireturn, 1) := by decide +kernel
theorem d_La_law_208 : decode code 208 = .ok (.iload 5, 2) := by decide +kernel
theorem d_La_law_210 : decode code 210 = .ok (.ifCond .ne 15, 3) := by decide +kernel
theorem d_La_law_213 : decode code 213 = .ok (.aload_n 3, 1) := by decide +kernel
theorem d_La_law_214 : decode code 214 = .ok (.iconst 0, 1) := by decide +kernel
theorem d_La_law_215 : decode code 215 = .ok (.laload, 1) := by decide +kernel
theorem d_La_law_216 : decode code 216 = .ok (.iload 6, 2) := by decide +kernel
theorem d_La_law_218 : decode code 218 = .ok (.i2l, 1) := by decide +kernel
theorem d_La_law_219 : decode code 219 = .ok (.lcmp, 1) := by decide +kernel
theorem d_La_law_220 : decode code 220 = .ok (.ifCond .eq 5, 3) := by decide +kernel
theorem d_La_law_223 : decode code 223 = .ok (.iconst 0, 1) := by decide +kernel
theorem d_La_law_224 : decode code 224 = .ok (.ireturn, 1) := by decide +kernel
theorem d_La_law_225 : decode code 225 = .ok (.goto 1173, 3) := by decide +kernel
theorem d_La_law_228 : decode code 228 = .ok (.aload_n 1, 1) := by decide +kernel
theorem d_La_law_229 : decode code 229 = .ok (.aload_n 0, 1) := by decide +kernel
theorem d_La_law_230 : decode code 230 = .ok (.iload 4, 2) := by decide +kernel
theorem d_La_law_232 : decode code 232 = .ok (.iconst 1, 1) := by decide +kernel
theorem d_La_law_233 : decode code 233 = .ok (.iadd, 1) := by decide +kernel
theorem d_La_law_234 : decode code 234 = .ok (.iaload, 1) := by decide +kernel
theorem d_La_law_235 : decode code 235 = .ok (.invokestatic 88, 3) := by decide +kernel
theorem d_La_law_238 : decode code 238 = .ok (.istore 5, 2) := by decide +kernel
theorem d_La_law_240 : decode code 240 = .ok (.aload_n 2, 1) := by decide +kernel
theorem d_La_law_241 : decode code 241 = .ok (.aload_n 0, 1) := by decide +kernel
theorem d_La_law_242 : decode code 242 = .ok (.iload 4, 2) := by decide +kernel
theorem d_La_law_244 : decode code 244 = .ok (.iconst 1, 1) := by decide +kernel
theorem d_La_law_245 : decode code 245 = .ok (.iadd, 1) := by decide +kernel
theorem d_La_law_246 : decode code 246 = .ok (.iaload, 1) := by decide +kernel
theorem d_La_law_247 : decode code 247 = .ok (.invokevirtual 91, 3) := by decide +kernel
theorem d_La_law_250 : decode code 250 = .ok (.aload_n 2, 1) := by decide +kernel
theorem d_La_law_251 : decode code 251 = .ok (.invokevirtual 85, 3) := by decide +kernel
theorem d_La_law_254 : decode code 254 = .ok (.iload 5, 2) := by decide +kernel
theorem d_La_law_256 : decode code 256 = .ok (.if_icmp .eq 5, 3) := by decide +kernel
theorem d_La_law_259 : decode code 259 = .ok (.iconst 0, 1) := by decide +kernel
theorem d_La_law_260 : decode code 260 = .ok (.ireturn, 1) := by decide +kernel
theorem d_La_law_261 : decode code 261 = .ok (.goto 1137, 3) := by decide +kernel
theorem d_La_law_264 : decode code 264 = .ok (.aload_n 1, 1) := by decide +kernel
theorem d_La_law_265 : decode code 265 = .ok (.aload_n 3, 1) := by decide +kernel
theorem d_La_law_266 : decode code 266 = .ok (.invokestatic 92, 3) := by decide +kernel
theorem d_La_law_269 : decode code 269 = .ok (.istore 5, 2) := by decide +kernel
theorem d_La_law_271 : decode code 271 = .ok (.aload_n 2, 1) := by decide +kernel
theorem d_La_law_272 : decode code 272 = .ok (.invokevirtual 95, 3) := by decide +kernel
theorem d_La_law_275 : decode code 275 = .ok (.istore 6, 2) := by decide +kernel
theorem d_La_law_277 : decode code 277 = .ok (.aload_n 2, 1) := by decide +kernel
theorem d_La_law_278 : decode code 278 = .ok (.invokevirtual 85, 3) := by decide +kernel
theorem d_La_law_281 : decode code 281 = .ok (.iload 5, 2) := by decide +kernel
theorem d_La_law_283 : decode code 283 = .ok (.if_icmp .eq 5, 3) := by decide +kernel
theorem d_La_law_286 : decode code 286 = .ok (.iconst 0, 1) := by decide +kernel
theorem d_La_law_287 : decode code 287 = .ok (.ireturn, 1) := by decide +kernel
theorem d_La_law_288 : decode code 288 = .ok (.iload 5, 2) := by decide +kernel
theorem d_La_law_290 : decode code 290 = .ok (.ifCond .ne 15, 3) := by decide +kernel
theorem d_La_law_293 : decode code 293 = .ok (.aload_n 3, 1) := by decide +kernel
theorem d_La_law_294 : decode code 294 = .ok (.iconst 0, 1) := by decide +kernel
theorem d_La_law_295 : decode code 295 = .ok (.laload, 1) := by decide +kernel
theorem d_La_law_296 : decode code 296 = .ok (.iload 6, 2) := by decide +kernel
theorem d_La_law_298 : decode code 298 = .ok (.i2l, 1) := by decide +kernel
theorem d_La_law_299 : decode code 299 = .ok (.lcmp, 1) := by decide +kernel
theorem d_La_law_300 : decode code 300 = .ok (.ifCond .eq 5, 3) := by decide +kernel
theorem d_La_law_303 : decode code 303 = .ok (.iconst 0, 1) := by decide +kernel
theorem d_La_law_304 : decode code 304 = .ok (.ireturn, 1) := by decide +kernel
theorem d_La_law_305 : decode code 305 = .ok (.goto 1093, 3) := by decide +kernel
theorem d_La_law_308 : decode code 308 = .ok (.aload_n 1, 1) := by decide +kernel
theorem d_La_law_309 : decode code 309 = .ok (.aload_n 0, 1) := by decide +kernel
theorem d_La_law_310 : decode code 310 = .ok (.iload 4, 2) := by decide +kernel
theorem d_La_law_312 : decode code 312 = .ok (.iconst 1, 1) := by decide +kernel
theorem d_La_law_313 : decode code 313 = .ok (.iadd, 1) := by decide +kernel
theorem d_La_law_314 : decode code 314 = .ok (.iaload, 1) := by decide +kernel
theorem d_La_law_315 : decode code 315 = .ok (.aload_n 3, 1) := by decide +kernel
theorem d_La_law_316 : decode code 316 = .ok (.invokestatic 96, 3) := by decide +kernel
theorem d_La_law_319 : decode code 319 = .ok (.istore 5, 2) := by decide +kernel
theorem d_La_law_321 : decode code 321 = .ok (.aload_n 2, 1) := by decide +kernel
theorem d_La_law_322 : decode code 322 = .ok (.aload_n 0, 1) := by decide +kernel
theorem d_La_law_323 : decode code 323 = .ok (.iload 4, 2) := by decide +kernel
theorem d_La_law_325 : decode code 325 = .ok (.iconst 1, 1) := by decide +kernel
theorem d_La_law_326 : decode code 326 = .ok (.iadd, 1) := by decide +kernel
theorem d_La_law_327 : decode code 327 = .ok (.iaload, 1) := by decide +kernel
theorem d_La_law_328 : decode code 328 = .ok (.invokevirtual 99, 3) := by decide +kernel
theorem d_La_law_331 : decode code 331 = .ok (.istore 6, 2) := by decide +kernel
theorem d_La_law_333 : decode code 333 = .ok (.aload_n 2, 1) := by decide +kernel
theorem d_La_law_334 : decode code 334 = .ok (.invokevirtual 85, 3) := by decide +kernel
theorem d_La_law_337 : decode code 337 = .ok (.iload 5, 2) := by decide +kernel
theorem d_La_law_339 : decode code 339 = .ok (.if_icmp .eq 5, 3) := by decide +kernel
theorem d_La_law_342 : decode code 342 = .ok (.iconst 0, 1) := by decide +kernel
theorem d_La_law_343 : decode code 343 = .ok (.ireturn, 1) := by decide +kernel
theorem d_La_law_344 : decode code 344 = .ok (.iload 5, 2) := by decide +kernel
theorem d_La_law_346 : decode code 346 = .ok (.ifCond .ne 15, 3) := by decide +kernel
theorem d_La_law_349 : decode code 349 = .ok (.aload_n 3, 1) := by decide +kernel
theorem d_La_law_350 : decode code 350 = .ok (.iconst 0, 1) := by decide +kernel
theorem d_La_law_351 : decode code 351 = .ok (.laload, 1) := by decide +kernel
theorem d_La_law_352 : decode code 352 = .ok (.iload 6, 2) := by decide +kernel
theorem d_La_law_354 : decode code 354 = .ok (.i2l, 1) := by decide +kernel
theorem d_La_law_355 : decode code 355 = .ok (.lcmp, 1) := by decide +kernel
theorem d_La_law_356 : decode code 356 = .ok (.ifCond .eq 5, 3) := by decide +kernel
theorem d_La_law_359 : decode code 359 = .ok (.iconst 0, 1) := by decide +kernel
theorem d_La_law_360 : decode code 360 = .ok (.ireturn, 1) := by decide +kernel
theorem d_La_law_361 : decode code 361 = .ok (.goto 1037, 3) := by decide +kernel
theorem d_La_law_364 : decode code 364 = .ok (.aload_n 1, 1) := by decide +kernel
theorem d_La_law_365 : decode code 365 = .ok (.aload_n 0, 1) := by decide +kernel
theorem d_La_law_366 : decode code 366 = .ok (.iload 4, 2) := by decide +kernel
theorem d_La_law_368 : decode code 368 = .ok (.iconst 1, 1) := by decide +kernel
theorem d_La_law_369 : decode code 369 = .ok (.iadd, 1) := by decide +kernel
theorem d_La_law_370 : decode code 370 = .ok (.iaload, 1) := by decide +kernel
theorem d_La_law_371 : decode code 371 = .ok (.aload_n 0, 1) := by decide +kernel
theorem d_La_law_372 : decode code 372 = .ok (.iload 4, 2) := by decide +kernel
theorem d_La_law_374 : decode code 374 = .ok (.iconst 2, 1) := by decide +kernel
theorem d_La_law_375 : decode code 375 = .ok (.iadd, 1) := by decide +kernel
theorem d_La_law_376 : decode code 376 = .ok (.iaload, 1) := by decide +kernel
theorem d_La_law_377 : decode code 377 = .ok (.aload_n 3, 1) := by decide +kernel
theorem d_La_law_378 : decode code 378 = .ok (.invokestatic 100, 3) := by decide +kernel
theorem d_La_law_381 : decode code 381 = .ok (.istore 5, 2) := by decide +kernel
theorem d_La_law_383 : decode code 383 = .ok (.aload_n 2, 1) := by decide +kernel
theorem d_La_law_384 : decode code 384 = .ok (.aload_n 0, 1) := by decide +kernel
theorem d_La_law_385 : decode code 385 = .ok (.iload 4, 2) := by decide +kernel
theorem d_La_law_387 : decode code 387 = .ok (.iconst 1, 1) := by decide +kernel
theorem d_La_law_388 : decode code 388 = .ok (.iadd, 1) := by decide +kernel
theorem d_La_law_389 : decode code 389 = .ok (.iaload, 1) := by decide +kernel
theorem d_La_law_390 : decode code 390 = .ok (.aload_n 0, 1) := by decide +kernel
theorem d_La_law_391 : decode code 391 = .ok (.iload 4, 2) := by decide +kernel
theorem d_La_law_393 : decode code 393 = .ok (.iconst 2, 1) := by decide +kernel
theorem d_La_law_394 : decode code 394 = .ok (.iadd, 1) := by decide +kernel
theorem d_La_law_395 : decode code 395 = .ok (.iaload, 1) := by decide +kernel
theorem d_La_law_396 : decode code 396 = .ok (.invokevirtual 103, 3) := by decide +kernel
theorem d_La_law_399 : decode code 399 = .ok (.istore 6, 2) := by decide +kernel
theorem d_La_law_401 : decode code 401 = .ok (.aload_n 2, 1) := by decide +kernel
theorem d_La_law_402 : decode code 402 = .ok (.invokevirtual 85, 3) := by decide +kernel
theorem d_La_law_405 : decode code 405 = .ok (.iload 5, 2) := by decide +kernel
theorem d_La_law_407 : decode code 407 = .ok (.if_icmp .eq 5, 3) := by decide +kernel
theorem d_La_law_410 : decode code 410 = .ok (.iconst 0, 1) := by decide +kernel
theorem d_La_law_411 : decode code 411 = .ok (.ireturn, 1) := by decide +kernel
theorem d_La_law_412 : decode code 412 = .ok (.iload 5, 2) := by decide +kernel
theorem d_La_law_414 : decode code 414 = .ok (.ifCond .ne 15, 3) := by decide +kernel
theorem d_La_law_417 : decode code 417 = .ok (.aload_n 3, 1) := by decide +kernel
theorem d_La_law_418 : decode code 418 = .ok (.iconst 0, 1) := by decide +kernel
theorem d_La_law_419 : decode code 419 = .ok (.laload, 1) := by decide +kernel
theorem d_La_law_420 : decode code 420 = .ok (.iload 6, 2) := by decide +kernel
theorem d_La_law_422 : decode code 422 = .ok (.i2l, 1) := by decide +kernel
theorem d_La_law_423 : decode code 423 = .ok (.lcmp, 1) := by decide +kernel
theorem d_La_law_424 : decode code 424 = .ok (.ifCond .eq 5, 3) := by decide +kernel
theorem d_La_law_427 : decode code 427 = .ok (.iconst 0, 1) := by decide +kernel
theorem d_La_law_428 : decode code 428 = .ok (.ireturn, 1) := by decide +kernel
theorem d_La_law_429 : decode code 429 = .ok (.goto 969, 3) := by decide +kernel
theorem d_La_law_432 : decode code 432 = .ok (.aload_n 1, 1) := by decide +kernel
theorem d_La_law_433 : decode code 433 = .ok (.aload_n 0, 1) := by decide +kernel
theorem d_La_law_434 : decode code 434 = .ok (.iload 4, 2) := by decide +kernel
theorem d_La_law_436 : decode code 436 = .ok (.iconst 1, 1) := by decide +kernel
theorem d_La_law_437 : decode code 437 = .ok (.iadd, 1) := by decide +kernel
theorem d_La_law_438 : decode code 438 = .ok (.iaload, 1) := by decide +kernel
theorem d_La_law_439 : decode code 439 = .ok (.aload_n 0, 1) := by decide +kernel
theorem d_La_law_440 : decode code 440 = .ok (.iload 4, 2) := by decide +kernel
theorem d_La_law_442 : decode code 442 = .ok (.iconst 2, 1) := by decide +kernel
theorem d_La_law_443 : decode code 443 = .ok (.iadd, 1) := by decide +kernel
theorem d_La_law_444 : decode code 444 = .ok (.iaload, 1) := by decide +kernel
theorem d_La_law_445 : decode code 445 = .ok (.i2l, 1) := by decide +kernel
theorem d_La_law_446 : decode code 446 = .ok (.bipush 32, 2) := by decide +kernel
theorem d_La_law_448 : decode code 448 = .ok (.lshl, 1) := by decide +kernel
theorem d_La_law_449 : decode code 449 = .ok (.aload_n 0, 1) := by decide +kernel
theorem d_La_law_450 : decode code 450 = .ok (.iload 4, 2) := by decide +kernel
theorem d_La_law_452 : decode code 452 = .ok (.iconst 3, 1) := by decide +kernel
theorem d_La_law_453 : decode code 453 = .ok (.iadd, 1) := by decide +kernel
theorem d_La_law_454 : decode code 454 = .ok (.iaload, 1) := by decide +kernel
theorem d_La_law_455 : decode code 455 = .ok (.i2l, 1) := by decide +kernel
theorem d_La_law_456 : decode code 456 = .ok (.ldc2_w 104, 3) := by decide +kernel
theorem d_La_law_459 : decode code 459 = .ok (.land, 1) := by decide +kernel
theorem d_La_law_460 : decode code 460 = .ok (.lor, 1) := by decide +kernel
theorem d_La_law_461 : decode code 461 = .ok (.aload_n 0, 1) := by decide +kernel
theorem d_La_law_462 : decode code 462 = .ok (.iload 4, 2) := by decide +kernel
theorem d_La_law_464 : decode code 464 = .ok (.iconst 4, 1) := by decide +kernel
theorem d_La_law_465 : decode code 465 = .ok (.iadd, 1) := by decide +kernel
theorem d_La_law_466 : decode code 466 = .ok (.iaload, 1) := by decide +kernel
theorem d_La_law_467 : decode code 467 = .ok (.i2l, 1) := by decide +kernel
theorem d_La_law_468 : decode code 468 = .ok (.bipush 32, 2) := by decide +kernel
theorem d_La_law_470 : decode code 470 = .ok (.lshl, 1) := by decide +kernel
theorem d_La_law_471 : decode code 471 = .ok (.aload_n 0, 1) := by decide +kernel
theorem d_La_law_472 : decode code 472 = .ok (.iload 4, 2) := by decide +kernel
theorem d_La_law_474 : decode code 474 = .ok (.iconst 5, 1) := by decide +kernel
theorem d_La_law_475 : decode code 475 = .ok (.iadd, 1) := by decide +kernel
theorem d_La_law_476 : decode code 476 = .ok (.iaload, 1) := by decide +kernel
theorem d_La_law_477 : decode code 477 = .ok (.i2l, 1) := by decide +kernel
theorem d_La_law_478 : decode code 478 = .ok (.ldc2_w 104, 3) := by decide +kernel
theorem d_La_law_481 : decode code 481 = .ok (.land, 1) := by decide +kernel
theorem d_La_law_482 : decode code 482 = .ok (.lor, 1) := by decide +kernel
theorem d_La_law_483 : decode code 483 = .ok (.aload_n 3, 1) := by decide +kernel
theorem d_La_law_484 : decode code 484 = .ok (.invokestatic 106, 3) := by decide +kernel
theorem d_La_law_487 : decode code 487 = .ok (.istore 5, 2) := by decide +kernel
theorem d_La_law_489 : decode code 489 = .ok (.aload_n 2, 1) := by decide +kernel
theorem d_La_law_490 : decode code 490 = .ok (.aload_n 0, 1) := by decide +kernel
theorem d_La_law_491 : decode code 491 = .ok (.iload 4, 2) := by decide +kernel
theorem d_La_law_493 : decode code 493 = .ok (.iconst 1, 1) := by decide +kernel
theorem d_La_law_494 : decode code 494 = .ok (.iadd, 1) := by decide +kernel
theorem d_La_law_495 : decode code 495 = .ok (.iaload, 1) := by decide +kernel
theorem d_La_law_496 : decode code 496 = .ok (.aload_n 0, 1) := by decide +kernel
theorem d_La_law_497 : decode code 497 = .ok (.iload 4, 2) := by decide +kernel
theorem d_La_law_499 : decode code 499 = .ok (.iconst 2, 1) := by decide +kernel
theorem d_La_law_500 : decode code 500 = .ok (.iadd, 1) := by decide +kernel
theorem d_La_law_501 : decode code 501 = .ok (.iaload, 1) := by decide +kernel
theorem d_La_law_502 : decode code 502 = .ok (.i2l, 1) := by decide +kernel
theorem d_La_law_503 : decode code 503 = .ok (.bipush 32, 2) := by decide +kernel
theorem d_La_law_505 : decode code 505 = .ok (.lshl, 1) := by decide +kernel
theorem d_La_law_506 : decode code 506 = .ok (.aload_n 0, 1) := by decide +kernel
theorem d_La_law_507 : decode code 507 = .ok (.iload 4, 2) := by decide +kernel
theorem d_La_law_509 : decode code 509 = .ok (.iconst 3, 1) := by decide +kernel
theorem d_La_law_510 : decode code 510 = .ok (.iadd, 1) := by decide +kernel
theorem d_La_law_511 : decode code 511 = .ok (.iaload, 1) := by decide +kernel
theorem d_La_law_512 : decode code 512 = .ok (.i2l, 1) := by decide +kernel
theorem d_La_law_513 : decode code 513 = .ok (.ldc2_w 104, 3) := by decide +kernel
theorem d_La_law_516 : decode code 516 = .ok (.land, 1) := by decide +kernel
theorem d_La_law_517 : decode code 517 = .ok (.lor, 1) := by decide +kernel
theorem d_La_law_518 : decode code 518 = .ok (.aload_n 0, 1) := by decide +kernel
theorem d_La_law_519 : decode code 519 = .ok (.iload 4, 2) := by decide +kernel
theorem d_La_law_521 : decode code 521 = .ok (.iconst 4, 1) := by decide +kernel
theorem d_La_law_522 : decode code 522 = .ok (.iadd, 1) := by decide +kernel
theorem d_La_law_523 : decode code 523 = .ok (.iaload, 1) := by decide +kernel
theorem d_La_law_524 : decode code 524 = .ok (.i2l, 1) := by decide +kernel
theorem d_La_law_525 : decode code 525 = .ok (.bipush 32, 2) := by decide +kernel
theorem d_La_law_527 : decode code 527 = .ok (.lshl, 1) := by decide +kernel
theorem d_La_law_528 : decode code 528 = .ok (.aload_n 0, 1) := by decide +kernel
theorem d_La_law_529 : decode code 529 = .ok (.iload 4, 2) := by decide +kernel
theorem d_La_law_531 : decode code 531 = .ok (.iconst 5, 1) := by decide +kernel
theorem d_La_law_532 : decode code 532 = .ok (.iadd, 1) := by decide +kernel
theorem d_La_law_533 : decode code 533 = .ok (.iaload, 1) := by decide +kernel
theorem d_La_law_534 : decode code 534 = .ok (.i2l, 1) := by decide +kernel
theorem d_La_law_535 : decode code 535 = .ok (.ldc2_w 104, 3) := by decide +kernel
theorem d_La_law_538 : decode code 538 = .ok (.land, 1) := by decide +kernel
theorem d_La_law_539 : decode code 539 = .ok (.lor, 1) := by decide +kernel
theorem d_La_law_540 : decode code 540 = .ok (.invokevirtual 109, 3) := by decide +kernel
theorem d_La_law_543 : decode code 543 = .ok (.istore 6, 2) := by decide +kernel
theorem d_La_law_545 : decode code 545 = .ok (.aload_n 2, 1) := by decide +kernel
theorem d_La_law_546 : decode code 546 = .ok (.invokevirtual 85, 3) := by decide +kernel
theorem d_La_law_549 : decode code 549 = .ok (.iload 5, 2) := by decide +kernel
theorem d_La_law_551 : decode code 551 = .ok (.if_icmp .eq 5, 3) := by decide +kernel
theorem d_La_law_554 : decode code 554 = .ok (.iconst 0, 1) := by decide +kernel
theorem d_La_law_555 : decode code 555 = .ok (.ireturn, 1) := by decide +kernel
theorem d_La_law_556 : decode code 556 = .ok (.iload 5, 2) := by decide +kernel
theorem d_La_law_558 : decode code 558 = .ok (.ifCond .ne 15, 3) := by decide +kernel
theorem d_La_law_561 : decode code 561 = .ok (.aload_n 3, 1) := by decide +kernel
theorem d_La_law_562 : decode code 562 = .ok (.iconst 0, 1) := by decide +kernel
theorem d_La_law_563 : decode code 563 = .ok (.laload, 1) := by decide +kernel
theorem d_La_law_564 : decode code 564 = .ok (.iload 6, 2) := by decide +kernel
theorem d_La_law_566 : decode code 566 = .ok (.i2l, 1) := by decide +kernel
theorem d_La_law_567 : decode code 567 = .ok (.lcmp, 1) := by decide +kernel
theorem d_La_law_568 : decode code 568 = .ok (.ifCond .eq 5, 3) := by decide +kernel
theorem d_La_law_571 : decode code 571 = .ok (.iconst 0, 1) := by decide +kernel
theorem d_La_law_572 : decode code 572 = .ok (.ireturn, 1) := by decide +kernel
theorem d_La_law_573 : decode code 573 = .ok (.goto 825, 3) := by decide +kernel
theorem d_La_law_576 : decode code 576 = .ok (.aload_n 1, 1) := by decide +kernel
theorem d_La_law_577 : decode code 577 = .ok (.aload_n 0, 1) := by decide +kernel
theorem d_La_law_578 : decode code 578 = .ok (.iload 4, 2) := by decide +kernel
theorem d_La_law_580 : decode code 580 = .ok (.iconst 1, 1) := by decide +kernel
theorem d_La_law_581 : decode code 581 = .ok (.iadd, 1) := by decide +kernel
theorem d_La_law_582 : decode code 582 = .ok (.iaload, 1) := by decide +kernel
theorem d_La_law_583 : decode code 583 = .ok (.aload_n 3, 1) := by decide +kernel
theorem d_La_law_584 : decode code 584 = .ok (.invokestatic 110, 3) := by decide +kernel
theorem d_La_law_587 : decode code 587 = .ok (.istore 5, 2) := by decide +kernel
theorem d_La_law_589 : decode code 589 = .ok (.aload_n 2, 1) := by decide +kernel
theorem d_La_law_590 : decode code 590 = .ok (.aload_n 0, 1) := by decide +kernel
theorem d_La_law_591 : decode code 591 = .ok (.iload 4, 2) := by decide +kernel
theorem d_La_law_593 : decode code 593 = .ok (.iconst 1, 1) := by decide +kernel
theorem d_La_law_594 : decode code 594 = .ok (.iadd, 1) := by decide +kernel
theorem d_La_law_595 : decode code 595 = .ok (.iaload, 1) := by decide +kernel
theorem d_La_law_596 : decode code 596 = .ok (.invokevirtual 112, 3) := by decide +kernel
theorem d_La_law_599 : decode code 599 = .ok (.istore 6, 2) := by decide +kernel
theorem d_La_law_601 : decode code 601 = .ok (.aload_n 2, 1) := by decide +kernel
theorem d_La_law_602 : decode code 602 = .ok (.invokevirtual 85, 3) := by decide +kernel
theorem d_La_law_605 : decode code 605 = .ok (.iload 5, 2) := by decide +kernel
theorem d_La_law_607 : decode code 607 = .ok (.if_icmp .eq 5, 3) := by decide +kernel
theorem d_La_law_610 : decode code 610 = .ok (.iconst 0, 1) := by decide +kernel
theorem d_La_law_611 : decode code 611 = .ok (.ireturn, 1) := by decide +kernel
theorem d_La_law_612 : decode code 612 = .ok (.iload 5, 2) := by decide +kernel
theorem d_La_law_614 : decode code 614 = .ok (.ifCond .ne 15, 3) := by decide +kernel
theorem d_La_law_617 : decode code 617 = .ok (.aload_n 3, 1) := by decide +kernel
theorem d_La_law_618 : decode code 618 = .ok (.iconst 0, 1) := by decide +kernel
theorem d_La_law_619 : decode code 619 = .ok (.laload, 1) := by decide +kernel
theorem d_La_law_620 : decode code 620 = .ok (.iload 6, 2) := by decide +kernel
theorem d_La_law_622 : decode code 622 = .ok (.i2l, 1) := by decide +kernel
theorem d_La_law_623 : decode code 623 = .ok (.lcmp, 1) := by decide +kernel
theorem d_La_law_624 : decode code 624 = .ok (.ifCond .eq 5, 3) := by decide +kernel
theorem d_La_law_627 : decode code 627 = .ok (.iconst 0, 1) := by decide +kernel
theorem d_La_law_628 : decode code 628 = .ok (.ireturn, 1) := by decide +kernel
theorem d_La_law_629 : decode code 629 = .ok (.goto 769, 3) := by decide +kernel
theorem d_La_law_632 : decode code 632 = .ok (.aload_n 1, 1) := by decide +kernel
theorem d_La_law_633 : decode code 633 = .ok (.aload_n 0, 1) := by decide +kernel
theorem d_La_law_634 : decode code 634 = .ok (.iload 4, 2) := by decide +kernel
theorem d_La_law_636 : decode code 636 = .ok (.iconst 1, 1) := by decide +kernel
theorem d_La_law_637 : decode code 637 = .ok (.iadd, 1) := by decide +kernel
theorem d_La_law_638 : decode code 638 = .ok (.iaload, 1) := by decide +kernel
theorem d_La_law_639 : decode code 639 = .ok (.aload_n 0, 1) := by decide +kernel
theorem d_La_law_640 : decode code 640 = .ok (.iload 4, 2) := by decide +kernel
theorem d_La_law_642 : decode code 642 = .ok (.iconst 2, 1) := by decide +kernel
theorem d_La_law_643 : decode code 643 = .ok (.iadd, 1) := by decide +kernel
theorem d_La_law_644 : decode code 644 = .ok (.iaload, 1) := by decide +kernel
theorem d_La_law_645 : decode code 645 = .ok (.i2l, 1) := by decide +kernel
theorem d_La_law_646 : decode code 646 = .ok (.bipush 32, 2) := by decide +kernel
theorem d_La_law_648 : decode code 648 = .ok (.lshl, 1) := by decide +kernel
theorem d_La_law_649 : decode code 649 = .ok (.aload_n 0, 1) := by decide +kernel
theorem d_La_law_650 : decode code 650 = .ok (.iload 4, 2) := by decide +kernel
theorem d_La_law_652 : decode code 652 = .ok (.iconst 3, 1) := by decide +kernel
theorem d_La_law_653 : decode code 653 = .ok (.iadd, 1) := by decide +kernel
theorem d_La_law_654 : decode code 654 = .ok (.iaload, 1) := by decide +kernel
theorem d_La_law_655 : decode code 655 = .ok (.i2l, 1) := by decide +kernel
theorem d_La_law_656 : decode code 656 = .ok (.ldc2_w 104, 3) := by decide +kernel
theorem d_La_law_659 : decode code 659 = .ok (.land, 1) := by decide +kernel
theorem d_La_law_660 : decode code 660 = .ok (.lor, 1) := by decide +kernel
theorem d_La_law_661 : decode code 661 = .ok (.aload_n 0, 1) := by decide +kernel
theorem d_La_law_662 : decode code 662 = .ok (.iload 4, 2) := by decide +kernel
theorem d_La_law_664 : decode code 664 = .ok (.iconst 4, 1) := by decide +kernel
theorem d_La_law_665 : decode code 665 = .ok (.iadd, 1) := by decide +kernel
theorem d_La_law_666 : decode code 666 = .ok (.iaload, 1) := by decide +kernel
theorem d_La_law_667 : decode code 667 = .ok (.i2l, 1) := by decide +kernel
theorem d_La_law_668 : decode code 668 = .ok (.bipush 32, 2) := by decide +kernel
theorem d_La_law_670 : decode code 670 = .ok (.lshl, 1) := by decide +kernel
theorem d_La_law_671 : decode code 671 = .ok (.aload_n 0, 1) := by decide +kernel
theorem d_La_law_672 : decode code 672 = .ok (.iload 4, 2) := by decide +kernel
theorem d_La_law_674 : decode code 674 = .ok (.iconst 5, 1) := by decide +kernel
theorem d_La_law_675 : decode code 675 = .ok (.iadd, 1) := by decide +kernel
theorem d_La_law_676 : decode code 676 = .ok (.iaload, 1) := by decide +kernel
theorem d_La_law_677 : decode code 677 = .ok (.i2l, 1) := by decide +kernel
theorem d_La_law_678 : decode code 678 = .ok (.ldc2_w 104, 3) := by decide +kernel
theorem d_La_law_681 : decode code 681 = .ok (.land, 1) := by decide +kernel
theorem d_La_law_682 : decode code 682 = .ok (.lor, 1) := by decide +kernel
theorem d_La_law_683 : decode code 683 = .ok (.aload_n 3, 1) := by decide +kernel
theorem d_La_law_684 : decode code 684 = .ok (.invokestatic 113, 3) := by decide +kernel
theorem d_La_law_687 : decode code 687 = .ok (.istore 5, 2) := by decide +kernel
theorem d_La_law_689 : decode code 689 = .ok (.aload_n 2, 1) := by decide +kernel
theorem d_La_law_690 : decode code 690 = .ok (.aload_n 0, 1) := by decide +kernel
theorem d_La_law_691 : decode code 691 = .ok (.iload 4, 2) := by decide +kernel
theorem d_La_law_693 : decode code 693 = .ok (.iconst 1, 1) := by decide +kernel
theorem d_La_law_694 : decode code 694 = .ok (.iadd, 1) := by decide +kernel
theorem d_La_law_695 : decode code 695 = .ok (.iaload, 1) := by decide +kernel
theorem d_La_law_696 : decode code 696 = .ok (.aload_n 0, 1) := by decide +kernel
theorem d_La_law_697 : decode code 697 = .ok (.iload 4, 2) := by decide +kernel
theorem d_La_law_699 : decode code 699 = .ok (.iconst 2, 1) := by decide +kernel
theorem d_La_law_700 : decode code 700 = .ok (.iadd, 1) := by decide +kernel
theorem d_La_law_701 : decode code 701 = .ok (.iaload, 1) := by decide +kernel
theorem d_La_law_702 : decode code 702 = .ok (.i2l, 1) := by decide +kernel
theorem d_La_law_703 : decode code 703 = .ok (.bipush 32, 2) := by decide +kernel
theorem d_La_law_705 : decode code 705 = .ok (.lshl, 1) := by decide +kernel
theorem d_La_law_706 : decode code 706 = .ok (.aload_n 0, 1) := by decide +kernel
theorem d_La_law_707 : decode code 707 = .ok (.iload 4, 2) := by decide +kernel
theorem d_La_law_709 : decode code 709 = .ok (.iconst 3, 1) := by decide +kernel
theorem d_La_law_710 : decode code 710 = .ok (.iadd, 1) := by decide +kernel
theorem d_La_law_711 : decode code 711 = .ok (.iaload, 1) := by decide +kernel
theorem d_La_law_712 : decode code 712 = .ok (.i2l, 1) := by decide +kernel
theorem d_La_law_713 : decode code 713 = .ok (.ldc2_w 104, 3) := by decide +kernel
theorem d_La_law_716 : decode code 716 = .ok (.land, 1) := by decide +kernel
theorem d_La_law_717 : decode code 717 = .ok (.lor, 1) := by decide +kernel
theorem d_La_law_718 : decode code 718 = .ok (.aload_n 0, 1) := by decide +kernel
theorem d_La_law_719 : decode code 719 = .ok (.iload 4, 2) := by decide +kernel
theorem d_La_law_721 : decode code 721 = .ok (.iconst 4, 1) := by decide +kernel
theorem d_La_law_722 : decode code 722 = .ok (.iadd, 1) := by decide +kernel
theorem d_La_law_723 : decode code 723 = .ok (.iaload, 1) := by decide +kernel
theorem d_La_law_724 : decode code 724 = .ok (.i2l, 1) := by decide +kernel
theorem d_La_law_725 : decode code 725 = .ok (.bipush 32, 2) := by decide +kernel
theorem d_La_law_727 : decode code 727 = .ok (.lshl, 1) := by decide +kernel
theorem d_La_law_728 : decode code 728 = .ok (.aload_n 0, 1) := by decide +kernel
theorem d_La_law_729 : decode code 729 = .ok (.iload 4, 2) := by decide +kernel
theorem d_La_law_731 : decode code 731 = .ok (.iconst 5, 1) := by decide +kernel
theorem d_La_law_732 : decode code 732 = .ok (.iadd, 1) := by decide +kernel
theorem d_La_law_733 : decode code 733 = .ok (.iaload, 1) := by decide +kernel
theorem d_La_law_734 : decode code 734 = .ok (.i2l, 1) := by decide +kernel
theorem d_La_law_735 : decode code 735 = .ok (.ldc2_w 104, 3) := by decide +kernel
theorem d_La_law_738 : decode code 738 = .ok (.land, 1) := by decide +kernel
theorem d_La_law_739 : decode code 739 = .ok (.lor, 1) := by decide +kernel
theorem d_La_law_740 : decode code 740 = .ok (.invokevirtual 115, 3) := by decide +kernel
theorem d_La_law_743 : decode code 743 = .ok (.istore 6, 2) := by decide +kernel
theorem d_La_law_745 : decode code 745 = .ok (.aload_n 2, 1) := by decide +kernel
theorem d_La_law_746 : decode code 746 = .ok (.invokevirtual 85, 3) := by decide +kernel
theorem d_La_law_749 : decode code 749 = .ok (.iload 5, 2) := by decide +kernel
theorem d_La_law_751 : decode code 751 = .ok (.if_icmp .eq 5, 3) := by decide +kernel
theorem d_La_law_754 : decode code 754 = .ok (.iconst 0, 1) := by decide +kernel
theorem d_La_law_755 : decode code 755 = .ok (.ireturn, 1) := by decide +kernel
theorem d_La_law_756 : decode code 756 = .ok (.iload 5, 2) := by decide +kernel
theorem d_La_law_758 : decode code 758 = .ok (.ifCond .ne 15, 3) := by decide +kernel
theorem d_La_law_761 : decode code 761 = .ok (.aload_n 3, 1) := by decide +kernel
theorem d_La_law_762 : decode code 762 = .ok (.iconst 0, 1) := by decide +kernel
theorem d_La_law_763 : decode code 763 = .ok (.laload, 1) := by decide +kernel
theorem d_La_law_764 : decode code 764 = .ok (.iload 6, 2) := by decide +kernel
theorem d_La_law_766 : decode code 766 = .ok (.i2l, 1) := by decide +kernel
theorem d_La_law_767 : decode code 767 = .ok (.lcmp, 1) := by decide +kernel
theorem d_La_law_768 : decode code 768 = .ok (.ifCond .eq 5, 3) := by decide +kernel
theorem d_La_law_771 : decode code 771 = .ok (.iconst 0, 1) := by decide +kernel
theorem d_La_law_772 : decode code 772 = .ok (.ireturn, 1) := by decide +kernel
theorem d_La_law_773 : decode code 773 = .ok (.goto 625, 3) := by decide +kernel
theorem d_La_law_776 : decode code 776 = .ok (.aload_n 1, 1) := by decide +kernel
theorem d_La_law_777 : decode code 777 = .ok (.aload_n 0, 1) := by decide +kernel
theorem d_La_law_778 : decode code 778 = .ok (.iload 4, 2) := by decide +kernel
theorem d_La_law_780 : decode code 780 = .ok (.iconst 1, 1) := by decide +kernel
theorem d_La_law_781 : decode code 781 = .ok (.iadd, 1) := by decide +kernel
theorem d_La_law_782 : decode code 782 = .ok (.iaload, 1) := by decide +kernel
theorem d_La_law_783 : decode code 783 = .ok (.i2l, 1) := by decide +kernel
theorem d_La_law_784 : decode code 784 = .ok (.bipush 32, 2) := by decide +kernel
theorem d_La_law_786 : decode code 786 = .ok (.lshl, 1) := by decide +kernel
theorem d_La_law_787 : decode code 787 = .ok (.aload_n 0, 1) := by decide +kernel
theorem d_La_law_788 : decode code 788 = .ok (.iload 4, 2) := by decide +kernel
theorem d_La_law_790 : decode code 790 = .ok (.iconst 2, 1) := by decide +kernel
theorem d_La_law_791 : decode code 791 = .ok (.iadd, 1) := by decide +kernel
theorem d_La_law_792 : decode code 792 = .ok (.iaload, 1) := by decide +kernel
theorem d_La_law_793 : decode code 793 = .ok (.i2l, 1) := by decide +kernel
theorem d_La_law_794 : decode code 794 = .ok (.ldc2_w 104, 3) := by decide +kernel
theorem d_La_law_797 : decode code 797 = .ok (.land, 1) := by decide +kernel
theorem d_La_law_798 : decode code 798 = .ok (.lor, 1) := by decide +kernel
theorem d_La_law_799 : decode code 799 = .ok (.aload_n 3, 1) := by decide +kernel
theorem d_La_law_800 : decode code 800 = .ok (.invokestatic 116, 3) := by decide +kernel
theorem d_La_law_803 : decode code 803 = .ok (.istore 5, 2) := by decide +kernel
theorem d_La_law_805 : decode code 805 = .ok (.aload_n 2, 1) := by decide +kernel
theorem d_La_law_806 : decode code 806 = .ok (.aload_n 0, 1) := by decide +kernel
theorem d_La_law_807 : decode code 807 = .ok (.iload 4, 2) := by decide +kernel
theorem d_La_law_809 : decode code 809 = .ok (.iconst 1, 1) := by decide +kernel
theorem d_La_law_810 : decode code 810 = .ok (.iadd, 1) := by decide +kernel
theorem d_La_law_811 : decode code 811 = .ok (.iaload, 1) := by decide +kernel
theorem d_La_law_812 : decode code 812 = .ok (.i2l, 1) := by decide +kernel
theorem d_La_law_813 : decode code 813 = .ok (.bipush 32, 2) := by decide +kernel
theorem d_La_law_815 : decode code 815 = .ok (.lshl, 1) := by decide +kernel
theorem d_La_law_816 : decode code 816 = .ok (.aload_n 0, 1) := by decide +kernel
theorem d_La_law_817 : decode code 817 = .ok (.iload 4, 2) := by decide +kernel
theorem d_La_law_819 : decode code 819 = .ok (.iconst 2, 1) := by decide +kernel
theorem d_La_law_820 : decode code 820 = .ok (.iadd, 1) := by decide +kernel
theorem d_La_law_821 : decode code 821 = .ok (.iaload, 1) := by decide +kernel
theorem d_La_law_822 : decode code 822 = .ok (.i2l, 1) := by decide +kernel
theorem d_La_law_823 : decode code 823 = .ok (.ldc2_w 104, 3) := by decide +kernel
theorem d_La_law_826 : decode code 826 = .ok (.land, 1) := by decide +kernel
theorem d_La_law_827 : decode code 827 = .ok (.lor, 1) := by decide +kernel
theorem d_La_law_828 : decode code 828 = .ok (.invokevirtual 119, 3) := by decide +kernel
theorem d_La_law_831 : decode code 831 = .ok (.istore 6, 2) := by decide +kernel
theorem d_La_law_833 : decode code 833 = .ok (.aload_n 2, 1) := by decide +kernel
theorem d_La_law_834 : decode code 834 = .ok (.invokevirtual 85, 3) := by decide +kernel
theorem d_La_law_837 : decode code 837 = .ok (.iload 5, 2) := by decide +kernel
theorem d_La_law_839 : decode code 839 = .ok (.if_icmp .eq 5, 3) := by decide +kernel
theorem d_La_law_842 : decode code 842 = .ok (.iconst 0, 1) := by decide +kernel
theorem d_La_law_843 : decode code 843 = .ok (.ireturn, 1) := by decide +kernel
theorem d_La_law_844 : decode code 844 = .ok (.iload 5, 2) := by decide +kernel
theorem d_La_law_846 : decode code 846 = .ok (.ifCond .ne 15, 3) := by decide +kernel
theorem d_La_law_849 : decode code 849 = .ok (.aload_n 3, 1) := by decide +kernel
theorem d_La_law_850 : decode code 850 = .ok (.iconst 0, 1) := by decide +kernel
theorem d_La_law_851 : decode code 851 = .ok (.laload, 1) := by decide +kernel
theorem d_La_law_852 : decode code 852 = .ok (.iload 6, 2) := by decide +kernel
theorem d_La_law_854 : decode code 854 = .ok (.i2l, 1) := by decide +kernel
theorem d_La_law_855 : decode code 855 = .ok (.lcmp, 1) := by decide +kernel
theorem d_La_law_856 : decode code 856 = .ok (.ifCond .eq 5, 3) := by decide +kernel
theorem d_La_law_859 : decode code 859 = .ok (.iconst 0, 1) := by decide +kernel
theorem d_La_law_860 : decode code 860 = .ok (.ireturn, 1) := by decide +kernel
theorem d_La_law_861 : decode code 861 = .ok (.goto 537, 3) := by decide +kernel
theorem d_La_law_864 : decode code 864 = .ok (.aload_n 1, 1) := by decide +kernel
theorem d_La_law_865 : decode code 865 = .ok (.aload_n 0, 1) := by decide +kernel
theorem d_La_law_866 : decode code 866 = .ok (.iload 4, 2) := by decide +kernel
theorem d_La_law_868 : decode code 868 = .ok (.iconst 1, 1) := by decide +kernel
theorem d_La_law_869 : decode code 869 = .ok (.iadd, 1) := by decide +kernel
theorem d_La_law_870 : decode code 870 = .ok (.iaload, 1) := by decide +kernel
theorem d_La_law_871 : decode code 871 = .ok (.i2l, 1) := by decide +kernel
theorem d_La_law_872 : decode code 872 = .ok (.bipush 32, 2) := by decide +kernel
theorem d_La_law_874 : decode code 874 = .ok (.lshl, 1) := by decide +kernel
theorem d_La_law_875 : decode code 875 = .ok (.aload_n 0, 1) := by decide +kernel
theorem d_La_law_876 : decode code 876 = .ok (.iload 4, 2) := by decide +kernel
theorem d_La_law_878 : decode code 878 = .ok (.iconst 2, 1) := by decide +kernel
theorem d_La_law_879 : decode code 879 = .ok (.iadd, 1) := by decide +kernel
theorem d_La_law_880 : decode code 880 = .ok (.iaload, 1) := by decide +kernel
theorem d_La_law_881 : decode code 881 = .ok (.i2l, 1) := by decide +kernel
theorem d_La_law_882 : decode code 882 = .ok (.ldc2_w 104, 3) := by decide +kernel
theorem d_La_law_885 : decode code 885 = .ok (.land, 1) := by decide +kernel
theorem d_La_law_886 : decode code 886 = .ok (.lor, 1) := by decide +kernel
theorem d_La_law_887 : decode code 887 = .ok (.aload_n 0, 1) := by decide +kernel
theorem d_La_law_888 : decode code 888 = .ok (.iload 4, 2) := by decide +kernel
theorem d_La_law_890 : decode code 890 = .ok (.iconst 3, 1) := by decide +kernel
theorem d_La_law_891 : decode code 891 = .ok (.iadd, 1) := by decide +kernel
theorem d_La_law_892 : decode code 892 = .ok (.iaload, 1) := by decide +kernel
theorem d_La_law_893 : decode code 893 = .ok (.i2l, 1) := by decide +kernel
theorem d_La_law_894 : decode code 894 = .ok (.bipush 32, 2) := by decide +kernel
theorem d_La_law_896 : decode code 896 = .ok (.lshl, 1) := by decide +kernel
theorem d_La_law_897 : decode code 897 = .ok (.aload_n 0, 1) := by decide +kernel
theorem d_La_law_898 : decode code 898 = .ok (.iload 4, 2) := by decide +kernel
theorem d_La_law_900 : decode code 900 = .ok (.iconst 4, 1) := by decide +kernel
theorem d_La_law_901 : decode code 901 = .ok (.iadd, 1) := by decide +kernel
theorem d_La_law_902 : decode code 902 = .ok (.iaload, 1) := by decide +kernel
theorem d_La_law_903 : decode code 903 = .ok (.i2l, 1) := by decide +kernel
theorem d_La_law_904 : decode code 904 = .ok (.ldc2_w 104, 3) := by decide +kernel
theorem d_La_law_907 : decode code 907 = .ok (.land, 1) := by decide +kernel
theorem d_La_law_908 : decode code 908 = .ok (.lor, 1) := by decide +kernel
theorem d_La_law_909 : decode code 909 = .ok (.aload_n 0, 1) := by decide +kernel
theorem d_La_law_910 : decode code 910 = .ok (.iload 4, 2) := by decide +kernel
theorem d_La_law_912 : decode code 912 = .ok (.iconst 5, 1) := by decide +kernel
theorem d_La_law_913 : decode code 913 = .ok (.iadd, 1) := by decide +kernel
theorem d_La_law_914 : decode code 914 = .ok (.iaload, 1) := by decide +kernel
theorem d_La_law_915 : decode code 915 = .ok (.aload_n 3, 1) := by decide +kernel
theorem d_La_law_916 : decode code 916 = .ok (.invokestatic 120, 3) := by decide +kernel
theorem d_La_law_919 : decode code 919 = .ok (.istore 5, 2) := by decide +kernel
theorem d_La_law_921 : decode code 921 = .ok (.aload_n 2, 1) := by decide +kernel
theorem d_La_law_922 : decode code 922 = .ok (.aload_n 0, 1) := by decide +kernel
theorem d_La_law_923 : decode code 923 = .ok (.iload 4, 2) := by decide +kernel
theorem d_La_law_925 : decode code 925 = .ok (.iconst 1, 1) := by decide +kernel
theorem d_La_law_926 : decode code 926 = .ok (.iadd, 1) := by decide +kernel
theorem d_La_law_927 : decode code 927 = .ok (.iaload, 1) := by decide +kernel
theorem d_La_law_928 : decode code 928 = .ok (.i2l, 1) := by decide +kernel
theorem d_La_law_929 : decode code 929 = .ok (.bipush 32, 2) := by decide +kernel
theorem d_La_law_931 : decode code 931 = .ok (.lshl, 1) := by decide +kernel
theorem d_La_law_932 : decode code 932 = .ok (.aload_n 0, 1) := by decide +kernel
theorem d_La_law_933 : decode code 933 = .ok (.iload 4, 2) := by decide +kernel
theorem d_La_law_935 : decode code 935 = .ok (.iconst 2, 1) := by decide +kernel
theorem d_La_law_936 : decode code 936 = .ok (.iadd, 1) := by decide +kernel
theorem d_La_law_937 : decode code 937 = .ok (.iaload, 1) := by decide +kernel
theorem d_La_law_938 : decode code 938 = .ok (.i2l, 1) := by decide +kernel
theorem d_La_law_939 : decode code 939 = .ok (.ldc2_w 104, 3) := by decide +kernel
theorem d_La_law_942 : decode code 942 = .ok (.land, 1) := by decide +kernel
theorem d_La_law_943 : decode code 943 = .ok (.lor, 1) := by decide +kernel
theorem d_La_law_944 : decode code 944 = .ok (.aload_n 0, 1) := by decide +kernel
theorem d_La_law_945 : decode code 945 = .ok (.iload 4, 2) := by decide +kernel
theorem d_La_law_947 : decode code 947 = .ok (.iconst 3, 1) := by decide +kernel
theorem d_La_law_948 : decode code 948 = .ok (.iadd, 1) := by decide +kernel
theorem d_La_law_949 : decode code 949 = .ok (.iaload, 1) := by decide +kernel
theorem d_La_law_950 : decode code 950 = .ok (.i2l, 1) := by decide +kernel
theorem d_La_law_951 : decode code 951 = .ok (.bipush 32, 2) := by decide +kernel
theorem d_La_law_953 : decode code 953 = .ok (.lshl, 1) := by decide +kernel
theorem d_La_law_954 : decode code 954 = .ok (.aload_n 0, 1) := by decide +kernel
theorem d_La_law_955 : decode code 955 = .ok (.iload 4, 2) := by decide +kernel
theorem d_La_law_957 : decode code 957 = .ok (.iconst 4, 1) := by decide +kernel
theorem d_La_law_958 : decode code 958 = .ok (.iadd, 1) := by decide +kernel
theorem d_La_law_959 : decode code 959 = .ok (.iaload, 1) := by decide +kernel
theorem d_La_law_960 : decode code 960 = .ok (.i2l, 1) := by decide +kernel
theorem d_La_law_961 : decode code 961 = .ok (.ldc2_w 104, 3) := by decide +kernel
theorem d_La_law_964 : decode code 964 = .ok (.land, 1) := by decide +kernel
theorem d_La_law_965 : decode code 965 = .ok (.lor, 1) := by decide +kernel
theorem d_La_law_966 : decode code 966 = .ok (.aload_n 0, 1) := by decide +kernel
theorem d_La_law_967 : decode code 967 = .ok (.iload 4, 2) := by decide +kernel
theorem d_La_law_969 : decode code 969 = .ok (.iconst 5, 1) := by decide +kernel
theorem d_La_law_970 : decode code 970 = .ok (.iadd, 1) := by decide +kernel
theorem d_La_law_971 : decode code 971 = .ok (.iaload, 1) := by decide +kernel
theorem d_La_law_972 : decode code 972 = .ok (.invokevirtual 123, 3) := by decide +kernel
theorem d_La_law_975 : decode code 975 = .ok (.istore 6, 2) := by decide +kernel
theorem d_La_law_977 : decode code 977 = .ok (.aload_n 2, 1) := by decide +kernel
theorem d_La_law_978 : decode code 978 = .ok (.invokevirtual 85, 3) := by decide +kernel
theorem d_La_law_981 : decode code 981 = .ok (.iload 5, 2) := by decide +kernel
theorem d_La_law_983 : decode code 983 = .ok (.if_icmp .eq 5, 3) := by decide +kernel
theorem d_La_law_986 : decode code 986 = .ok (.iconst 0, 1) := by decide +kernel
theorem d_La_law_987 : decode code 987 = .ok (.ireturn, 1) := by decide +kernel
theorem d_La_law_988 : decode code 988 = .ok (.iload 5, 2) := by decide +kernel
theorem d_La_law_990 : decode code 990 = .ok (.ifCond .ne 15, 3) := by decide +kernel
theorem d_La_law_993 : decode code 993 = .ok (.aload_n 3, 1) := by decide +kernel
theorem d_La_law_994 : decode code 994 = .ok (.iconst 0, 1) := by decide +kernel
theorem d_La_law_995 : decode code 995 = .ok (.laload, 1) := by decide +kernel
theorem d_La_law_996 : decode code 996 = .ok (.iload 6, 2) := by decide +kernel
theorem d_La_law_998 : decode code 998 = .ok (.i2l, 1) := by decide +kernel
theorem d_La_law_999 : decode code 999 = .ok (.lcmp, 1) := by decide +kernel
theorem d_La_law_1000 : decode code 1000 = .ok (.ifCond .eq 5, 3) := by decide +kernel
theorem d_La_law_1003 : decode code 1003 = .ok (.iconst 0, 1) := by decide +kernel
theorem d_La_law_1004 : decode code 1004 = .ok (.ireturn, 1) := by decide +kernel
theorem d_La_law_1005 : decode code 1005 = .ok (.goto 393, 3) := by decide +kernel
theorem d_La_law_1008 : decode code 1008 = .ok (.aload_n 1, 1) := by decide +kernel
theorem d_La_law_1009 : decode code 1009 = .ok (.invokevirtual 124, 3) := by decide +kernel
theorem d_La_law_1012 : decode code 1012 = .ok (.aload_n 2, 1) := by decide +kernel
theorem d_La_law_1013 : decode code 1013 = .ok (.invokevirtual 127, 3) := by decide +kernel
theorem d_La_law_1016 : decode code 1016 = .ok (.if_icmp .eq 382, 3) := by decide +kernel
theorem d_La_law_1019 : decode code 1019 = .ok (.iconst 0, 1) := by decide +kernel
theorem d_La_law_1020 : decode code 1020 = .ok (.ireturn, 1) := by decide +kernel
theorem d_La_law_1021 : decode code 1021 = .ok (.aload_n 1, 1) := by decide +kernel
theorem d_La_law_1022 : decode code 1022 = .ok (.aload_n 0, 1) := by decide +kernel
theorem d_La_law_1023 : decode code 1023 = .ok (.iload 4, 2) := by decide +kernel
theorem d_La_law_1025 : decode code 1025 = .ok (.iconst 1, 1) := by decide +kernel
theorem d_La_law_1026 : decode code 1026 = .ok (.iadd, 1) := by decide +kernel
theorem d_La_law_1027 : decode code 1027 = .ok (.iaload, 1) := by decide +kernel
theorem d_La_law_1028 : decode code 1028 = .ok (.aload_n 0, 1) := by decide +kernel
theorem d_La_law_1029 : decode code 1029 = .ok (.iload 4, 2) := by decide +kernel
theorem d_La_law_1031 : decode code 1031 = .ok (.iconst 2, 1) := by decide +kernel
theorem d_La_law_1032 : decode code 1032 = .ok (.iadd, 1) := by decide +kernel
theorem d_La_law_1033 : decode code 1033 = .ok (.iaload, 1) := by decide +kernel
theorem d_La_law_1034 : decode code 1034 = .ok (.aload_n 0, 1) := by decide +kernel
theorem d_La_law_1035 : decode code 1035 = .ok (.iload 4, 2) := by decide +kernel
theorem d_La_law_1037 : decode code 1037 = .ok (.iconst 3, 1) := by decide +kernel
theorem d_La_law_1038 : decode code 1038 = .ok (.iadd, 1) := by decide +kernel
theorem d_La_law_1039 : decode code 1039 = .ok (.iaload, 1) := by decide +kernel
theorem d_La_law_1040 : decode code 1040 = .ok (.aload_n 3, 1) := by decide +kernel
theorem d_La_law_1041 : decode code 1041 = .ok (.invokestatic 128, 3) := by decide +kernel
theorem d_La_law_1044 : decode code 1044 = .ok (.istore 5, 2) := by decide +kernel
theorem d_La_law_1046 : decode code 1046 = .ok (.aload_n 2, 1) := by decide +kernel
theorem d_La_law_1047 : decode code 1047 = .ok (.aload_n 0, 1) := by decide +kernel
theorem d_La_law_1048 : decode code 1048 = .ok (.iload 4, 2) := by decide +kernel
theorem d_La_law_1050 : decode code 1050 = .ok (.iconst 1, 1) := by decide +kernel
theorem d_La_law_1051 : decode code 1051 = .ok (.iadd, 1) := by decide +kernel
theorem d_La_law_1052 : decode code 1052 = .ok (.iaload, 1) := by decide +kernel
theorem d_La_law_1053 : decode code 1053 = .ok (.aload_n 0, 1) := by decide +kernel
theorem d_La_law_1054 : decode code 1054 = .ok (.iload 4, 2) := by decide +kernel
theorem d_La_law_1056 : decode code 1056 = .ok (.iconst 2, 1) := by decide +kernel
theorem d_La_law_1057 : decode code 1057 = .ok (.iadd, 1) := by decide +kernel
theorem d_La_law_1058 : decode code 1058 = .ok (.iaload, 1) := by decide +kernel
theorem d_La_law_1059 : decode code 1059 = .ok (.aload_n 0, 1) := by decide +kernel
theorem d_La_law_1060 : decode code 1060 = .ok (.iload 4, 2) := by decide +kernel
theorem d_La_law_1062 : decode code 1062 = .ok (.iconst 3, 1) := by decide +kernel
theorem d_La_law_1063 : decode code 1063 = .ok (.iadd, 1) := by decide +kernel
theorem d_La_law_1064 : decode code 1064 = .ok (.iaload, 1) := by decide +kernel
theorem d_La_law_1065 : decode code 1065 = .ok (.invokevirtual 131, 3) := by decide +kernel
theorem d_La_law_1068 : decode code 1068 = .ok (.istore 6, 2) := by decide +kernel
theorem d_La_law_1070 : decode code 1070 = .ok (.aload_n 2, 1) := by decide +kernel
theorem d_La_law_1071 : decode code 1071 = .ok (.invokevirtual 85, 3) := by decide +kernel
theorem d_La_law_1074 : decode code 1074 = .ok (.iload 5, 2) := by decide +kernel
theorem d_La_law_1076 : decode code 1076 = .ok (.if_icmp .eq 5, 3) := by decide +kernel
theorem d_La_law_1079 : decode code 1079 = .ok (.iconst 0, 1) := by decide +kernel
theorem d_La_law_1080 : decode code 1080 = .ok (.ireturn, 1) := by decide +kernel
theorem d_La_law_1081 : decode code 1081 = .ok (.iload 5, 2) := by decide +kernel
theorem d_La_law_1083 : decode code 1083 = .ok (.ifCond .ne 15, 3) := by decide +kernel
theorem d_La_law_1086 : decode code 1086 = .ok (.aload_n 3, 1) := by decide +kernel
theorem d_La_law_1087 : decode code 1087 = .ok (.iconst 0, 1) := by decide +kernel
theorem d_La_law_1088 : decode code 1088 = .ok (.laload, 1) := by decide +kernel
theorem d_La_law_1089 : decode code 1089 = .ok (.iload 6, 2) := by decide +kernel
theorem d_La_law_1091 : decode code 1091 = .ok (.i2l, 1) := by decide +kernel
theorem d_La_law_1092 : decode code 1092 = .ok (.lcmp, 1) := by decide +kernel
theorem d_La_law_1093 : decode code 1093 = .ok (.ifCond .eq 5, 3) := by decide +kernel
theorem d_La_law_1096 : decode code 1096 = .ok (.iconst 0, 1) := by decide +kernel
theorem d_La_law_1097 : decode code 1097 = .ok (.ireturn, 1) := by decide +kernel
theorem d_La_law_1098 : decode code 1098 = .ok (.goto 300, 3) := by decide +kernel
theorem d_La_law_1101 : decode code 1101 = .ok (.aload_n 1, 1) := by decide +kernel
theorem d_La_law_1102 : decode code 1102 = .ok (.aload_n 0, 1) := by decide +kernel
theorem d_La_law_1103 : decode code 1103 = .ok (.iload 4, 2) := by decide +kernel
theorem d_La_law_1105 : decode code 1105 = .ok (.iconst 1, 1) := by decide +kernel
theorem d_La_law_1106 : decode code 1106 = .ok (.iadd, 1) := by decide +kernel
theorem d_La_law_1107 : decode code 1107 = .ok (.iaload, 1) := by decide +kernel
theorem d_La_law_1108 : decode code 1108 = .ok (.aload_n 0, 1) := by decide +kernel
theorem d_La_law_1109 : decode code 1109 = .ok (.iload 4, 2) := by decide +kernel
theorem d_La_law_1111 : decode code 1111 = .ok (.iconst 2, 1) := by decide +kernel
theorem d_La_law_1112 : decode code 1112 = .ok (.iadd, 1) := by decide +kernel
theorem d_La_law_1113 : decode code 1113 = .ok (.iaload, 1) := by decide +kernel
theorem d_La_law_1114 : decode code 1114 = .ok (.aload_n 3, 1) := by decide +kernel
theorem d_La_law_1115 : decode code 1115 = .ok (.invokestatic 132, 3) := by decide +kernel
theorem d_La_law_1118 : decode code 1118 = .ok (.istore 5, 2) := by decide +kernel
theorem d_La_law_1120 : decode code 1120 = .ok (.aload_n 2, 1) := by decide +kernel
theorem d_La_law_1121 : decode code 1121 = .ok (.aload_n 0, 1) := by decide +kernel
theorem d_La_law_1122 : decode code 1122 = .ok (.iload 4, 2) := by decide +kernel
theorem d_La_law_1124 : decode code 1124 = .ok (.iconst 1, 1) := by decide +kernel
theorem d_La_law_1125 : decode code 1125 = .ok (.iadd, 1) := by decide +kernel
theorem d_La_law_1126 : decode code 1126 = .ok (.iaload, 1) := by decide +kernel
theorem d_La_law_1127 : decode code 1127 = .ok (.aload_n 0, 1) := by decide +kernel
theorem d_La_law_1128 : decode code 1128 = .ok (.iload 4, 2) := by decide +kernel
theorem d_La_law_1130 : decode code 1130 = .ok (.iconst 2, 1) := by decide +kernel
theorem d_La_law_1131 : decode code 1131 = .ok (.iadd, 1) := by decide +kernel
theorem d_La_law_1132 : decode code 1132 = .ok (.iaload, 1) := by decide +kernel
theorem d_La_law_1133 : decode code 1133 = .ok (.invokevirtual 134, 3) := by decide +kernel
theorem d_La_law_1136 : decode code 1136 = .ok (.istore 6, 2) := by decide +kernel
theorem d_La_law_1138 : decode code 1138 = .ok (.aload_n 2, 1) := by decide +kernel
theorem d_La_law_1139 : decode code 1139 = .ok (.invokevirtual 85, 3) := by decide +kernel
theorem d_La_law_1142 : decode code 1142 = .ok (.iload 5, 2) := by decide +kernel
theorem d_La_law_1144 : decode code 1144 = .ok (.if_icmp .eq 5, 3) := by decide +kernel
theorem d_La_law_1147 : decode code 1147 = .ok (.iconst 0, 1) := by decide +kernel
theorem d_La_law_1148 : decode code 1148 = .ok (.ireturn, 1) := by decide +kernel
theorem d_La_law_1149 : decode code 1149 = .ok (.iload 5, 2) := by decide +kernel
theorem d_La_law_1151 : decode code 1151 = .ok (.ifCond .ne 22, 3) := by decide +kernel
theorem d_La_law_1154 : decode code 1154 = .ok (.aload_n 3, 1) := by decide +kernel
theorem d_La_law_1155 : decode code 1155 = .ok (.iconst 0, 1) := by decide +kernel
theorem d_La_law_1156 : decode code 1156 = .ok (.laload, 1) := by decide +kernel
theorem d_La_law_1157 : decode code 1157 = .ok (.iload 6, 2) := by decide +kernel
theorem d_La_law_1159 : decode code 1159 = .ok (.ifCond .eq 7, 3) := by decide +kernel
theorem d_La_law_1162 : decode code 1162 = .ok (.lconst 1, 1) := by decide +kernel
theorem d_La_law_1163 : decode code 1163 = .ok (.goto 4, 3) := by decide +kernel
theorem d_La_law_1166 : decode code 1166 = .ok (.lconst 0, 1) := by decide +kernel
theorem d_La_law_1167 : decode code 1167 = .ok (.lcmp, 1) := by decide +kernel
theorem d_La_law_1168 : decode code 1168 = .ok (.ifCond .eq 5, 3) := by decide +kernel
theorem d_La_law_1171 : decode code 1171 = .ok (.iconst 0, 1) := by decide +kernel
theorem d_La_law_1172 : decode code 1172 = .ok (.ireturn, 1) := by decide +kernel
theorem d_La_law_1173 : decode code 1173 = .ok (.goto 225, 3) := by decide +kernel
theorem d_La_law_1176 : decode code 1176 = .ok (.aload_n 1, 1) := by decide +kernel
theorem d_La_law_1177 : decode code 1177 = .ok (.aload_n 0, 1) := by decide +kernel
theorem d_La_law_1178 : decode code 1178 = .ok (.iload 4, 2) := by decide +kernel
theorem d_La_law_1180 : decode code 1180 = .ok (.iconst 1, 1) := by decide +kernel
theorem d_La_law_1181 : decode code 1181 = .ok (.iadd, 1) := by decide +kernel
theorem d_La_law_1182 : decode code 1182 = .ok (.iaload, 1) := by decide +kernel
theorem d_La_law_1183 : decode code 1183 = .ok (.aload_n 0, 1) := by decide +kernel
theorem d_La_law_1184 : decode code 1184 = .ok (.iload 4, 2) := by decide +kernel
theorem d_La_law_1186 : decode code 1186 = .ok (.iconst 2, 1) := by decide +kernel
theorem d_La_law_1187 : decode code 1187 = .ok (.iadd, 1) := by decide +kernel
theorem d_La_law_1188 : decode code 1188 = .ok (.iaload, 1) := by decide +kernel
theorem d_La_law_1189 : decode code 1189 = .ok (.aload_n 3, 1) := by decide +kernel
theorem d_La_law_1190 : decode code 1190 = .ok (.invokestatic 135, 3) := by decide +kernel
theorem d_La_law_1193 : decode code 1193 = .ok (.istore 5, 2) := by decide +kernel
theorem d_La_law_1195 : decode code 1195 = .ok (.aload_n 2, 1) := by decide +kernel
theorem d_La_law_1196 : decode code 1196 = .ok (.aload_n 0, 1) := by decide +kernel
theorem d_La_law_1197 : decode code 1197 = .ok (.iload 4, 2) := by decide +kernel
theorem d_La_law_1199 : decode code 1199 = .ok (.iconst 1, 1) := by decide +kernel
theorem d_La_law_1200 : decode code 1200 = .ok (.iadd, 1) := by decide +kernel
theorem d_La_law_1201 : decode code 1201 = .ok (.iaload, 1) := by decide +kernel
theorem d_La_law_1202 : decode code 1202 = .ok (.aload_n 0, 1) := by decide +kernel
theorem d_La_law_1203 : decode code 1203 = .ok (.iload 4, 2) := by decide +kernel
theorem d_La_law_1205 : decode code 1205 = .ok (.iconst 2, 1) := by decide +kernel
theorem d_La_law_1206 : decode code 1206 = .ok (.iadd, 1) := by decide +kernel
theorem d_La_law_1207 : decode code 1207 = .ok (.iaload, 1) := by decide +kernel
theorem d_La_law_1208 : decode code 1208 = .ok (.invokevirtual 137, 3) := by decide +kernel
theorem d_La_law_1211 : decode code 1211 = .ok (.lstore 6, 2) := by decide +kernel
theorem d_La_law_1213 : decode code 1213 = .ok (.aload_n 2, 1) := by decide +kernel
theorem d_La_law_1214 : decode code 1214 = .ok (.invokevirtual 85, 3) := by decide +kernel
theorem d_La_law_1217 : decode code 1217 = .ok (.iload 5, 2) := by decide +kernel
theorem d_La_law_1219 : decode code 1219 = .ok (.if_icmp .eq 5, 3) := by decide +kernel
theorem d_La_law_1222 : decode code 1222 = .ok (.iconst 0, 1) := by decide +kernel
theorem d_La_law_1223 : decode code 1223 = .ok (.ireturn, 1) := by decide +kernel
theorem d_La_law_1224 : decode code 1224 = .ok (.iload 5, 2) := by decide +kernel
theorem d_La_law_1226 : decode code 1226 = .ok (.ifCond .ne 14, 3) := by decide +kernel
theorem d_La_law_1229 : decode code 1229 = .ok (.aload_n 3, 1) := by decide +kernel
theorem d_La_law_1230 : decode code 1230 = .ok (.iconst 0, 1) := by decide +kernel
theorem d_La_law_1231 : decode code 1231 = .ok (.laload, 1) := by decide +kernel
theorem d_La_law_1232 : decode code 1232 = .ok (.lload 6, 2) := by decide +kernel
theorem d_La_law_1234 : decode code 1234 = .ok (.lcmp, 1) := by decide +kernel
theorem d_La_law_1235 : decode code 1235 = .ok (.ifCond .eq 5, 3) := by decide +kernel
theorem d_La_law_1238 : decode code 1238 = .ok (.iconst 0, 1) := by decide +kernel
theorem d_La_law_1239 : decode code 1239 = .ok (.ireturn, 1) := by decide +kernel
theorem d_La_law_1240 : decode code 1240 = .ok (.goto 158, 3) := by decide +kernel
theorem d_La_law_1243 : decode code 1243 = .ok (.aload_n 1, 1) := by decide +kernel
theorem d_La_law_1244 : decode code 1244 = .ok (.aload_n 0, 1) := by decide +kernel
theorem d_La_law_1245 : decode code 1245 = .ok (.iload 4, 2) := by decide +kernel
theorem d_La_law_1247 : decode code 1247 = .ok (.iconst 1, 1) := by decide +kernel
theorem d_La_law_1248 : decode code 1248 = .ok (.iadd, 1) := by decide +kernel
theorem d_La_law_1249 : decode code 1249 = .ok (.iaload, 1) := by decide +kernel
theorem d_La_law_1250 : decode code 1250 = .ok (.aload_n 3, 1) := by decide +kernel
theorem d_La_law_1251 : decode code 1251 = .ok (.invokestatic 138, 3) := by decide +kernel
theorem d_La_law_1254 : decode code 1254 = .ok (.istore 5, 2) := by decide +kernel
theorem d_La_law_1256 : decode code 1256 = .ok (.aload_n 2, 1) := by decide +kernel
theorem d_La_law_1257 : decode code 1257 = .ok (.aload_n 0, 1) := by decide +kernel
theorem d_La_law_1258 : decode code 1258 = .ok (.iload 4, 2) := by decide +kernel
theorem d_La_law_1260 : decode code 1260 = .ok (.iconst 1, 1) := by decide +kernel
theorem d_La_law_1261 : decode code 1261 = .ok (.iadd, 1) := by decide +kernel
theorem d_La_law_1262 : decode code 1262 = .ok (.iaload, 1) := by decide +kernel
theorem d_La_law_1263 : decode code 1263 = .ok (.invokevirtual 140, 3) := by decide +kernel
theorem d_La_law_1266 : decode code 1266 = .ok (.lstore 6, 2) := by decide +kernel
theorem d_La_law_1268 : decode code 1268 = .ok (.aload_n 2, 1) := by decide +kernel
theorem d_La_law_1269 : decode code 1269 = .ok (.invokevirtual 85, 3) := by decide +kernel
theorem d_La_law_1272 : decode code 1272 = .ok (.iload 5, 2) := by decide +kernel
theorem d_La_law_1274 : decode code 1274 = .ok (.if_icmp .eq 5, 3) := by decide +kernel
theorem d_La_law_1277 : decode code 1277 = .ok (.iconst 0, 1) := by decide +kernel
theorem d_La_law_1278 : decode code 1278 = .ok (.ireturn, 1) := by decide +kernel
theorem d_La_law_1279 : decode code 1279 = .ok (.iload 5, 2) := by decide +kernel
theorem d_La_law_1281 : decode code 1281 = .ok (.ifCond .ne 14, 3) := by decide +kernel
theorem d_La_law_1284 : decode code 1284 = .ok (.aload_n 3, 1) := by decide +kernel
theorem d_La_law_1285 : decode code 1285 = .ok (.iconst 0, 1) := by decide +kernel
theorem d_La_law_1286 : decode code 1286 = .ok (.laload, 1) := by decide +kernel
theorem d_La_law_1287 : decode code 1287 = .ok (.lload 6, 2) := by decide +kernel
theorem d_La_law_1289 : decode code 1289 = .ok (.lcmp, 1) := by decide +kernel
theorem d_La_law_1290 : decode code 1290 = .ok (.ifCond .eq 5, 3) := by decide +kernel
theorem d_La_law_1293 : decode code 1293 = .ok (.iconst 0, 1) := by decide +kernel
theorem d_La_law_1294 : decode code 1294 = .ok (.ireturn, 1) := by decide +kernel
theorem d_La_law_1295 : decode code 1295 = .ok (.goto 103, 3) := by decide +kernel
theorem d_La_law_1298 : decode code 1298 = .ok (.aload_n 1, 1) := by decide +kernel
theorem d_La_law_1299 : decode code 1299 = .ok (.aload_n 3, 1) := by decide +kernel
theorem d_La_law_1300 : decode code 1300 = .ok (.invokestatic 141, 3) := by decide +kernel
theorem d_La_law_1303 : decode code 1303 = .ok (.istore 5, 2) := by decide +kernel
theorem d_La_law_1305 : decode code 1305 = .ok (.aload_n 2, 1) := by decide +kernel
theorem d_La_law_1306 : decode code 1306 = .ok (.invokevirtual 143, 3) := by decide +kernel
theorem d_La_law_1309 : decode code 1309 = .ok (.istore 6, 2) := by decide +kernel
theorem d_La_law_1311 : decode code 1311 = .ok (.aload_n 2, 1) := by decide +kernel
theorem d_La_law_1312 : decode code 1312 = .ok (.invokevirtual 85, 3) := by decide +kernel
theorem d_La_law_1315 : decode code 1315 = .ok (.iload 5, 2) := by decide +kernel
theorem d_La_law_1317 : decode code 1317 = .ok (.if_icmp .eq 5, 3) := by decide +kernel
theorem d_La_law_1320 : decode code 1320 = .ok (.iconst 0, 1) := by decide +kernel
theorem d_La_law_1321 : decode code 1321 = .ok (.ireturn, 1) := by decide +kernel
theorem d_La_law_1322 : decode code 1322 = .ok (.iload 5, 2) := by decide +kernel
theorem d_La_law_1324 : decode code 1324 = .ok (.ifCond .ne 15, 3) := by decide +kernel
theorem d_La_law_1327 : decode code 1327 = .ok (.aload_n 3, 1) := by decide +kernel
theorem d_La_law_1328 : decode code 1328 = .ok (.iconst 0, 1) := by decide +kernel
theorem d_La_law_1329 : decode code 1329 = .ok (.laload, 1) := by decide +kernel
theorem d_La_law_1330 : decode code 1330 = .ok (.iload 6, 2) := by decide +kernel
theorem d_La_law_1332 : decode code 1332 = .ok (.i2l, 1) := by decide +kernel
theorem d_La_law_1333 : decode code 1333 = .ok (.lcmp, 1) := by decide +kernel
theorem d_La_law_1334 : decode code 1334 = .ok (.ifCond .eq 5, 3) := by decide +kernel
theorem d_La_law_1337 : decode code 1337 = .ok (.iconst 0, 1) := by decide +kernel
theorem d_La_law_1338 : decode code 1338 = .ok (.ireturn, 1) := by decide +kernel
theorem d_La_law_1339 : decode code 1339 = .ok (.goto 59, 3) := by decide +kernel
theorem d_La_law_1342 : decode code 1342 = .ok (.aload_n 1, 1) := by decide +kernel
theorem d_La_law_1343 : decode code 1343 = .ok (.aload_n 0, 1) := by decide +kernel
theorem d_La_law_1344 : decode code 1344 = .ok (.iload 4, 2) := by decide +kernel
theorem d_La_law_1346 : decode code 1346 = .ok (.iconst 1, 1) := by decide +kernel
theorem d_La_law_1347 : decode code 1347 = .ok (.iadd, 1) := by decide +kernel
theorem d_La_law_1348 : decode code 1348 = .ok (.iaload, 1) := by decide +kernel
theorem d_La_law_1349 : decode code 1349 = .ok (.aload_n 3, 1) := by decide +kernel
theorem d_La_law_1350 : decode code 1350 = .ok (.invokestatic 144, 3) := by decide +kernel
theorem d_La_law_1353 : decode code 1353 = .ok (.istore 5, 2) := by decide +kernel
theorem d_La_law_1355 : decode code 1355 = .ok (.aload_n 2, 1) := by decide +kernel
theorem d_La_law_1356 : decode code 1356 = .ok (.aload_n 0, 1) := by decide +kernel
theorem d_La_law_1357 : decode code 1357 = .ok (.iload 4, 2) := by decide +kernel
theorem d_La_law_1359 : decode code 1359 = .ok (.iconst 1, 1) := by decide +kernel
theorem d_La_law_1360 : decode code 1360 = .ok (.iadd, 1) := by decide +kernel
theorem d_La_law_1361 : decode code 1361 = .ok (.iaload, 1) := by decide +kernel
theorem d_La_law_1362 : decode code 1362 = .ok (.invokevirtual 146, 3) := by decide +kernel
theorem d_La_law_1365 : decode code 1365 = .ok (.istore 6, 2) := by decide +kernel
theorem d_La_law_1367 : decode code 1367 = .ok (.aload_n 2, 1) := by decide +kernel
theorem d_La_law_1368 : decode code 1368 = .ok (.invokevirtual 85, 3) := by decide +kernel
theorem d_La_law_1371 : decode code 1371 = .ok (.iload 5, 2) := by decide +kernel
theorem d_La_law_1373 : decode code 1373 = .ok (.if_icmp .eq 5, 3) := by decide +kernel
theorem d_La_law_1376 : decode code 1376 = .ok (.iconst 0, 1) := by decide +kernel
theorem d_La_law_1377 : decode code 1377 = .ok (.ireturn, 1) := by decide +kernel
theorem d_La_law_1378 : decode code 1378 = .ok (.iload 5, 2) := by decide +kernel
theorem d_La_law_1380 : decode code 1380 = .ok (.ifCond .ne 15, 3) := by decide +kernel
theorem d_La_law_1383 : decode code 1383 = .ok (.aload_n 3, 1) := by decide +kernel
theorem d_La_law_1384 : decode code 1384 = .ok (.iconst 0, 1) := by decide +kernel
theorem d_La_law_1385 : decode code 1385 = .ok (.laload, 1) := by decide +kernel
theorem d_La_law_1386 : decode code 1386 = .ok (.iload 6, 2) := by decide +kernel
theorem d_La_law_1388 : decode code 1388 = .ok (.i2l, 1) := by decide +kernel
theorem d_La_law_1389 : decode code 1389 = .ok (.lcmp, 1) := by decide +kernel
theorem d_La_law_1390 : decode code 1390 = .ok (.ifCond .eq 5, 3) := by decide +kernel
theorem d_La_law_1393 : decode code 1393 = .ok (.iconst 0, 1) := by decide +kernel
theorem d_La_law_1394 : decode code 1394 = .ok (.ireturn, 1) := by decide +kernel
theorem d_La_law_1395 : decode code 1395 = .ok (.goto 3, 3) := by decide +kernel
theorem d_La_law_1398 : decode code 1398 = .ok (.iinc 4 6, 3) := by decide +kernel
theorem d_La_law_1401 : decode code 1401 = .ok (.goto (-1378), 3) := by decide +kernel
theorem d_La_law_1404 : decode code 1404 = .ok (.iconst 1, 1) := by decide +kernel
theorem d_La_law_1405 : decode code 1405 = .ok (.ireturn, 1) := by decide +kernel
