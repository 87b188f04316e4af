theorem dL_put_0 : decode cL_put 0 = .ok (.aload_n 1, 1) := by decide +kernel
theorem dL_put_1 : decode cL_put 1 = .ok (.iconst 1, 1) := by decide +kernel
theorem dL_put_2 : decode cL_put 2 = .ok (.aload_n 1, 1) := by decide +kernel
theorem dL_put_3 : decode cL_put 3 = .ok (.iconst 0, 1) := by decide +kernel
theorem dL_put_4 : decode cL_put 4 = .ok (.iaload, 1) := by decide +kernel
theorem dL_put_5 : decode cL_put 5 = .ok (.bipush 20, 2) := by decide +kernel
theorem dL_put_7 : decode cL_put 7 = .ok (.irem, 1) := by decide +kernel
theorem dL_put_8 : decode cL_put 8 = .ok (.iconst 4, 1) := by decide +kernel
theorem dL_put_9 : decode cL_put 9 = .ok (.idiv, 1) := by decide +kernel
theorem dL_put_10 : decode cL_put 10 = .ok (.iadd, 1) := by decide +kernel
theorem dL_put_11 : decode cL_put 11 = .ok (.dup2, 1) := by decide +kernel
theorem dL_put_12 : decode cL_put 12 = .ok (.iaload, 1) := by decide +kernel
theorem dL_put_13 : decode cL_put 13 = .ok (.iload_n 2, 1) := by decide +kernel
theorem dL_put_14 : decode cL_put 14 = .ok (.bipush 24, 2) := by decide +kernel
theorem dL_put_16 : decode cL_put 16 = .ok (.bipush 8, 2) := by decide +kernel
theorem dL_put_18 : decode cL_put 18 = .ok (.aload_n 1, 1) := by decide +kernel
theorem dL_put_19 : decode cL_put 19 = .ok (.iconst 0, 1) := by decide +kernel
theorem dL_put_20 : decode cL_put 20 = .ok (.iaload, 1) := by decide +kernel
theorem dL_put_21 : decode cL_put 21 = .ok (.iconst 4, 1) := by decide +kernel
theorem dL_put_22 : decode cL_put 22 = .ok (.irem, 1) := by decide +kernel
theorem dL_put_23 : decode cL_put 23 = .ok (.imul, 1) := by decide +kernel
theorem dL_put_24 : decode cL_put 24 = .ok (.isub, 1) := by decide +kernel
theorem dL_put_25 : decode cL_put 25 = .ok (.ishl, 1) := by decide +kernel
theorem dL_put_26 : decode cL_put 26 = .ok (.ior, 1) := by decide +kernel
theorem dL_put_27 : decode cL_put 27 = .ok (.iastore, 1) := by decide +kernel
theorem dL_put_28 : decode cL_put 28 = .ok (.aload_n 1, 1) := by decide +kernel
theorem dL_put_29 : decode cL_put 29 = .ok (.iconst 0, 1) := by decide +kernel
theorem dL_put_30 : decode cL_put 30 = .ok (.dup2, 1) := by decide +kernel
theorem dL_put_31 : decode cL_put 31 = .ok (.iaload, 1) := by decide +kernel
theorem dL_put_32 : decode cL_put 32 = .ok (.iconst 1, 1) := by decide +kernel
theorem dL_put_33 : decode cL_put 33 = .ok (.iadd, 1) := by decide +kernel
theorem dL_put_34 : decode cL_put 34 = .ok (.iastore, 1) := by decide +kernel
theorem dL_put_35 : decode cL_put 35 = .ok (.aload_n 1, 1) := by decide +kernel
theorem dL_put_36 : decode cL_put 36 = .ok (.iconst 0, 1) := by decide +kernel
theorem dL_put_37 : decode cL_put 37 = .ok (.iaload, 1) := by decide +kernel
theorem dL_put_38 : decode cL_put 38 = .ok (.bipush 20, 2) := by decide +kernel
theorem dL_put_40 : decode cL_put 40 = .ok (.irem, 1) := by decide +kernel
theorem dL_put_41 : decode cL_put 41 = .ok (.ifCond .ne 8, 3) := by decide +kernel
theorem dL_put_44 : decode cL_put 44 = .ok (.aload_n 0, 1) := by decide +kernel
theorem dL_put_45 : decode cL_put 45 = .ok (.aload_n 1, 1) := by decide +kernel
theorem dL_put_46 : decode cL_put 46 = .ok (.invokestatic 7, 3) := by decide +kernel
theorem dL_put_49 : decode cL_put 49 = .ok (.return_, 1) := by decide +kernel
theorem dL_flush_0 : decode cL_flush 0 = .ok (.aload_n 0, 1) := by decide +kernel
theorem dL_flush_1 : decode cL_flush 1 = .ok (.aload_n 1, 1) := by decide +kernel
theorem dL_flush_2 : decode cL_flush 2 = .ok (.iconst 1, 1) := by decide +kernel
theorem dL_flush_3 : decode cL_flush 3 = .ok (.iaload, 1) := by decide +kernel
theorem dL_flush_4 : decode cL_flush 4 = .ok (.aload_n 1, 1) := by decide +kernel
theorem dL_flush_5 : decode cL_flush 5 = .ok (.iconst 2, 1) := by decide +kernel
theorem dL_flush_6 : decode cL_flush 6 = .ok (.iaload, 1) := by decide +kernel
theorem dL_flush_7 : decode cL_flush 7 = .ok (.aload_n 1, 1) := by decide +kernel
theorem dL_flush_8 : decode cL_flush 8 = .ok (.iconst 3, 1) := by decide +kernel
theorem dL_flush_9 : decode cL_flush 9 = .ok (.iaload, 1) := by decide +kernel
theorem dL_flush_10 : decode cL_flush 10 = .ok (.aload_n 1, 1) := by decide +kernel
theorem dL_flush_11 : decode cL_flush 11 = .ok (.iconst 4, 1) := by decide +kernel
theorem dL_flush_12 : decode cL_flush 12 = .ok (.iaload, 1) := by decide +kernel
theorem dL_flush_13 : decode cL_flush 13 = .ok (.aload_n 1, 1) := by decide +kernel
theorem dL_flush_14 : decode cL_flush 14 = .ok (.iconst 5, 1) := by decide +kernel
theorem dL_flush_15 : decode cL_flush 15 = .ok (.iaload, 1) := by decide +kernel
theorem dL_flush_16 : decode cL_flush 16 = .ok (.invokevirtual 13, 3) := by decide +kernel
theorem dL_flush_19 : decode cL_flush 19 = .ok (.pop, 1) := by decide +kernel
theorem dL_flush_20 : decode cL_flush 20 = .ok (.iconst 1, 1) := by decide +kernel
theorem dL_flush_21 : decode cL_flush 21 = .ok (.istore_n 2, 1) := by decide +kernel
theorem dL_flush_22 : decode cL_flush 22 = .ok (.iload_n 2, 1) := by decide +kernel
theorem dL_flush_23 : decode cL_flush 23 = .ok (.bipush 6, 2) := by decide +kernel
theorem dL_flush_25 : decode cL_flush 25 = .ok (.if_icmp .ge 13, 3) := by decide +kernel
theorem dL_flush_28 : decode cL_flush 28 = .ok (.aload_n 1, 1) := by decide +kernel
theorem dL_flush_29 : decode cL_flush 29 = .ok (.iload_n 2, 1) := by decide +kernel
theorem dL_flush_30 : decode cL_flush 30 = .ok (.iconst 0, 1) := by decide +kernel
theorem dL_flush_31 : decode cL_flush 31 = .ok (.iastore, 1) := by decide +kernel
theorem dL_flush_32 : decode cL_flush 32 = .ok (.iinc 2 1, 3) := by decide +kernel
theorem dL_flush_35 : decode cL_flush 35 = .ok (.goto (-13), 3) := by decide +kernel
theorem dL_flush_38 : decode cL_flush 38 = .ok (.return_, 1) := by decide +kernel
theorem dL_loadText_0 : decode cL_loadText 0 = .ok (.aload_n 1, 1) := by decide +kernel
theorem dL_loadText_1 : decode cL_loadText 1 = .ok (.iconst 0, 1) := by decide +kernel
theorem dL_loadText_2 : decode cL_loadText 2 = .ok (.iaload, 1) := by decide +kernel
theorem dL_loadText_3 : decode cL_loadText 3 = .ok (.istore_n 2, 1) := by decide +kernel
theorem dL_loadText_4 : decode cL_loadText 4 = .ok (.iload_n 2, 1) := by decide +kernel
theorem dL_loadText_5 : decode cL_loadText 5 = .ok (.bipush 20, 2) := by decide +kernel
theorem dL_loadText_7 : decode cL_loadText 7 = .ok (.irem, 1) := by decide +kernel
theorem dL_loadText_8 : decode cL_loadText 8 = .ok (.ifCond .le 8, 3) := by decide +kernel
theorem dL_loadText_11 : decode cL_loadText 11 = .ok (.aload_n 0, 1) := by decide +kernel
theorem dL_loadText_12 : decode cL_loadText 12 = .ok (.aload_n 1, 1) := by decide +kernel
theorem dL_loadText_13 : decode cL_loadText 13 = .ok (.invokestatic 7, 3) := by decide +kernel
theorem dL_loadText_16 : decode cL_loadText 16 = .ok (.aload_n 1, 1) := by decide +kernel
theorem dL_loadText_17 : decode cL_loadText 17 = .ok (.iconst 0, 1) := by decide +kernel
theorem dL_loadText_18 : decode cL_loadText 18 = .ok (.iconst 0, 1) := by decide +kernel
theorem dL_loadText_19 : decode cL_loadText 19 = .ok (.iastore, 1) := by decide +kernel
theorem dL_loadText_20 : decode cL_loadText 20 = .ok (.aload_n 0, 1) := by decide +kernel
theorem dL_loadText_21 : decode cL_loadText 21 = .ok (.iload_n 2, 1) := by decide +kernel
theorem dL_loadText_22 : decode cL_loadText 22 = .ok (.invokestatic 19, 3) := by decide +kernel
theorem dL_loadText_25 : decode cL_loadText 25 = .ok (.ireturn, 1) := by decide +kernel
theorem dL_write_0 : decode cL_write 0 = .ok (.iconst 0, 1) := by decide +kernel
theorem dL_write_1 : decode cL_write 1 = .ok (.istore_n 3, 1) := by decide +kernel
theorem dL_write_2 : decode cL_write 2 = .ok (.iload_n 3, 1) := by decide +kernel
theorem dL_write_3 : decode cL_write 3 = .ok (.aload_n 2, 1) := by decide +kernel
theorem dL_write_4 : decode cL_write 4 = .ok (.invokevirtual 23, 3) := by decide +kernel
theorem dL_write_7 : decode cL_write 7 = .ok (.if_icmp .ge 19, 3) := by decide +kernel
theorem dL_write_10 : decode cL_write 10 = .ok (.aload_n 0, 1) := by decide +kernel
theorem dL_write_11 : decode cL_write 11 = .ok (.aload_n 1, 1) := by decide +kernel
theorem dL_write_12 : decode cL_write 12 = .ok (.aload_n 2, 1) := by decide +kernel
theorem dL_write_13 : decode cL_write 13 = .ok (.iload_n 3, 1) := by decide +kernel
theorem dL_write_14 : decode cL_write 14 = .ok (.invokevirtual 29, 3) := by decide +kernel
theorem dL_write_17 : decode cL_write 17 = .ok (.invokestatic 33, 3) := by decide +kernel
theorem dL_write_20 : decode cL_write 20 = .ok (.iinc 3 1, 3) := by decide +kernel
theorem dL_write_23 : decode cL_write 23 = .ok (.goto (-21), 3) := by decide +kernel
theorem dL_write_26 : decode cL_write 26 = .ok (.return_, 1) := by decide +kernel
theorem dL_writeNumber_0 : decode cL_writeNumber 0 = .ok (.iconst 1, 1) := by decide +kernel
theorem dL_writeNumber_1 : decode cL_writeNumber 1 = .ok (.istore_n 3, 1) := by decide +kernel
theorem dL_writeNumber_2 : decode cL_writeNumber 2 = .ok (.iload_n 3, 1) := by decide +kernel
theorem dL_writeNumber_3 : decode cL_writeNumber 3 = .ok (.iload_n 2, 1) := by decide +kernel
theorem dL_writeNumber_4 : decode cL_writeNumber 4 = .ok (.bipush 10, 2) := by decide +kernel
theorem dL_writeNumber_6 : decode cL_writeNumber 6 = .ok (.idiv, 1) := by decide +kernel
theorem dL_writeNumber_7 : decode cL_writeNumber 7 = .ok (.if_icmp .gt 11, 3) := by decide +kernel
theorem dL_writeNumber_10 : decode cL_writeNumber 10 = .ok (.iload_n 3, 1) := by decide +kernel
theorem dL_writeNumber_11 : decode cL_writeNumber 11 = .ok (.bipush 10, 2) := by decide +kernel
theorem dL_writeNumber_13 : decode cL_writeNumber 13 = .ok (.imul, 1) := by decide +kernel
theorem dL_writeNumber_14 : decode cL_writeNumber 14 = .ok (.istore_n 3, 1) := by decide +kernel
theorem dL_writeNumber_15 : decode cL_writeNumber 15 = .ok (.goto (-13), 3) := by decide +kernel
theorem dL_writeNumber_18 : decode cL_writeNumber 18 = .ok (.iload_n 3, 1) := by decide +kernel
theorem dL_writeNumber_19 : decode cL_writeNumber 19 = .ok (.ifCond .le 25, 3) := by decide +kernel
theorem dL_writeNumber_22 : decode cL_writeNumber 22 = .ok (.aload_n 0, 1) := by decide +kernel
theorem dL_writeNumber_23 : decode cL_writeNumber 23 = .ok (.aload_n 1, 1) := by decide +kernel
theorem dL_writeNumber_24 : decode cL_writeNumber 24 = .ok (.bipush 48, 2) := by decide +kernel
theorem dL_writeNumber_26 : decode cL_writeNumber 26 = .ok (.iload_n 2, 1) := by decide +kernel
theorem dL_writeNumber_27 : decode cL_writeNumber 27 = .ok (.iload_n 3, 1) := by decide +kernel
theorem dL_writeNumber_28 : decode cL_writeNumber 28 = .ok (.idiv, 1) := by decide +kernel
theorem dL_writeNumber_29 : decode cL_writeNumber 29 = .ok (.bipush 10, 2) := by decide +kernel
theorem dL_writeNumber_31 : decode cL_writeNumber 31 = .ok (.irem, 1) := by decide +kernel
theorem dL_writeNumber_32 : decode cL_writeNumber 32 = .ok (.iadd, 1) := by decide +kernel
theorem dL_writeNumber_33 : decode cL_writeNumber 33 = .ok (.invokestatic 33, 3) := by decide +kernel
theorem dL_writeNumber_36 : decode cL_writeNumber 36 = .ok (.iload_n 3, 1) := by decide +kernel
theorem dL_writeNumber_37 : decode cL_writeNumber 37 = .ok (.bipush 10, 2) := by decide +kernel
theorem dL_writeNumber_39 : decode cL_writeNumber 39 = .ok (.idiv, 1) := by decide +kernel
theorem dL_writeNumber_40 : decode cL_writeNumber 40 = .ok (.istore_n 3, 1) := by decide +kernel
theorem dL_writeNumber_41 : decode cL_writeNumber 41 = .ok (.goto (-23), 3) := by decide +kernel
theorem dL_writeNumber_44 : decode cL_writeNumber 44 = .ok (.return_, 1) := by decide +kernel
theorem dL_load_0 : decode cL_load 0 = .ok (.aload_n 0, 1) := by decide +kernel
theorem dL_load_1 : decode cL_load 1 = .ok (.iload_n 1, 1) := by decide +kernel
theorem dL_load_2 : decode cL_load 2 = .ok (.invokevirtual 37, 3) := by decide +kernel
theorem dL_load_5 : decode cL_load 5 = .ok (.ireturn, 1) := by decide +kernel
theorem dL_load_6 : decode cL_load 6 = .ok (.astore_n 2, 1) := by decide +kernel
theorem dL_load_7 : decode cL_load 7 = .ok (.ldc 42, 2) := by decide +kernel
theorem dL_load_9 : decode cL_load 9 = .ok (.ireturn, 1) := by decide +kernel
theorem dL_state_0 : decode cL_state 0 = .ok (.aload_n 0, 1) := by decide +kernel
theorem dL_state_1 : decode cL_state 1 = .ok (.iload_n 1, 1) := by decide +kernel
theorem dL_state_2 : decode cL_state 2 = .ok (.invokevirtual 43, 3) := by decide +kernel
theorem dL_state_5 : decode cL_state 5 = .ok (.ireturn, 1) := by decide +kernel
theorem dL_state_6 : decode cL_state 6 = .ok (.astore_n 2, 1) := by decide +kernel
theorem dL_state_7 : decode cL_state 7 = .ok (.ldc 42, 2) := by decide +kernel
theorem dL_state_9 : decode cL_state 9 = .ok (.ireturn, 1) := by decide +kernel
theorem dL_lot_0 : decode cL_lot 0 = .ok (.aload_n 0, 1) := by decide +kernel
theorem dL_lot_1 : decode cL_lot 1 = .ok (.iload_n 1, 1) := by decide +kernel
theorem dL_lot_2 : decode cL_lot 2 = .ok (.iload_n 2, 1) := by decide +kernel
theorem dL_lot_3 : decode cL_lot 3 = .ok (.invokevirtual 46, 3) := by decide +kernel
theorem dL_lot_6 : decode cL_lot 6 = .ok (.ireturn, 1) := by decide +kernel
theorem dL_lot_7 : decode cL_lot 7 = .ok (.astore_n 3, 1) := by decide +kernel
theorem dL_lot_8 : decode cL_lot 8 = .ok (.ldc 52, 2) := by decide +kernel
theorem dL_lot_10 : decode cL_lot 10 = .ok (.ireturn, 1) := by decide +kernel
theorem dL_lot_11 : decode cL_lot 11 = .ok (.astore_n 3, 1) := by decide +kernel
theorem dL_lot_12 : decode cL_lot 12 = .ok (.ldc 42, 2) := by decide +kernel
theorem dL_lot_14 : decode cL_lot 14 = .ok (.ireturn, 1) := by decide +kernel
theorem dL_page_0 : decode cL_page 0 = .ok (.aload_n 0, 1) := by decide +kernel
theorem dL_page_1 : decode cL_page 1 = .ok (.iload_n 1, 1) := by decide +kernel
theorem dL_page_2 : decode cL_page 2 = .ok (.iload_n 2, 1) := by decide +kernel
theorem dL_page_3 : decode cL_page 3 = .ok (.invokevirtual 53, 3) := by decide +kernel
theorem dL_page_6 : decode cL_page 6 = .ok (.ireturn, 1) := by decide +kernel
theorem dL_page_7 : decode cL_page 7 = .ok (.astore_n 3, 1) := by decide +kernel
theorem dL_page_8 : decode cL_page 8 = .ok (.ldc 52, 2) := by decide +kernel
theorem dL_page_10 : decode cL_page 10 = .ok (.ireturn, 1) := by decide +kernel
theorem dL_page_11 : decode cL_page 11 = .ok (.astore_n 3, 1) := by decide +kernel
theorem dL_page_12 : decode cL_page 12 = .ok (.ldc 42, 2) := by decide +kernel
theorem dL_page_14 : decode cL_page 14 = .ok (.ireturn, 1) := by decide +kernel
theorem dL_standing_0 : decode cL_standing 0 = .ok (.aload_n 0, 1) := by decide +kernel
theorem dL_standing_1 : decode cL_standing 1 = .ok (.iload_n 1, 1) := by decide +kernel
theorem dL_standing_2 : decode cL_standing 2 = .ok (.iload_n 2, 1) := by decide +kernel
theorem dL_standing_3 : decode cL_standing 3 = .ok (.invokevirtual 56, 3) := by decide +kernel
theorem dL_standing_6 : decode cL_standing 6 = .ok (.ireturn, 1) := by decide +kernel
theorem dL_standing_7 : decode cL_standing 7 = .ok (.astore_n 3, 1) := by decide +kernel
theorem dL_standing_8 : decode cL_standing 8 = .ok (.ldc 52, 2) := by decide +kernel
theorem dL_standing_10 : decode cL_standing 10 = .ok (.ireturn, 1) := by decide +kernel
theorem dL_standing_11 : decode cL_standing 11 = .ok (.astore_n 3, 1) := by decide +kernel
theorem dL_standing_12 : decode cL_standing 12 = .ok (.ldc 42, 2) := by decide +kernel
theorem dL_standing_14 : decode cL_standing 14 = .ok (.ireturn, 1) := by decide +kernel
theorem dL_numbered_0 : decode cL_numbered 0 = .ok (.aload_n 0, 1) := by decide +kernel
theorem dL_numbered_1 : decode cL_numbered 1 = .ok (.iload_n 1, 1) := by decide +kernel
theorem dL_numbered_2 : decode cL_numbered 2 = .ok (.invokevirtual 59, 3) := by decide +kernel
theorem dL_numbered_5 : decode cL_numbered 5 = .ok (.ireturn, 1) := by decide +kernel
theorem dL_numbered_6 : decode cL_numbered 6 = .ok (.astore_n 2, 1) := by decide +kernel
theorem dL_numbered_7 : decode cL_numbered 7 = .ok (.ldc 64, 2) := by decide +kernel
theorem dL_numbered_9 : decode cL_numbered 9 = .ok (.ireturn, 1) := by decide +kernel
theorem dL_different_0 : decode cL_different 0 = .ok (.aload_n 0, 1) := by decide +kernel
theorem dL_different_1 : decode cL_different 1 = .ok (.iload_n 1, 1) := by decide +kernel
theorem dL_different_2 : decode cL_different 2 = .ok (.invokevirtual 65, 3) := by decide +kernel
theorem dL_different_5 : decode cL_different 5 = .ok (.ireturn, 1) := by decide +kernel
theorem dL_different_6 : decode cL_different 6 = .ok (.astore_n 2, 1) := by decide +kernel
theorem dL_different_7 : decode cL_different 7 = .ok (.ldc 64, 2) := by decide +kernel
theorem dL_different_9 : decode cL_different 9 = .ok (.ireturn, 1) := by decide +kernel
theorem dL_choice_0 : decode cL_choice 0 = .ok (.aload_n 0, 1) := by decide +kernel
theorem dL_choice_1 : decode cL_choice 1 = .ok (.iload_n 1, 1) := by decide +kernel
theorem dL_choice_2 : decode cL_choice 2 = .ok (.iload_n 2, 1) := by decide +kernel
theorem dL_choice_3 : decode cL_choice 3 = .ok (.invokevirtual 68, 3) := by decide +kernel
theorem dL_choice_6 : decode cL_choice 6 = .ok (.ireturn, 1) := by decide +kernel
theorem dL_choice_7 : decode cL_choice 7 = .ok (.astore_n 3, 1) := by decide +kernel
theorem dL_choice_8 : decode cL_choice 8 = .ok (.ldc 42, 2) := by decide +kernel
theorem dL_choice_10 : decode cL_choice 10 = .ok (.ireturn, 1) := by decide +kernel
theorem dL_pays_0 : decode cL_pays 0 = .ok (.aload_n 0, 1) := by decide +kernel
theorem dL_pays_1 : decode cL_pays 1 = .ok (.iload_n 1, 1) := by decide +kernel
theorem dL_pays_2 : decode cL_pays 2 = .ok (.invokevirtual 71, 3) := by decide +kernel
theorem dL_pays_5 : decode cL_pays 5 = .ok (.ireturn, 1) := by decide +kernel
theorem dL_pays_6 : decode cL_pays 6 = .ok (.astore_n 2, 1) := by decide +kernel
theorem dL_pays_7 : decode cL_pays 7 = .ok (.ldc 52, 2) := by decide +kernel
theorem dL_pays_9 : decode cL_pays 9 = .ok (.ireturn, 1) := by decide +kernel
theorem dL_dearest_0 : decode cL_dearest 0 = .ok (.aload_n 0, 1) := by decide +kernel
theorem dL_dearest_1 : decode cL_dearest 1 = .ok (.iload_n 1, 1) := by decide +kernel
theorem dL_dearest_2 : decode cL_dearest 2 = .ok (.invokevirtual 74, 3) := by decide +kernel
theorem dL_dearest_5 : decode cL_dearest 5 = .ok (.ireturn, 1) := by decide +kernel
theorem dL_dearest_6 : decode cL_dearest 6 = .ok (.astore_n 2, 1) := by decide +kernel
theorem dL_dearest_7 : decode cL_dearest 7 = .ok (.ldc 64, 2) := by decide +kernel
theorem dL_dearest_9 : decode cL_dearest 9 = .ok (.ireturn, 1) := by decide +kernel
theorem dL_seller_0 : decode cL_seller 0 = .ok (.aload_n 0, 1) := by decide +kernel
theorem dL_seller_1 : decode cL_seller 1 = .ok (.iload_n 1, 1) := by decide +kernel
theorem dL_seller_2 : decode cL_seller 2 = .ok (.iload_n 2, 1) := by decide +kernel
theorem dL_seller_3 : decode cL_seller 3 = .ok (.invokevirtual 77, 3) := by decide +kernel
theorem dL_seller_6 : decode cL_seller 6 = .ok (.ireturn, 1) := by decide +kernel
theorem dL_seller_7 : decode cL_seller 7 = .ok (.astore_n 3, 1) := by decide +kernel
theorem dL_seller_8 : decode cL_seller 8 = .ok (.ldc 42, 2) := by decide +kernel
theorem dL_seller_10 : decode cL_seller 10 = .ok (.ireturn, 1) := by decide +kernel
theorem dL_through_0 : decode cL_through 0 = .ok (.aload_n 0, 1) := by decide +kernel
theorem dL_through_1 : decode cL_through 1 = .ok (.iload_n 1, 1) := by decide +kernel
theorem dL_through_2 : decode cL_through 2 = .ok (.invokevirtual 80, 3) := by decide +kernel
theorem dL_through_5 : decode cL_through 5 = .ok (.ireturn, 1) := by decide +kernel
theorem dL_through_6 : decode cL_through 6 = .ok (.astore_n 2, 1) := by decide +kernel
theorem dL_through_7 : decode cL_through 7 = .ok (.ldc 64, 2) := by decide +kernel
theorem dL_through_9 : decode cL_through 9 = .ok (.ireturn, 1) := by decide +kernel
theorem dL_withdraw_0 : decode cL_withdraw 0 = .ok (.aload_n 0, 1) := by decide +kernel
theorem dL_withdraw_1 : decode cL_withdraw 1 = .ok (.iload_n 1, 1) := by decide +kernel
theorem dL_withdraw_2 : decode cL_withdraw 2 = .ok (.invokevirtual 83, 3) := by decide +kernel
theorem dL_withdraw_5 : decode cL_withdraw 5 = .ok (.ireturn, 1) := by decide +kernel
theorem dL_withdraw_6 : decode cL_withdraw 6 = .ok (.astore_n 2, 1) := by decide +kernel
theorem dL_withdraw_7 : decode cL_withdraw 7 = .ok (.ldc 52, 2) := by decide +kernel
theorem dL_withdraw_9 : decode cL_withdraw 9 = .ok (.ireturn, 1) := by decide +kernel
theorem dL_withdraw_10 : decode cL_withdraw 10 = .ok (.astore_n 2, 1) := by decide +kernel
theorem dL_withdraw_11 : decode cL_withdraw 11 = .ok (.ldc 88, 2) := by decide +kernel
theorem dL_withdraw_13 : decode cL_withdraw 13 = .ok (.ireturn, 1) := by decide +kernel
theorem dL_restore_0 : decode cL_restore 0 = .ok (.aload_n 0, 1) := by decide +kernel
theorem dL_restore_1 : decode cL_restore 1 = .ok (.iload_n 1, 1) := by decide +kernel
theorem dL_restore_2 : decode cL_restore 2 = .ok (.invokevirtual 89, 3) := by decide +kernel
theorem dL_restore_5 : decode cL_restore 5 = .ok (.ireturn, 1) := by decide +kernel
theorem dL_restore_6 : decode cL_restore 6 = .ok (.astore_n 2, 1) := by decide +kernel
theorem dL_restore_7 : decode cL_restore 7 = .ok (.ldc 52, 2) := by decide +kernel
theorem dL_restore_9 : decode cL_restore 9 = .ok (.ireturn, 1) := by decide +kernel
theorem dL_restore_10 : decode cL_restore 10 = .ok (.astore_n 2, 1) := by decide +kernel
theorem dL_restore_11 : decode cL_restore 11 = .ok (.ldc 88, 2) := by decide +kernel
theorem dL_restore_13 : decode cL_restore 13 = .ok (.ireturn, 1) := by decide +kernel
theorem dL_add_0 : decode cL_add 0 = .ok (.aload_n 0, 1) := by decide +kernel
theorem dL_add_1 : decode cL_add 1 = .ok (.iload_n 1, 1) := by decide +kernel
theorem dL_add_2 : decode cL_add 2 = .ok (.iload_n 2, 1) := by decide +kernel
theorem dL_add_3 : decode cL_add 3 = .ok (.iload_n 3, 1) := by decide +kernel
theorem dL_add_4 : decode cL_add 4 = .ok (.iload 4, 2) := by decide +kernel
theorem dL_add_6 : decode cL_add 6 = .ok (.invokevirtual 92, 3) := by decide +kernel
theorem dL_add_9 : decode cL_add 9 = .ok (.ireturn, 1) := by decide +kernel
theorem dL_add_10 : decode cL_add 10 = .ok (.astore 5, 2) := by decide +kernel
theorem dL_add_12 : decode cL_add 12 = .ok (.ldc 42, 2) := by decide +kernel
theorem dL_add_14 : decode cL_add 14 = .ok (.ireturn, 1) := by decide +kernel
theorem dL_add_15 : decode cL_add 15 = .ok (.astore 5, 2) := by decide +kernel
theorem dL_add_17 : decode cL_add 17 = .ok (.ldc 88, 2) := by decide +kernel
theorem dL_add_19 : decode cL_add 19 = .ok (.ireturn, 1) := by decide +kernel
theorem dL_carry_0 : decode cL_carry 0 = .ok (.aload_n 0, 1) := by decide +kernel
theorem dL_carry_1 : decode cL_carry 1 = .ok (.iload_n 1, 1) := by decide +kernel
theorem dL_carry_2 : decode cL_carry 2 = .ok (.invokevirtual 96, 3) := by decide +kernel
theorem dL_carry_5 : decode cL_carry 5 = .ok (.ireturn, 1) := by decide +kernel
theorem dL_carry_6 : decode cL_carry 6 = .ok (.astore_n 2, 1) := by decide +kernel
theorem dL_carry_7 : decode cL_carry 7 = .ok (.ldc 42, 2) := by decide +kernel
theorem dL_carry_9 : decode cL_carry 9 = .ok (.ireturn, 1) := by decide +kernel
theorem dL_setCost_0 : decode cL_setCost 0 = .ok (.aload_n 0, 1) := by decide +kernel
theorem dL_setCost_1 : decode cL_setCost 1 = .ok (.iload_n 1, 1) := by decide +kernel
theorem dL_setCost_2 : decode cL_setCost 2 = .ok (.iload_n 2, 1) := by decide +kernel
theorem dL_setCost_3 : decode cL_setCost 3 = .ok (.invokevirtual 99, 3) := by decide +kernel
theorem dL_setCost_6 : decode cL_setCost 6 = .ok (.ireturn, 1) := by decide +kernel
theorem dL_setCost_7 : decode cL_setCost 7 = .ok (.astore_n 3, 1) := by decide +kernel
theorem dL_setCost_8 : decode cL_setCost 8 = .ok (.ldc 42, 2) := by decide +kernel
theorem dL_setCost_10 : decode cL_setCost 10 = .ok (.ireturn, 1) := by decide +kernel
theorem dL_writeAll_0 : decode cL_writeAll 0 = .ok (.aload_n 0, 1) := by decide +kernel
theorem dL_writeAll_1 : decode cL_writeAll 1 = .ok (.aload_n 1, 1) := by decide +kernel
theorem dL_writeAll_2 : decode cL_writeAll 2 = .ok (.aload_n 2, 1) := by decide +kernel
theorem dL_writeAll_3 : decode cL_writeAll 3 = .ok (.invokestatic 102, 3) := by decide +kernel
theorem dL_writeAll_6 : decode cL_writeAll 6 = .ok (.aload_n 3, 1) := by decide +kernel
theorem dL_writeAll_7 : decode cL_writeAll 7 = .ok (.astore 4, 2) := by decide +kernel
theorem dL_writeAll_9 : decode cL_writeAll 9 = .ok (.aload 4, 2) := by decide +kernel
theorem dL_writeAll_11 : decode cL_writeAll 11 = .ok (.arraylength, 1) := by decide +kernel
theorem dL_writeAll_12 : decode cL_writeAll 12 = .ok (.istore 5, 2) := by decide +kernel
theorem dL_writeAll_14 : decode cL_writeAll 14 = .ok (.iconst 0, 1) := by decide +kernel
theorem dL_writeAll_15 : decode cL_writeAll 15 = .ok (.istore 6, 2) := by decide +kernel
theorem dL_writeAll_17 : decode cL_writeAll 17 = .ok (.iload 6, 2) := by decide +kernel
theorem dL_writeAll_19 : decode cL_writeAll 19 = .ok (.iload 5, 2) := by decide +kernel
theorem dL_writeAll_21 : decode cL_writeAll 21 = .ok (.if_icmp .ge 30, 3) := by decide +kernel
theorem dL_writeAll_24 : decode cL_writeAll 24 = .ok (.aload 4, 2) := by decide +kernel
theorem dL_writeAll_26 : decode cL_writeAll 26 = .ok (.iload 6, 2) := by decide +kernel
theorem dL_writeAll_28 : decode cL_writeAll 28 = .ok (.iaload, 1) := by decide +kernel
theorem dL_writeAll_29 : decode cL_writeAll 29 = .ok (.istore 7, 2) := by decide +kernel
theorem dL_writeAll_31 : decode cL_writeAll 31 = .ok (.aload_n 0, 1) := by decide +kernel
theorem dL_writeAll_32 : decode cL_writeAll 32 = .ok (.aload_n 1, 1) := by decide +kernel
theorem dL_writeAll_33 : decode cL_writeAll 33 = .ok (.ldc 106, 2) := by decide +kernel
theorem dL_writeAll_35 : decode cL_writeAll 35 = .ok (.invokestatic 102, 3) := by decide +kernel
theorem dL_writeAll_38 : decode cL_writeAll 38 = .ok (.aload_n 0, 1) := by decide +kernel
theorem dL_writeAll_39 : decode cL_writeAll 39 = .ok (.aload_n 1, 1) := by decide +kernel
theorem dL_writeAll_40 : decode cL_writeAll 40 = .ok (.iload 7, 2) := by decide +kernel
theorem dL_writeAll_42 : decode cL_writeAll 42 = .ok (.invokestatic 108, 3) := by decide +kernel
theorem dL_writeAll_45 : decode cL_writeAll 45 = .ok (.iinc 6 1, 3) := by decide +kernel
theorem dL_writeAll_48 : decode cL_writeAll 48 = .ok (.goto (-31), 3) := by decide +kernel
theorem dL_writeAll_51 : decode cL_writeAll 51 = .ok (.return_, 1) := by decide +kernel
theorem dL_randomBill_0 : decode cL_randomBill 0 = .ok (.new 111, 3) := by decide +kernel
theorem dL_randomBill_3 : decode cL_randomBill 3 = .ok (.dup, 1) := by decide +kernel
theorem dL_randomBill_4 : decode cL_randomBill 4 = .ok (.invokespecial 113, 3) := by decide +kernel
theorem dL_randomBill_7 : decode cL_randomBill 7 = .ok (.astore_n 3, 1) := by decide +kernel
theorem dL_randomBill_8 : decode cL_randomBill 8 = .ok (.aload_n 3, 1) := by decide +kernel
theorem dL_randomBill_9 : decode cL_randomBill 9 = .ok (.iconst 4, 1) := by decide +kernel
theorem dL_randomBill_10 : decode cL_randomBill 10 = .ok (.aload_n 2, 1) := by decide +kernel
theorem dL_randomBill_11 : decode cL_randomBill 11 = .ok (.bipush 8, 2) := by decide +kernel
theorem dL_randomBill_13 : decode cL_randomBill 13 = .ok (.invokevirtual 114, 3) := by decide +kernel
theorem dL_randomBill_16 : decode cL_randomBill 16 = .ok (.iadd, 1) := by decide +kernel
theorem dL_randomBill_17 : decode cL_randomBill 17 = .ok (.putfield 119, 3) := by decide +kernel
theorem dL_randomBill_20 : decode cL_randomBill 20 = .ok (.aload_n 0, 1) := by decide +kernel
theorem dL_randomBill_21 : decode cL_randomBill 21 = .ok (.aload_n 1, 1) := by decide +kernel
theorem dL_randomBill_22 : decode cL_randomBill 22 = .ok (.ldc 123, 2) := by decide +kernel
theorem dL_randomBill_24 : decode cL_randomBill 24 = .ok (.iconst 1, 1) := by decide +kernel
theorem dL_randomBill_25 : decode cL_randomBill 25 = .ok (.newarray .int, 2) := by decide +kernel
theorem dL_randomBill_27 : decode cL_randomBill 27 = .ok (.dup, 1) := by decide +kernel
theorem dL_randomBill_28 : decode cL_randomBill 28 = .ok (.iconst 0, 1) := by decide +kernel
theorem dL_randomBill_29 : decode cL_randomBill 29 = .ok (.aload_n 3, 1) := by decide +kernel
theorem dL_randomBill_30 : decode cL_randomBill 30 = .ok (.getfield 119, 3) := by decide +kernel
theorem dL_randomBill_33 : decode cL_randomBill 33 = .ok (.iastore, 1) := by decide +kernel
theorem dL_randomBill_34 : decode cL_randomBill 34 = .ok (.invokestatic 125, 3) := by decide +kernel
theorem dL_randomBill_37 : decode cL_randomBill 37 = .ok (.aload_n 0, 1) := by decide +kernel
theorem dL_randomBill_38 : decode cL_randomBill 38 = .ok (.aload_n 1, 1) := by decide +kernel
theorem dL_randomBill_39 : decode cL_randomBill 39 = .ok (.ldc 129, 2) := by decide +kernel
theorem dL_randomBill_41 : decode cL_randomBill 41 = .ok (.invokestatic 102, 3) := by decide +kernel
theorem dL_randomBill_44 : decode cL_randomBill 44 = .ok (.aload_n 2, 1) := by decide +kernel
theorem dL_randomBill_45 : decode cL_randomBill 45 = .ok (.bipush 9, 2) := by decide +kernel
theorem dL_randomBill_47 : decode cL_randomBill 47 = .ok (.invokevirtual 114, 3) := by decide +kernel
theorem dL_randomBill_50 : decode cL_randomBill 50 = .ok (.istore 4, 2) := by decide +kernel
theorem dL_randomBill_52 : decode cL_randomBill 52 = .ok (.iconst 0, 1) := by decide +kernel
theorem dL_randomBill_53 : decode cL_randomBill 53 = .ok (.istore 5, 2) := by decide +kernel
theorem dL_randomBill_55 : decode cL_randomBill 55 = .ok (.iconst 0, 1) := by decide +kernel
theorem dL_randomBill_56 : decode cL_randomBill 56 = .ok (.istore 6, 2) := by decide +kernel
theorem dL_randomBill_58 : decode cL_randomBill 58 = .ok (.iload 6, 2) := by decide +kernel
theorem dL_randomBill_60 : decode cL_randomBill 60 = .ok (.iload 4, 2) := by decide +kernel
theorem dL_randomBill_62 : decode cL_randomBill 62 = .ok (.if_icmp .ge 189, 3) := by decide +kernel
theorem dL_randomBill_65 : decode cL_randomBill 65 = .ok (.new 131, 3) := by decide +kernel
theorem dL_randomBill_68 : decode cL_randomBill 68 = .ok (.dup, 1) := by decide +kernel
theorem dL_randomBill_69 : decode cL_randomBill 69 = .ok (.invokespecial 133, 3) := by decide +kernel
theorem dL_randomBill_72 : decode cL_randomBill 72 = .ok (.astore 7, 2) := by decide +kernel
theorem dL_randomBill_74 : decode cL_randomBill 74 = .ok (.aload 7, 2) := by decide +kernel
theorem dL_randomBill_76 : decode cL_randomBill 76 = .ok (.iconst 1, 1) := by decide +kernel
theorem dL_randomBill_77 : decode cL_randomBill 77 = .ok (.aload_n 2, 1) := by decide +kernel
theorem dL_randomBill_78 : decode cL_randomBill 78 = .ok (.iconst 4, 1) := by decide +kernel
theorem dL_randomBill_79 : decode cL_randomBill 79 = .ok (.aload_n 3, 1) := by decide +kernel
theorem dL_randomBill_80 : decode cL_randomBill 80 = .ok (.getfield 119, 3) := by decide +kernel
theorem dL_randomBill_83 : decode cL_randomBill 83 = .ok (.invokestatic 134, 3) := by decide +kernel
theorem dL_randomBill_86 : decode cL_randomBill 86 = .ok (.invokevirtual 114, 3) := by decide +kernel
theorem dL_randomBill_89 : decode cL_randomBill 89 = .ok (.iadd, 1) := by decide +kernel
theorem dL_randomBill_90 : decode cL_randomBill 90 = .ok (.putfield 139, 3) := by decide +kernel
theorem dL_randomBill_93 : decode cL_randomBill 93 = .ok (.aload 7, 2) := by decide +kernel
theorem dL_randomBill_95 : decode cL_randomBill 95 = .ok (.aload_n 2, 1) := by decide +kernel
theorem dL_randomBill_96 : decode cL_randomBill 96 = .ok (.bipush 60, 2) := by decide +kernel
theorem dL_randomBill_98 : decode cL_randomBill 98 = .ok (.invokevirtual 114, 3) := by decide +kernel
theorem dL_randomBill_101 : decode cL_randomBill 101 = .ok (.putfield 142, 3) := by decide +kernel
theorem dL_randomBill_104 : decode cL_randomBill 104 = .ok (.aload 7, 2) := by decide +kernel
theorem dL_randomBill_106 : decode cL_randomBill 106 = .ok (.aload_n 2, 1) := by decide +kernel
theorem dL_randomBill_107 : decode cL_randomBill 107 = .ok (.iconst 3, 1) := by decide +kernel
theorem dL_randomBill_108 : decode cL_randomBill 108 = .ok (.invokevirtual 114, 3) := by decide +kernel
theorem dL_randomBill_111 : decode cL_randomBill 111 = .ok (.putfield 145, 3) := by decide +kernel
theorem dL_randomBill_114 : decode cL_randomBill 114 = .ok (.iload 5, 2) := by decide +kernel
theorem dL_randomBill_116 : decode cL_randomBill 116 = .ok (.iconst 3, 1) := by decide +kernel
theorem dL_randomBill_117 : decode cL_randomBill 117 = .ok (.if_icmp .ge 11, 3) := by decide +kernel
theorem dL_randomBill_120 : decode cL_randomBill 120 = .ok (.aload_n 2, 1) := by decide +kernel
theorem dL_randomBill_121 : decode cL_randomBill 121 = .ok (.iconst 4, 1) := by decide +kernel
theorem dL_randomBill_122 : decode cL_randomBill 122 = .ok (.invokevirtual 114, 3) := by decide +kernel
theorem dL_randomBill_125 : decode cL_randomBill 125 = .ok (.goto 4, 3) := by decide +kernel
theorem dL_randomBill_128 : decode cL_randomBill 128 = .ok (.iconst 0, 1) := by decide +kernel
theorem dL_randomBill_129 : decode cL_randomBill 129 = .ok (.istore 8, 2) := by decide +kernel
theorem dL_randomBill_131 : decode cL_randomBill 131 = .ok (.aload 7, 2) := by decide +kernel
theorem dL_randomBill_133 : decode cL_randomBill 133 = .ok (.iload 8, 2) := by decide +kernel
theorem dL_randomBill_135 : decode cL_randomBill 135 = .ok (.iconst 1, 1) := by decide +kernel
theorem dL_randomBill_136 : decode cL_randomBill 136 = .ok (.if_icmp .eq 7, 3) := by decide +kernel
theorem dL_randomBill_139 : decode cL_randomBill 139 = .ok (.iconst 1, 1) := by decide +kernel
theorem dL_randomBill_140 : decode cL_randomBill 140 = .ok (.goto 4, 3) := by decide +kernel
theorem dL_randomBill_143 : decode cL_randomBill 143 = .ok (.iconst 0, 1) := by decide +kernel
theorem dL_randomBill_144 : decode cL_randomBill 144 = .ok (.putfield 147, 3) := by decide +kernel
theorem dL_randomBill_147 : decode cL_randomBill 147 = .ok (.aload 7, 2) := by decide +kernel
theorem dL_randomBill_149 : decode cL_randomBill 149 = .ok (.iload 8, 2) := by decide +kernel
theorem dL_randomBill_151 : decode cL_randomBill 151 = .ok (.iconst 2, 1) := by decide +kernel
theorem dL_randomBill_152 : decode cL_randomBill 152 = .ok (.if_icmp .eq 7, 3) := by decide +kernel
theorem dL_randomBill_155 : decode cL_randomBill 155 = .ok (.iconst 1, 1) := by decide +kernel
theorem dL_randomBill_156 : decode cL_randomBill 156 = .ok (.goto 4, 3) := by decide +kernel
theorem dL_randomBill_159 : decode cL_randomBill 159 = .ok (.iconst 0, 1) := by decide +kernel
theorem dL_randomBill_160 : decode cL_randomBill 160 = .ok (.putfield 151, 3) := by decide +kernel
theorem dL_randomBill_163 : decode cL_randomBill 163 = .ok (.aload 7, 2) := by decide +kernel
theorem dL_randomBill_165 : decode cL_randomBill 165 = .ok (.invokevirtual 154, 3) := by decide +kernel
theorem dL_randomBill_168 : decode cL_randomBill 168 = .ok (.ifCond .eq 6, 3) := by decide +kernel
theorem dL_randomBill_171 : decode cL_randomBill 171 = .ok (.iinc 5 1, 3) := by decide +kernel
theorem dL_randomBill_174 : decode cL_randomBill 174 = .ok (.aload_n 3, 1) := by decide +kernel
theorem dL_randomBill_175 : decode cL_randomBill 175 = .ok (.iload 6, 2) := by decide +kernel
theorem dL_randomBill_177 : decode cL_randomBill 177 = .ok (.aload 7, 2) := by decide +kernel
theorem dL_randomBill_179 : decode cL_randomBill 179 = .ok (.invokevirtual 158, 3) := by decide +kernel
theorem dL_randomBill_182 : decode cL_randomBill 182 = .ok (.aload_n 0, 1) := by decide +kernel
theorem dL_randomBill_183 : decode cL_randomBill 183 = .ok (.aload_n 1, 1) := by decide +kernel
theorem dL_randomBill_184 : decode cL_randomBill 184 = .ok (.ldc 162, 2) := by decide +kernel
theorem dL_randomBill_186 : decode cL_randomBill 186 = .ok (.iconst 3, 1) := by decide +kernel
theorem dL_randomBill_187 : decode cL_randomBill 187 = .ok (.newarray .int, 2) := by decide +kernel
theorem dL_randomBill_189 : decode cL_randomBill 189 = .ok (.dup, 1) := by decide +kernel
theorem dL_randomBill_190 : decode cL_randomBill 190 = .ok (.iconst 0, 1) := by decide +kernel
theorem dL_randomBill_191 : decode cL_randomBill 191 = .ok (.aload 7, 2) := by decide +kernel
theorem dL_randomBill_193 : decode cL_randomBill 193 = .ok (.getfield 139, 3) := by decide +kernel
theorem dL_randomBill_196 : decode cL_randomBill 196 = .ok (.iastore, 1) := by decide +kernel
theorem dL_randomBill_197 : decode cL_randomBill 197 = .ok (.dup, 1) := by decide +kernel
theorem dL_randomBill_198 : decode cL_randomBill 198 = .ok (.iconst 1, 1) := by decide +kernel
theorem dL_randomBill_199 : decode cL_randomBill 199 = .ok (.aload 7, 2) := by decide +kernel
theorem dL_randomBill_201 : decode cL_randomBill 201 = .ok (.getfield 142, 3) := by decide +kernel
theorem dL_randomBill_204 : decode cL_randomBill 204 = .ok (.iastore, 1) := by decide +kernel
theorem dL_randomBill_205 : decode cL_randomBill 205 = .ok (.dup, 1) := by decide +kernel
theorem dL_randomBill_206 : decode cL_randomBill 206 = .ok (.iconst 2, 1) := by decide +kernel
theorem dL_randomBill_207 : decode cL_randomBill 207 = .ok (.aload 7, 2) := by decide +kernel
theorem dL_randomBill_209 : decode cL_randomBill 209 = .ok (.getfield 145, 3) := by decide +kernel
theorem dL_randomBill_212 : decode cL_randomBill 212 = .ok (.iastore, 1) := by decide +kernel
theorem dL_randomBill_213 : decode cL_randomBill 213 = .ok (.invokestatic 125, 3) := by decide +kernel
theorem dL_randomBill_216 : decode cL_randomBill 216 = .ok (.aload_n 0, 1) := by decide +kernel
theorem dL_randomBill_217 : decode cL_randomBill 217 = .ok (.aload_n 1, 1) := by decide +kernel
theorem dL_randomBill_218 : decode cL_randomBill 218 = .ok (.iload 8, 2) := by decide +kernel
theorem dL_randomBill_220 : decode cL_randomBill 220 = .ok (.iconst 1, 1) := by decide +kernel
theorem dL_randomBill_221 : decode cL_randomBill 221 = .ok (.if_icmp .ne 8, 3) := by decide +kernel
theorem dL_randomBill_224 : decode cL_randomBill 224 = .ok (.ldc 163, 2) := by decide +kernel
theorem dL_randomBill_226 : decode cL_randomBill 226 = .ok (.goto 16, 3) := by decide +kernel
theorem dL_randomBill_229 : decode cL_randomBill 229 = .ok (.iload 8, 2) := by decide +kernel
theorem dL_randomBill_231 : decode cL_randomBill 231 = .ok (.iconst 2, 1) := by decide +kernel
theorem dL_randomBill_232 : decode cL_randomBill 232 = .ok (.if_icmp .ne 8, 3) := by decide +kernel
theorem dL_randomBill_235 : decode cL_randomBill 235 = .ok (.ldc 165, 2) := by decide +kernel
theorem dL_randomBill_237 : decode cL_randomBill 237 = .ok (.goto 5, 3) := by decide +kernel
theorem dL_randomBill_240 : decode cL_randomBill 240 = .ok (.ldc 129, 2) := by decide +kernel
theorem dL_randomBill_242 : decode cL_randomBill 242 = .ok (.invokestatic 102, 3) := by decide +kernel
theorem dL_randomBill_245 : decode cL_randomBill 245 = .ok (.iinc 6 1, 3) := by decide +kernel
theorem dL_randomBill_248 : decode cL_randomBill 248 = .ok (.goto (-190), 3) := by decide +kernel
theorem dL_randomBill_251 : decode cL_randomBill 251 = .ok (.aload_n 2, 1) := by decide +kernel
theorem dL_randomBill_252 : decode cL_randomBill 252 = .ok (.iconst 2, 1) := by decide +kernel
theorem dL_randomBill_253 : decode cL_randomBill 253 = .ok (.invokevirtual 114, 3) := by decide +kernel
theorem dL_randomBill_256 : decode cL_randomBill 256 = .ok (.ifCond .ne 49, 3) := by decide +kernel
theorem dL_randomBill_259 : decode cL_randomBill 259 = .ok (.iconst 0, 1) := by decide +kernel
theorem dL_randomBill_260 : decode cL_randomBill 260 = .ok (.istore 6, 2) := by decide +kernel
theorem dL_randomBill_262 : decode cL_randomBill 262 = .ok (.iload 6, 2) := by decide +kernel
theorem dL_randomBill_264 : decode cL_randomBill 264 = .ok (.iconst 5, 1) := by decide +kernel
theorem dL_randomBill_265 : decode cL_randomBill 265 = .ok (.if_icmp .ge 22, 3) := by decide +kernel
theorem dL_randomBill_268 : decode cL_randomBill 268 = .ok (.aload_n 3, 1) := by decide +kernel
theorem dL_randomBill_269 : decode cL_randomBill 269 = .ok (.getfield 167, 3) := by decide +kernel
theorem dL_randomBill_272 : decode cL_randomBill 272 = .ok (.iload 6, 2) := by decide +kernel
theorem dL_randomBill_274 : decode cL_randomBill 274 = .ok (.aload_n 2, 1) := by decide +kernel
theorem dL_randomBill_275 : decode cL_randomBill 275 = .ok (.bipush 20, 2) := by decide +kernel
theorem dL_randomBill_277 : decode cL_randomBill 277 = .ok (.invokevirtual 114, 3) := by decide +kernel
theorem dL_randomBill_280 : decode cL_randomBill 280 = .ok (.iastore, 1) := by decide +kernel
theorem dL_randomBill_281 : decode cL_randomBill 281 = .ok (.iinc 6 1, 3) := by decide +kernel
theorem dL_randomBill_284 : decode cL_randomBill 284 = .ok (.goto (-22), 3) := by decide +kernel
theorem dL_randomBill_287 : decode cL_randomBill 287 = .ok (.aload_n 0, 1) := by decide +kernel
theorem dL_randomBill_288 : decode cL_randomBill 288 = .ok (.aload_n 1, 1) := by decide +kernel
theorem dL_randomBill_289 : decode cL_randomBill 289 = .ok (.ldc 171, 2) := by decide +kernel
theorem dL_randomBill_291 : decode cL_randomBill 291 = .ok (.aload_n 3, 1) := by decide +kernel
theorem dL_randomBill_292 : decode cL_randomBill 292 = .ok (.getfield 167, 3) := by decide +kernel
theorem dL_randomBill_295 : decode cL_randomBill 295 = .ok (.invokestatic 125, 3) := by decide +kernel
theorem dL_randomBill_298 : decode cL_randomBill 298 = .ok (.aload_n 0, 1) := by decide +kernel
theorem dL_randomBill_299 : decode cL_randomBill 299 = .ok (.aload_n 1, 1) := by decide +kernel
theorem dL_randomBill_300 : decode cL_randomBill 300 = .ok (.ldc 129, 2) := by decide +kernel
theorem dL_randomBill_302 : decode cL_randomBill 302 = .ok (.invokestatic 102, 3) := by decide +kernel
theorem dL_randomBill_305 : decode cL_randomBill 305 = .ok (.aload_n 2, 1) := by decide +kernel
theorem dL_randomBill_306 : decode cL_randomBill 306 = .ok (.iconst 2, 1) := by decide +kernel
theorem dL_randomBill_307 : decode cL_randomBill 307 = .ok (.invokevirtual 114, 3) := by decide +kernel
theorem dL_randomBill_310 : decode cL_randomBill 310 = .ok (.ifCond .ne 38, 3) := by decide +kernel
theorem dL_randomBill_313 : decode cL_randomBill 313 = .ok (.aload_n 3, 1) := by decide +kernel
theorem dL_randomBill_314 : decode cL_randomBill 314 = .ok (.iconst 1, 1) := by decide +kernel
theorem dL_randomBill_315 : decode cL_randomBill 315 = .ok (.aload_n 2, 1) := by decide +kernel
theorem dL_randomBill_316 : decode cL_randomBill 316 = .ok (.iconst 4, 1) := by decide +kernel
theorem dL_randomBill_317 : decode cL_randomBill 317 = .ok (.invokevirtual 114, 3) := by decide +kernel
theorem dL_randomBill_320 : decode cL_randomBill 320 = .ok (.iadd, 1) := by decide +kernel
theorem dL_randomBill_321 : decode cL_randomBill 321 = .ok (.putfield 172, 3) := by decide +kernel
theorem dL_randomBill_324 : decode cL_randomBill 324 = .ok (.aload_n 0, 1) := by decide +kernel
theorem dL_randomBill_325 : decode cL_randomBill 325 = .ok (.aload_n 1, 1) := by decide +kernel
theorem dL_randomBill_326 : decode cL_randomBill 326 = .ok (.ldc 175, 2) := by decide +kernel
theorem dL_randomBill_328 : decode cL_randomBill 328 = .ok (.iconst 1, 1) := by decide +kernel
theorem dL_randomBill_329 : decode cL_randomBill 329 = .ok (.newarray .int, 2) := by decide +kernel
theorem dL_randomBill_331 : decode cL_randomBill 331 = .ok (.dup, 1) := by decide +kernel
theorem dL_randomBill_332 : decode cL_randomBill 332 = .ok (.iconst 0, 1) := by decide +kernel
theorem dL_randomBill_333 : decode cL_randomBill 333 = .ok (.aload_n 3, 1) := by decide +kernel
theorem dL_randomBill_334 : decode cL_randomBill 334 = .ok (.getfield 172, 3) := by decide +kernel
theorem dL_randomBill_337 : decode cL_randomBill 337 = .ok (.iastore, 1) := by decide +kernel
theorem dL_randomBill_338 : decode cL_randomBill 338 = .ok (.invokestatic 125, 3) := by decide +kernel
theorem dL_randomBill_341 : decode cL_randomBill 341 = .ok (.aload_n 0, 1) := by decide +kernel
theorem dL_randomBill_342 : decode cL_randomBill 342 = .ok (.aload_n 1, 1) := by decide +kernel
theorem dL_randomBill_343 : decode cL_randomBill 343 = .ok (.ldc 129, 2) := by decide +kernel
theorem dL_randomBill_345 : decode cL_randomBill 345 = .ok (.invokestatic 102, 3) := by decide +kernel
theorem dL_randomBill_348 : decode cL_randomBill 348 = .ok (.aload_n 0, 1) := by decide +kernel
theorem dL_randomBill_349 : decode cL_randomBill 349 = .ok (.aload_n 1, 1) := by decide +kernel
theorem dL_randomBill_350 : decode cL_randomBill 350 = .ok (.invokestatic 177, 3) := by decide +kernel
theorem dL_randomBill_353 : decode cL_randomBill 353 = .ok (.iload 4, 2) := by decide +kernel
theorem dL_randomBill_355 : decode cL_randomBill 355 = .ok (.if_icmp .ne 7, 3) := by decide +kernel
theorem dL_randomBill_358 : decode cL_randomBill 358 = .ok (.aload_n 3, 1) := by decide +kernel
theorem dL_randomBill_359 : decode cL_randomBill 359 = .ok (.goto 4, 3) := by decide +kernel
theorem dL_randomBill_362 : decode cL_randomBill 362 = .ok (.aconst_null, 1) := by decide +kernel
theorem dL_randomBill_363 : decode cL_randomBill 363 = .ok (.areturn, 1) := by decide +kernel
theorem dL_agrees_0 : decode cL_agrees 0 = .ok (.aload_n 0, 1) := by decide +kernel
theorem dL_agrees_1 : decode cL_agrees 1 = .ok (.invokevirtual 181, 3) := by decide +kernel
theorem dL_agrees_4 : decode cL_agrees 4 = .ok (.aload_n 1, 1) := by decide +kernel
theorem dL_agrees_5 : decode cL_agrees 5 = .ok (.invokevirtual 185, 3) := by decide +kernel
theorem dL_agrees_8 : decode cL_agrees 8 = .ok (.lcmp, 1) := by decide +kernel
theorem dL_agrees_9 : decode cL_agrees 9 = .ok (.ifCond .ne 62, 3) := by decide +kernel
theorem dL_agrees_12 : decode cL_agrees 12 = .ok (.aload_n 0, 1) := by decide +kernel
theorem dL_agrees_13 : decode cL_agrees 13 = .ok (.bipush 12, 2) := by decide +kernel
theorem dL_agrees_15 : decode cL_agrees 15 = .ok (.invokestatic 186, 3) := by decide +kernel
theorem dL_agrees_18 : decode cL_agrees 18 = .ok (.ldc 42, 2) := by decide +kernel
theorem dL_agrees_20 : decode cL_agrees 20 = .ok (.if_icmp .ne 51, 3) := by decide +kernel
theorem dL_agrees_23 : decode cL_agrees 23 = .ok (.aload_n 0, 1) := by decide +kernel
theorem dL_agrees_24 : decode cL_agrees 24 = .ok (.aload_n 1, 1) := by decide +kernel
theorem dL_agrees_25 : decode cL_agrees 25 = .ok (.getfield 188, 3) := by decide +kernel
theorem dL_agrees_28 : decode cL_agrees 28 = .ok (.arraylength, 1) := by decide +kernel
theorem dL_agrees_29 : decode cL_agrees 29 = .ok (.iconst 0, 1) := by decide +kernel
theorem dL_agrees_30 : decode cL_agrees 30 = .ok (.invokestatic 192, 3) := by decide +kernel
theorem dL_agrees_33 : decode cL_agrees 33 = .ok (.ldc 52, 2) := by decide +kernel
theorem dL_agrees_35 : decode cL_agrees 35 = .ok (.if_icmp .ne 36, 3) := by decide +kernel
theorem dL_agrees_38 : decode cL_agrees 38 = .ok (.aload_n 0, 1) := by decide +kernel
theorem dL_agrees_39 : decode cL_agrees 39 = .ok (.aload_n 1, 1) := by decide +kernel
theorem dL_agrees_40 : decode cL_agrees 40 = .ok (.invokevirtual 195, 3) := by decide +kernel
theorem dL_agrees_43 : decode cL_agrees 43 = .ok (.invokestatic 197, 3) := by decide +kernel
theorem dL_agrees_46 : decode cL_agrees 46 = .ok (.ldc 64, 2) := by decide +kernel
theorem dL_agrees_48 : decode cL_agrees 48 = .ok (.if_icmp .ne 23, 3) := by decide +kernel
theorem dL_agrees_51 : decode cL_agrees 51 = .ok (.aload_n 0, 1) := by decide +kernel
theorem dL_agrees_52 : decode cL_agrees 52 = .ok (.aload_n 1, 1) := by decide +kernel
theorem dL_agrees_53 : decode cL_agrees 53 = .ok (.bipush 6, 2) := by decide +kernel
theorem dL_agrees_55 : decode cL_agrees 55 = .ok (.invokevirtual 199, 3) := by decide +kernel
theorem dL_agrees_58 : decode cL_agrees 58 = .ok (.iconst 0, 1) := by decide +kernel
theorem dL_agrees_59 : decode cL_agrees 59 = .ok (.invokestatic 202, 3) := by decide +kernel
theorem dL_agrees_62 : decode cL_agrees 62 = .ok (.ldc 52, 2) := by decide +kernel
theorem dL_agrees_64 : decode cL_agrees 64 = .ok (.if_icmp .ne 7, 3) := by decide +kernel
theorem dL_agrees_67 : decode cL_agrees 67 = .ok (.iconst 1, 1) := by decide +kernel
theorem dL_agrees_68 : decode cL_agrees 68 = .ok (.goto 4, 3) := by decide +kernel
theorem dL_agrees_71 : decode cL_agrees 71 = .ok (.iconst 0, 1) := by decide +kernel
theorem dL_agrees_72 : decode cL_agrees 72 = .ok (.istore_n 2, 1) := by decide +kernel
theorem dL_agrees_73 : decode cL_agrees 73 = .ok (.iconst 0, 1) := by decide +kernel
theorem dL_agrees_74 : decode cL_agrees 74 = .ok (.istore_n 3, 1) := by decide +kernel
theorem dL_agrees_75 : decode cL_agrees 75 = .ok (.iload_n 3, 1) := by decide +kernel
theorem dL_agrees_76 : decode cL_agrees 76 = .ok (.bipush 12, 2) := by decide +kernel
theorem dL_agrees_78 : decode cL_agrees 78 = .ok (.if_icmp .ge 32, 3) := by decide +kernel
theorem dL_agrees_81 : decode cL_agrees 81 = .ok (.iload_n 2, 1) := by decide +kernel
theorem dL_agrees_82 : decode cL_agrees 82 = .ok (.ifCond .eq 28, 3) := by decide +kernel
theorem dL_agrees_85 : decode cL_agrees 85 = .ok (.aload_n 0, 1) := by decide +kernel
theorem dL_agrees_86 : decode cL_agrees 86 = .ok (.iload_n 3, 1) := by decide +kernel
theorem dL_agrees_87 : decode cL_agrees 87 = .ok (.invokestatic 186, 3) := by decide +kernel
theorem dL_agrees_90 : decode cL_agrees 90 = .ok (.aload_n 1, 1) := by decide +kernel
theorem dL_agrees_91 : decode cL_agrees 91 = .ok (.iload_n 3, 1) := by decide +kernel
theorem dL_agrees_92 : decode cL_agrees 92 = .ok (.invokevirtual 199, 3) := by decide +kernel
theorem dL_agrees_95 : decode cL_agrees 95 = .ok (.if_icmp .ne 7, 3) := by decide +kernel
theorem dL_agrees_98 : decode cL_agrees 98 = .ok (.iconst 1, 1) := by decide +kernel
theorem dL_agrees_99 : decode cL_agrees 99 = .ok (.goto 4, 3) := by decide +kernel
theorem dL_agrees_102 : decode cL_agrees 102 = .ok (.iconst 0, 1) := by decide +kernel
theorem dL_agrees_103 : decode cL_agrees 103 = .ok (.istore_n 2, 1) := by decide +kernel
theorem dL_agrees_104 : decode cL_agrees 104 = .ok (.iinc 3 1, 3) := by decide +kernel
theorem dL_agrees_107 : decode cL_agrees 107 = .ok (.goto (-32), 3) := by decide +kernel
theorem dL_agrees_110 : decode cL_agrees 110 = .ok (.iload_n 2, 1) := by decide +kernel
theorem dL_agrees_111 : decode cL_agrees 111 = .ok (.ireturn, 1) := by decide +kernel
theorem dL_law_0 : decode cL_law 0 = .ok (.iconst 1, 1) := by decide +kernel
theorem dL_law_1 : decode cL_law 1 = .ok (.istore_n 1, 1) := by decide +kernel
theorem dL_law_2 : decode cL_law 2 = .ok (.iconst 0, 1) := by decide +kernel
theorem dL_law_3 : decode cL_law 3 = .ok (.istore_n 2, 1) := by decide +kernel
theorem dL_law_4 : decode cL_law 4 = .ok (.iload_n 2, 1) := by decide +kernel
theorem dL_law_5 : decode cL_law 5 = .ok (.aload_n 0, 1) := by decide +kernel
theorem dL_law_6 : decode cL_law 6 = .ok (.arraylength, 1) := by decide +kernel
theorem dL_law_7 : decode cL_law 7 = .ok (.if_icmp .ge 1263, 3) := by decide +kernel
theorem dL_law_10 : decode cL_law 10 = .ok (.iload_n 2, 1) := by decide +kernel
theorem dL_law_11 : decode cL_law 11 = .ok (.iconst 1, 1) := by decide +kernel
theorem dL_law_12 : decode cL_law 12 = .ok (.if_icmp .ge 1258, 3) := by decide +kernel
theorem dL_law_15 : decode cL_law 15 = .ok (.iload_n 1, 1) := by decide +kernel
theorem dL_law_16 : decode cL_law 16 = .ok (.ifCond .eq 1254, 3) := by decide +kernel
theorem dL_law_19 : decode cL_law 19 = .ok (.new 14, 3) := by decide +kernel
theorem dL_law_22 : decode cL_law 22 = .ok (.dup, 1) := by decide +kernel
theorem dL_law_23 : decode cL_law 23 = .ok (.invokespecial 204, 3) := by decide +kernel
theorem dL_law_26 : decode cL_law 26 = .ok (.astore_n 3, 1) := by decide +kernel
theorem dL_law_27 : decode cL_law 27 = .ok (.bipush 8, 2) := by decide +kernel
theorem dL_law_29 : decode cL_law 29 = .ok (.newarray .int, 2) := by decide +kernel
theorem dL_law_31 : decode cL_law 31 = .ok (.astore 4, 2) := by decide +kernel
theorem dL_law_33 : decode cL_law 33 = .ok (.new 115, 3) := by decide +kernel
theorem dL_law_36 : decode cL_law 36 = .ok (.dup, 1) := by decide +kernel
theorem dL_law_37 : decode cL_law 37 = .ok (.aload_n 0, 1) := by decide +kernel
theorem dL_law_38 : decode cL_law 38 = .ok (.iload_n 2, 1) := by decide +kernel
theorem dL_law_39 : decode cL_law 39 = .ok (.iaload, 1) := by decide +kernel
theorem dL_law_40 : decode cL_law 40 = .ok (.invokespecial 205, 3) := by decide +kernel
theorem dL_law_43 : decode cL_law 43 = .ok (.astore 5, 2) := by decide +kernel
theorem dL_law_45 : decode cL_law 45 = .ok (.aload_n 3, 1) := by decide +kernel
theorem dL_law_46 : decode cL_law 46 = .ok (.new 111, 3) := by decide +kernel
theorem dL_law_49 : decode cL_law 49 = .ok (.dup, 1) := by decide +kernel
theorem dL_law_50 : decode cL_law 50 = .ok (.invokespecial 113, 3) := by decide +kernel
theorem dL_law_53 : decode cL_law 53 = .ok (.invokestatic 208, 3) := by decide +kernel
theorem dL_law_56 : decode cL_law 56 = .ok (.ifCond .eq 152, 3) := by decide +kernel
theorem dL_law_59 : decode cL_law 59 = .ok (.aload_n 3, 1) := by decide +kernel
theorem dL_law_60 : decode cL_law 60 = .ok (.invokevirtual 212, 3) := by decide +kernel
theorem dL_law_63 : decode cL_law 63 = .ok (.iconst (-1), 1) := by decide +kernel
theorem dL_law_64 : decode cL_law 64 = .ok (.if_icmp .ne 144, 3) := by decide +kernel
theorem dL_law_67 : decode cL_law 67 = .ok (.aload_n 3, 1) := by decide +kernel
theorem dL_law_68 : decode cL_law 68 = .ok (.invokevirtual 215, 3) := by decide +kernel
theorem dL_law_71 : decode cL_law 71 = .ok (.iconst (-1), 1) := by decide +kernel
theorem dL_law_72 : decode cL_law 72 = .ok (.if_icmp .ne 136, 3) := by decide +kernel
theorem dL_law_75 : decode cL_law 75 = .ok (.aload_n 3, 1) := by decide +kernel
theorem dL_law_76 : decode cL_law 76 = .ok (.iconst 0, 1) := by decide +kernel
theorem dL_law_77 : decode cL_law 77 = .ok (.invokestatic 218, 3) := by decide +kernel
theorem dL_law_80 : decode cL_law 80 = .ok (.ldc 52, 2) := by decide +kernel
theorem dL_law_82 : decode cL_law 82 = .ok (.if_icmp .ne 126, 3) := by decide +kernel
theorem dL_law_85 : decode cL_law 85 = .ok (.aload_n 3, 1) := by decide +kernel
theorem dL_law_86 : decode cL_law 86 = .ok (.iconst 0, 1) := by decide +kernel
