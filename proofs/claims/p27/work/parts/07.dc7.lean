theorem dX5_setCost_48 : decode cX5_setCost 48 = .ok (.iload_n 1, 1) := by decide +kernel
theorem dX5_setCost_49 : decode cX5_setCost 49 = .ok (.iaload, 1) := by decide +kernel
theorem dX5_setCost_50 : decode cX5_setCost 50 = .ok (.istore_n 3, 1) := by decide +kernel
theorem dX5_setCost_51 : decode cX5_setCost 51 = .ok (.aload_n 0, 1) := by decide +kernel
theorem dX5_setCost_52 : decode cX5_setCost 52 = .ok (.getfield 19, 3) := by decide +kernel
theorem dX5_setCost_55 : decode cX5_setCost 55 = .ok (.getfield 263, 3) := by decide +kernel
theorem dX5_setCost_58 : decode cX5_setCost 58 = .ok (.iload_n 1, 1) := by decide +kernel
theorem dX5_setCost_59 : decode cX5_setCost 59 = .ok (.iload_n 2, 1) := by decide +kernel
theorem dX5_setCost_60 : decode cX5_setCost 60 = .ok (.iastore, 1) := by decide +kernel
theorem dX5_setCost_61 : decode cX5_setCost 61 = .ok (.aload_n 0, 1) := by decide +kernel
theorem dX5_setCost_62 : decode cX5_setCost 62 = .ok (.invokevirtual 83, 3) := by decide +kernel
theorem dX5_setCost_65 : decode cX5_setCost 65 = .ok (.iload_n 3, 1) := by decide +kernel
theorem dX5_setCost_66 : decode cX5_setCost 66 = .ok (.ireturn, 1) := by decide +kernel
set_option maxRecDepth 20000 in
theorem ggX5_undo_X2_bringBack : GoodIn wsX5_undo wsX2_bringBack := goodIn_r _ [7, 8, 9, 10, 11, 12, 13, 14, 15, 16, 17, 18, 19, 20, 21, 22, 23, 24, 25, 26, 27, 28, 29, 30, 84, 85, 86, 87, 88, 89, 90, 91, 92, 93, 94, 95, 96, 97] (by decide +kernel) (by decide +kernel)
set_option maxRecDepth 20000 in
theorem gX5_undo_X2_bringBack : GoodIn wsX5_undo (wsV RX5 266 RX2 yX2_bringBack wsX2_bringBack) := goodIn_app (goodIn_of _ (by decide +kernel)) ggX5_undo_X2_bringBack
set_option maxRecDepth 20000 in
theorem ggX5_undo_X5_settle : GoodIn wsX5_undo wsX5_settle := goodIn_r _ [35, 36, 2, 37, 38, 39, 40, 41, 42, 43, 44, 45, 46, 47, 48, 49, 50, 51, 52, 53, 54, 55, 56, 57, 58, 59, 60, 61, 62, 63, 64, 65, 66, 67, 68, 69, 70, 71, 72, 73, 74, 75, 14, 76, 28, 29, 77, 78, 79, 80, 81, 82, 83, 87, 88, 89, 90, 91, 92, 93, 94, 95, 96, 97, 98, 99, 100, 101, 102, 103, 104, 105, 106, 107, 108, 109, 110, 111, 112, 113, 114] (by decide +kernel) (by decide +kernel)
set_option maxRecDepth 20000 in
theorem gX5_undo_X5_settle : GoodIn wsX5_undo (wsV RX5 83 RX5 yX5_settle wsX5_settle) := goodIn_app (goodIn_of _ (by decide +kernel)) ggX5_undo_X5_settle
theorem dX5_undo_0 : decode cX5_undo 0 = .ok (.aload_n 0, 1) := by decide +kernel
theorem dX5_undo_1 : decode cX5_undo 1 = .ok (.getfield 29, 3) := by decide +kernel
theorem dX5_undo_4 : decode cX5_undo 4 = .ok (.aload_n 0, 1) := by decide +kernel
theorem dX5_undo_5 : decode cX5_undo 5 = .ok (.getfield 19, 3) := by decide +kernel
theorem dX5_undo_8 : decode cX5_undo 8 = .ok (.invokevirtual 266, 3) := by decide +kernel
theorem dX5_undo_11 : decode cX5_undo 11 = .ok (.istore_n 1, 1) := by decide +kernel
theorem dX5_undo_12 : decode cX5_undo 12 = .ok (.iload_n 1, 1) := by decide +kernel
theorem dX5_undo_13 : decode cX5_undo 13 = .ok (.ifCond .lt 7, 3) := by decide +kernel
theorem dX5_undo_16 : decode cX5_undo 16 = .ok (.aload_n 0, 1) := by decide +kernel
theorem dX5_undo_17 : decode cX5_undo 17 = .ok (.invokevirtual 83, 3) := by decide +kernel
theorem dX5_undo_20 : decode cX5_undo 20 = .ok (.iload_n 1, 1) := by decide +kernel
theorem dX5_undo_21 : decode cX5_undo 21 = .ok (.ireturn, 1) := by decide +kernel
set_option maxRecDepth 20000 in
theorem ggX5_checksum_X5_state : GoodIn wsX5_checksum wsX5_state := goodIn_ca (goodIn_r _ [8, 9, 10, 2, 11, 3, 12, 13, 14, 15, 16, 17, 18, 19, 20, 21, 22, 23, 24, 25, 26, 27, 28, 29, 30, 31, 32, 33, 34, 35, 36, 37, 38, 39, 40, 41, 42, 43, 44, 45, 46, 165, 166, 167, 168, 169, 170, 171, 172, 173, 174, 175, 176, 177, 178, 179, 180, 181, 182, 183, 184, 185, 186, 187, 188, 189, 190, 191, 192, 193, 194, 195, 196, 197, 198, 199] (by decide +kernel) (by decide +kernel)) (goodIn_sub (fun _ h => List.mem_cons_of_mem _ (List.mem_append_left _ (List.mem_append_right _ h))) (by decide +kernel))
set_option maxRecDepth 20000 in
theorem gX5_checksum_X5_state : GoodIn wsX5_checksum (wsV RX5 272 RX5 yX5_state wsX5_state) := goodIn_app (goodIn_of _ (by decide +kernel)) ggX5_checksum_X5_state
set_option maxRecDepth 20000 in
theorem ggX5_checksum_X5_lot : GoodIn wsX5_checksum wsX5_lot := goodIn_ca (goodIn_ca (goodIn_r _ [50, 9, 10, 2, 51, 52, 53, 54, 55, 56, 12, 57, 58, 59, 60, 61, 62, 7, 63, 64, 65, 3, 165, 166, 167, 168, 169, 170, 171, 172, 173, 174, 175, 176, 177, 178, 179, 180, 181, 182, 183, 184, 185, 186, 187, 188, 189, 190, 191] (by decide +kernel) (by decide +kernel)) (goodIn_sub (fun _ h => List.mem_cons_of_mem _ (List.mem_append_left _ (List.mem_append_right _ h))) (by decide +kernel))) (goodIn_sub (fun _ h => List.mem_cons_of_mem _ (List.mem_append_right _ h)) (by decide +kernel))
set_option maxRecDepth 20000 in
theorem gX5_checksum_X5_lot : GoodIn wsX5_checksum (wsV RX5 275 RX5 yX5_lot wsX5_lot) := goodIn_app (goodIn_of _ (by decide +kernel)) ggX5_checksum_X5_lot
set_option maxRecDepth 20000 in
theorem ggX5_checksum_X5_best : GoodIn wsX5_checksum wsX5_best := goodIn_r _ [69, 14, 2, 12, 70, 71, 72, 73, 74, 75, 76, 77, 78, 79, 80, 81, 82, 83, 84, 85, 86, 87, 88, 89, 90, 91, 92, 93, 94, 95, 96, 97, 98, 99, 100, 101, 102, 103, 104, 105, 106, 34, 107, 36, 108, 109, 110, 111, 112, 113, 114, 115, 116, 46, 117, 118, 119, 120, 121, 122, 123, 124, 125, 126, 127, 128, 129, 130, 131, 132, 133, 134, 135, 136, 137, 138, 139, 140, 141, 142, 143, 144, 145, 146, 147, 148, 149, 150, 165, 166, 167, 168, 169, 170, 171, 192, 193, 194, 195, 196, 197, 198, 199, 172, 173, 174, 175, 176, 177, 178, 179, 180, 181, 182, 183, 184, 185, 186, 187, 188, 189, 190, 191] (by decide +kernel) (by decide +kernel)
set_option maxRecDepth 20000 in
theorem gX5_checksum_X5_best : GoodIn wsX5_checksum (wsV RX5 258 RX5 yX5_best wsX5_best) := goodIn_app (goodIn_of _ (by decide +kernel)) ggX5_checksum_X5_best
set_option maxRecDepth 20000 in
theorem ggX5_checksum_X5_choice : GoodIn wsX5_checksum wsX5_choice := goodIn_ca (goodIn_r _ [154, 9, 10, 14, 2, 12, 155, 156, 157, 158, 7, 159, 160, 161, 162, 73, 163, 75, 164, 84, 85, 86, 87, 88, 82, 89, 90, 91, 92, 93, 94, 95, 96, 97, 98, 99, 100, 101, 102, 103, 104, 105, 106, 34, 107, 36, 108, 109, 110, 111, 112, 113, 114, 115, 116, 46, 117, 118, 119, 120, 121, 122, 123, 124, 125, 126, 127, 128, 129, 130, 131, 132, 133, 134, 135, 136, 137, 138, 139, 140, 141, 142, 143, 144, 145, 146, 165, 166, 167, 168, 169, 170, 171, 192, 193, 194, 195, 196, 197, 198, 199, 172, 173, 174, 175, 176, 177, 178, 179, 180, 181, 182, 183, 184, 185, 186, 187, 188, 189, 190, 191] (by decide +kernel) (by decide +kernel)) (goodIn_sub (fun _ h => List.mem_cons_of_mem _ (List.mem_append_left _ (List.mem_append_right _ h))) (by decide +kernel))
set_option maxRecDepth 20000 in
theorem gX5_checksum_X5_choice : GoodIn wsX5_checksum (wsV RX5 279 RX5 yX5_choice wsX5_choice) := goodIn_app (goodIn_of _ (by decide +kernel)) ggX5_checksum_X5_choice
theorem dX5_checksum_0 : decode cX5_checksum 0 = .ok (.lconst 0, 1) := by decide +kernel
theorem dX5_checksum_1 : decode cX5_checksum 1 = .ok (.lstore_n 1, 1) := by decide +kernel
theorem dX5_checksum_2 : decode cX5_checksum 2 = .ok (.iconst 0, 1) := by decide +kernel
theorem dX5_checksum_3 : decode cX5_checksum 3 = .ok (.istore_n 3, 1) := by decide +kernel
theorem dX5_checksum_4 : decode cX5_checksum 4 = .ok (.iload_n 3, 1) := by decide +kernel
theorem dX5_checksum_5 : decode cX5_checksum 5 = .ok (.bipush 12, 2) := by decide +kernel
theorem dX5_checksum_7 : decode cX5_checksum 7 = .ok (.if_icmp .ge 22, 3) := by decide +kernel
theorem dX5_checksum_10 : decode cX5_checksum 10 = .ok (.ldc2_w 270, 3) := by decide +kernel
theorem dX5_checksum_13 : decode cX5_checksum 13 = .ok (.lload_n 1, 1) := by decide +kernel
theorem dX5_checksum_14 : decode cX5_checksum 14 = .ok (.lmul, 1) := by decide +kernel
theorem dX5_checksum_15 : decode cX5_checksum 15 = .ok (.aload_n 0, 1) := by decide +kernel
theorem dX5_checksum_16 : decode cX5_checksum 16 = .ok (.iload_n 3, 1) := by decide +kernel
theorem dX5_checksum_17 : decode cX5_checksum 17 = .ok (.invokevirtual 272, 3) := by decide +kernel
theorem dX5_checksum_20 : decode cX5_checksum 20 = .ok (.i2l, 1) := by decide +kernel
theorem dX5_checksum_21 : decode cX5_checksum 21 = .ok (.ladd, 1) := by decide +kernel
theorem dX5_checksum_22 : decode cX5_checksum 22 = .ok (.lstore_n 1, 1) := by decide +kernel
theorem dX5_checksum_23 : decode cX5_checksum 23 = .ok (.iinc 3 1, 3) := by decide +kernel
theorem dX5_checksum_26 : decode cX5_checksum 26 = .ok (.goto (-22), 3) := by decide +kernel
theorem dX5_checksum_29 : decode cX5_checksum 29 = .ok (.iconst 0, 1) := by decide +kernel
theorem dX5_checksum_30 : decode cX5_checksum 30 = .ok (.istore_n 3, 1) := by decide +kernel
theorem dX5_checksum_31 : decode cX5_checksum 31 = .ok (.iload_n 3, 1) := by decide +kernel
theorem dX5_checksum_32 : decode cX5_checksum 32 = .ok (.aload_n 0, 1) := by decide +kernel
theorem dX5_checksum_33 : decode cX5_checksum 33 = .ok (.getfield 19, 3) := by decide +kernel
theorem dX5_checksum_36 : decode cX5_checksum 36 = .ok (.getfield 86, 3) := by decide +kernel
theorem dX5_checksum_39 : decode cX5_checksum 39 = .ok (.if_icmp .ge 40, 3) := by decide +kernel
theorem dX5_checksum_42 : decode cX5_checksum 42 = .ok (.iconst 0, 1) := by decide +kernel
theorem dX5_checksum_43 : decode cX5_checksum 43 = .ok (.istore 4, 2) := by decide +kernel
theorem dX5_checksum_45 : decode cX5_checksum 45 = .ok (.iload 4, 2) := by decide +kernel
theorem dX5_checksum_47 : decode cX5_checksum 47 = .ok (.bipush 9, 2) := by decide +kernel
theorem dX5_checksum_49 : decode cX5_checksum 49 = .ok (.if_icmp .ge 24, 3) := by decide +kernel
theorem dX5_checksum_52 : decode cX5_checksum 52 = .ok (.ldc2_w 270, 3) := by decide +kernel
theorem dX5_checksum_55 : decode cX5_checksum 55 = .ok (.lload_n 1, 1) := by decide +kernel
theorem dX5_checksum_56 : decode cX5_checksum 56 = .ok (.lmul, 1) := by decide +kernel
theorem dX5_checksum_57 : decode cX5_checksum 57 = .ok (.aload_n 0, 1) := by decide +kernel
theorem dX5_checksum_58 : decode cX5_checksum 58 = .ok (.iload_n 3, 1) := by decide +kernel
theorem dX5_checksum_59 : decode cX5_checksum 59 = .ok (.iload 4, 2) := by decide +kernel
theorem dX5_checksum_61 : decode cX5_checksum 61 = .ok (.invokevirtual 275, 3) := by decide +kernel
theorem dX5_checksum_64 : decode cX5_checksum 64 = .ok (.i2l, 1) := by decide +kernel
theorem dX5_checksum_65 : decode cX5_checksum 65 = .ok (.ladd, 1) := by decide +kernel
theorem dX5_checksum_66 : decode cX5_checksum 66 = .ok (.lstore_n 1, 1) := by decide +kernel
theorem dX5_checksum_67 : decode cX5_checksum 67 = .ok (.iinc 4 1, 3) := by decide +kernel
theorem dX5_checksum_70 : decode cX5_checksum 70 = .ok (.goto (-25), 3) := by decide +kernel
theorem dX5_checksum_73 : decode cX5_checksum 73 = .ok (.iinc 3 1, 3) := by decide +kernel
theorem dX5_checksum_76 : decode cX5_checksum 76 = .ok (.goto (-45), 3) := by decide +kernel
theorem dX5_checksum_79 : decode cX5_checksum 79 = .ok (.aload_n 0, 1) := by decide +kernel
theorem dX5_checksum_80 : decode cX5_checksum 80 = .ok (.invokevirtual 258, 3) := by decide +kernel
theorem dX5_checksum_83 : decode cX5_checksum 83 = .ok (.istore_n 3, 1) := by decide +kernel
theorem dX5_checksum_84 : decode cX5_checksum 84 = .ok (.ldc2_w 270, 3) := by decide +kernel
theorem dX5_checksum_87 : decode cX5_checksum 87 = .ok (.lload_n 1, 1) := by decide +kernel
theorem dX5_checksum_88 : decode cX5_checksum 88 = .ok (.lmul, 1) := by decide +kernel
theorem dX5_checksum_89 : decode cX5_checksum 89 = .ok (.iload_n 3, 1) := by decide +kernel
theorem dX5_checksum_90 : decode cX5_checksum 90 = .ok (.i2l, 1) := by decide +kernel
theorem dX5_checksum_91 : decode cX5_checksum 91 = .ok (.ladd, 1) := by decide +kernel
theorem dX5_checksum_92 : decode cX5_checksum 92 = .ok (.lstore_n 1, 1) := by decide +kernel
theorem dX5_checksum_93 : decode cX5_checksum 93 = .ok (.iconst 0, 1) := by decide +kernel
theorem dX5_checksum_94 : decode cX5_checksum 94 = .ok (.istore 4, 2) := by decide +kernel
theorem dX5_checksum_96 : decode cX5_checksum 96 = .ok (.iload 4, 2) := by decide +kernel
theorem dX5_checksum_98 : decode cX5_checksum 98 = .ok (.bipush 7, 2) := by decide +kernel
theorem dX5_checksum_100 : decode cX5_checksum 100 = .ok (.if_icmp .ge 24, 3) := by decide +kernel
theorem dX5_checksum_103 : decode cX5_checksum 103 = .ok (.ldc2_w 270, 3) := by decide +kernel
theorem dX5_checksum_106 : decode cX5_checksum 106 = .ok (.lload_n 1, 1) := by decide +kernel
theorem dX5_checksum_107 : decode cX5_checksum 107 = .ok (.lmul, 1) := by decide +kernel
theorem dX5_checksum_108 : decode cX5_checksum 108 = .ok (.aload_n 0, 1) := by decide +kernel
theorem dX5_checksum_109 : decode cX5_checksum 109 = .ok (.iload_n 3, 1) := by decide +kernel
theorem dX5_checksum_110 : decode cX5_checksum 110 = .ok (.iload 4, 2) := by decide +kernel
theorem dX5_checksum_112 : decode cX5_checksum 112 = .ok (.invokevirtual 279, 3) := by decide +kernel
theorem dX5_checksum_115 : decode cX5_checksum 115 = .ok (.i2l, 1) := by decide +kernel
theorem dX5_checksum_116 : decode cX5_checksum 116 = .ok (.ladd, 1) := by decide +kernel
theorem dX5_checksum_117 : decode cX5_checksum 117 = .ok (.lstore_n 1, 1) := by decide +kernel
theorem dX5_checksum_118 : decode cX5_checksum 118 = .ok (.iinc 4 1, 3) := by decide +kernel
theorem dX5_checksum_121 : decode cX5_checksum 121 = .ok (.goto (-25), 3) := by decide +kernel
theorem dX5_checksum_124 : decode cX5_checksum 124 = .ok (.lload_n 1, 1) := by decide +kernel
theorem dX5_checksum_125 : decode cX5_checksum 125 = .ok (.lreturn, 1) := by decide +kernel
theorem dX5_needLot_0 : decode cX5_needLot 0 = .ok (.iload_n 1, 1) := by decide +kernel
theorem dX5_needLot_1 : decode cX5_needLot 1 = .ok (.ifCond .lt 14, 3) := by decide +kernel
theorem dX5_needLot_4 : decode cX5_needLot 4 = .ok (.iload_n 1, 1) := by decide +kernel
theorem dX5_needLot_5 : decode cX5_needLot 5 = .ok (.aload_n 0, 1) := by decide +kernel
theorem dX5_needLot_6 : decode cX5_needLot 6 = .ok (.getfield 19, 3) := by decide +kernel
theorem dX5_needLot_9 : decode cX5_needLot 9 = .ok (.getfield 86, 3) := by decide +kernel
theorem dX5_needLot_12 : decode cX5_needLot 12 = .ok (.if_icmp .lt 14, 3) := by decide +kernel
theorem dX5_needLot_15 : decode cX5_needLot 15 = .ok (.new 282, 3) := by decide +kernel
theorem dX5_needLot_18 : decode cX5_needLot 18 = .ok (.dup, 1) := by decide +kernel
theorem dX5_needLot_19 : decode cX5_needLot 19 = .ok (.ldc_w 284, 3) := by decide +kernel
theorem dX5_needLot_22 : decode cX5_needLot 22 = .ok (.invokespecial 286, 3) := by decide +kernel
theorem dX5_needLot_25 : decode cX5_needLot 25 = .ok (.athrow, 1) := by decide +kernel
theorem dX5_needLot_26 : decode cX5_needLot 26 = .ok (.return_, 1) := by decide +kernel
theorem dX5_needPage_0 : decode cX5_needPage 0 = .ok (.iload_n 1, 1) := by decide +kernel
theorem dX5_needPage_1 : decode cX5_needPage 1 = .ok (.ifCond .lt 14, 3) := by decide +kernel
theorem dX5_needPage_4 : decode cX5_needPage 4 = .ok (.iload_n 1, 1) := by decide +kernel
theorem dX5_needPage_5 : decode cX5_needPage 5 = .ok (.aload_n 0, 1) := by decide +kernel
theorem dX5_needPage_6 : decode cX5_needPage 6 = .ok (.getfield 36, 3) := by decide +kernel
theorem dX5_needPage_9 : decode cX5_needPage 9 = .ok (.getfield 103, 3) := by decide +kernel
theorem dX5_needPage_12 : decode cX5_needPage 12 = .ok (.if_icmp .lt 14, 3) := by decide +kernel
theorem dX5_needPage_15 : decode cX5_needPage 15 = .ok (.new 282, 3) := by decide +kernel
theorem dX5_needPage_18 : decode cX5_needPage 18 = .ok (.dup, 1) := by decide +kernel
theorem dX5_needPage_19 : decode cX5_needPage 19 = .ok (.ldc_w 287, 3) := by decide +kernel
theorem dX5_needPage_22 : decode cX5_needPage 22 = .ok (.invokespecial 286, 3) := by decide +kernel
theorem dX5_needPage_25 : decode cX5_needPage 25 = .ok (.athrow, 1) := by decide +kernel
theorem dX5_needPage_26 : decode cX5_needPage 26 = .ok (.return_, 1) := by decide +kernel
set_option maxRecDepth 20000 in
theorem ggX5_needChoice_X1_has : GoodIn wsX5_needChoice wsX1_has := goodIn_r _ [8, 9, 17, 18, 19, 20, 21, 22, 23, 24] (by decide +kernel) (by decide +kernel)
set_option maxRecDepth 20000 in
theorem gX5_needChoice_X1_has : GoodIn wsX5_needChoice (wsV RX5 289 RX1 yX1_has wsX1_has) := goodIn_app (goodIn_of _ (by decide +kernel)) ggX5_needChoice_X1_has
theorem dX5_needChoice_0 : decode cX5_needChoice 0 = .ok (.aload_n 0, 1) := by decide +kernel
theorem dX5_needChoice_1 : decode cX5_needChoice 1 = .ok (.getfield 43, 3) := by decide +kernel
theorem dX5_needChoice_4 : decode cX5_needChoice 4 = .ok (.iload_n 1, 1) := by decide +kernel
theorem dX5_needChoice_5 : decode cX5_needChoice 5 = .ok (.invokevirtual 289, 3) := by decide +kernel
theorem dX5_needChoice_8 : decode cX5_needChoice 8 = .ok (.ifCond .ne 14, 3) := by decide +kernel
theorem dX5_needChoice_11 : decode cX5_needChoice 11 = .ok (.new 62, 3) := by decide +kernel
theorem dX5_needChoice_14 : decode cX5_needChoice 14 = .ok (.dup, 1) := by decide +kernel
theorem dX5_needChoice_15 : decode cX5_needChoice 15 = .ok (.ldc_w 292, 3) := by decide +kernel
theorem dX5_needChoice_18 : decode cX5_needChoice 18 = .ok (.invokespecial 66, 3) := by decide +kernel
theorem dX5_needChoice_21 : decode cX5_needChoice 21 = .ok (.athrow, 1) := by decide +kernel
theorem dX5_needChoice_22 : decode cX5_needChoice 22 = .ok (.return_, 1) := by decide +kernel
set_option maxRecDepth 20000 in
theorem ggX5_settle_X3_lay : GoodIn wsX5_settle wsX3_lay := goodIn_r _ [9, 10, 11, 12, 13, 14, 15, 16, 17, 18, 8, 19, 20, 21, 22, 23, 24, 25, 26, 27, 28, 29, 64, 65, 66, 67, 68, 69, 70, 71, 72, 53, 54, 55, 56, 57, 58, 59, 60, 61, 62, 63] (by decide +kernel) (by decide +kernel)
set_option maxRecDepth 20000 in
theorem gX5_settle_X3_lay : GoodIn wsX5_settle (wsV RX5 294 RX3 yX3_lay wsX3_lay) := goodIn_app (goodIn_of _ (by decide +kernel)) ggX5_settle_X3_lay
set_option maxRecDepth 20000 in
theorem ggX5_settle_X1_listFor : GoodIn wsX5_settle wsX1_listFor := goodIn_r _ [34, 35, 36, 37, 38, 39, 40, 41, 42, 43, 44, 45, 73, 74, 75, 76, 77, 78, 79, 80, 53, 54, 55, 56, 57, 58, 59, 60, 61, 62, 63] (by decide +kernel) (by decide +kernel)
set_option maxRecDepth 20000 in
theorem gX5_settle_X1_listFor : GoodIn wsX5_settle (wsV RX5 298 RX1 yX1_listFor wsX1_listFor) := goodIn_app (goodIn_of _ (by decide +kernel)) ggX5_settle_X1_listFor
theorem dX5_settle_0 : decode cX5_settle 0 = .ok (.aload_n 0, 1) := by decide +kernel
theorem dX5_settle_1 : decode cX5_settle 1 = .ok (.getfield 36, 3) := by decide +kernel
theorem dX5_settle_4 : decode cX5_settle 4 = .ok (.aload_n 0, 1) := by decide +kernel
theorem dX5_settle_5 : decode cX5_settle 5 = .ok (.getfield 19, 3) := by decide +kernel
theorem dX5_settle_8 : decode cX5_settle 8 = .ok (.aload_n 0, 1) := by decide +kernel
theorem dX5_settle_9 : decode cX5_settle 9 = .ok (.getfield 19, 3) := by decide +kernel
theorem dX5_settle_12 : decode cX5_settle 12 = .ok (.getfield 137, 3) := by decide +kernel
theorem dX5_settle_15 : decode cX5_settle 15 = .ok (.invokevirtual 294, 3) := by decide +kernel
theorem dX5_settle_18 : decode cX5_settle 18 = .ok (.aload_n 0, 1) := by decide +kernel
theorem dX5_settle_19 : decode cX5_settle 19 = .ok (.getfield 43, 3) := by decide +kernel
theorem dX5_settle_22 : decode cX5_settle 22 = .ok (.aload_n 0, 1) := by decide +kernel
theorem dX5_settle_23 : decode cX5_settle 23 = .ok (.getfield 19, 3) := by decide +kernel
theorem dX5_settle_26 : decode cX5_settle 26 = .ok (.invokevirtual 298, 3) := by decide +kernel
theorem dX5_settle_29 : decode cX5_settle 29 = .ok (.return_, 1) := by decide +kernel
theorem dX5_wantedEstimatesOn_0 : decode cX5_wantedEstimatesOn 0 = .ok (.iconst 0, 1) := by decide +kernel
theorem dX5_wantedEstimatesOn_1 : decode cX5_wantedEstimatesOn 1 = .ok (.istore_n 2, 1) := by decide +kernel
theorem dX5_wantedEstimatesOn_2 : decode cX5_wantedEstimatesOn 2 = .ok (.iconst 0, 1) := by decide +kernel
theorem dX5_wantedEstimatesOn_3 : decode cX5_wantedEstimatesOn 3 = .ok (.istore_n 3, 1) := by decide +kernel
theorem dX5_wantedEstimatesOn_4 : decode cX5_wantedEstimatesOn 4 = .ok (.iload_n 3, 1) := by decide +kernel
theorem dX5_wantedEstimatesOn_5 : decode cX5_wantedEstimatesOn 5 = .ok (.aload_n 0, 1) := by decide +kernel
theorem dX5_wantedEstimatesOn_6 : decode cX5_wantedEstimatesOn 6 = .ok (.getfield 19, 3) := by decide +kernel
theorem dX5_wantedEstimatesOn_9 : decode cX5_wantedEstimatesOn 9 = .ok (.getfield 86, 3) := by decide +kernel
theorem dX5_wantedEstimatesOn_12 : decode cX5_wantedEstimatesOn 12 = .ok (.if_icmp .ge 46, 3) := by decide +kernel
theorem dX5_wantedEstimatesOn_15 : decode cX5_wantedEstimatesOn 15 = .ok (.aload_n 0, 1) := by decide +kernel
theorem dX5_wantedEstimatesOn_16 : decode cX5_wantedEstimatesOn 16 = .ok (.getfield 36, 3) := by decide +kernel
theorem dX5_wantedEstimatesOn_19 : decode cX5_wantedEstimatesOn 19 = .ok (.getfield 150, 3) := by decide +kernel
theorem dX5_wantedEstimatesOn_22 : decode cX5_wantedEstimatesOn 22 = .ok (.iload_n 3, 1) := by decide +kernel
theorem dX5_wantedEstimatesOn_23 : decode cX5_wantedEstimatesOn 23 = .ok (.iaload, 1) := by decide +kernel
theorem dX5_wantedEstimatesOn_24 : decode cX5_wantedEstimatesOn 24 = .ok (.iload_n 1, 1) := by decide +kernel
theorem dX5_wantedEstimatesOn_25 : decode cX5_wantedEstimatesOn 25 = .ok (.if_icmp .ne 27, 3) := by decide +kernel
theorem dX5_wantedEstimatesOn_28 : decode cX5_wantedEstimatesOn 28 = .ok (.aload_n 0, 1) := by decide +kernel
theorem dX5_wantedEstimatesOn_29 : decode cX5_wantedEstimatesOn 29 = .ok (.getfield 19, 3) := by decide +kernel
theorem dX5_wantedEstimatesOn_32 : decode cX5_wantedEstimatesOn 32 = .ok (.getfield 141, 3) := by decide +kernel
theorem dX5_wantedEstimatesOn_35 : decode cX5_wantedEstimatesOn 35 = .ok (.iload_n 3, 1) := by decide +kernel
theorem dX5_wantedEstimatesOn_36 : decode cX5_wantedEstimatesOn 36 = .ok (.baload, 1) := by decide +kernel
theorem dX5_wantedEstimatesOn_37 : decode cX5_wantedEstimatesOn 37 = .ok (.ifCond .eq 15, 3) := by decide +kernel
theorem dX5_wantedEstimatesOn_40 : decode cX5_wantedEstimatesOn 40 = .ok (.iload_n 2, 1) := by decide +kernel
theorem dX5_wantedEstimatesOn_41 : decode cX5_wantedEstimatesOn 41 = .ok (.aload_n 0, 1) := by decide +kernel
theorem dX5_wantedEstimatesOn_42 : decode cX5_wantedEstimatesOn 42 = .ok (.getfield 19, 3) := by decide +kernel
theorem dX5_wantedEstimatesOn_45 : decode cX5_wantedEstimatesOn 45 = .ok (.getfield 131, 3) := by decide +kernel
theorem dX5_wantedEstimatesOn_48 : decode cX5_wantedEstimatesOn 48 = .ok (.iload_n 3, 1) := by decide +kernel
theorem dX5_wantedEstimatesOn_49 : decode cX5_wantedEstimatesOn 49 = .ok (.iaload, 1) := by decide +kernel
theorem dX5_wantedEstimatesOn_50 : decode cX5_wantedEstimatesOn 50 = .ok (.iadd, 1) := by decide +kernel
theorem dX5_wantedEstimatesOn_51 : decode cX5_wantedEstimatesOn 51 = .ok (.istore_n 2, 1) := by decide +kernel
theorem dX5_wantedEstimatesOn_52 : decode cX5_wantedEstimatesOn 52 = .ok (.iinc 3 1, 3) := by decide +kernel
theorem dX5_wantedEstimatesOn_55 : decode cX5_wantedEstimatesOn 55 = .ok (.goto (-51), 3) := by decide +kernel
theorem dX5_wantedEstimatesOn_58 : decode cX5_wantedEstimatesOn 58 = .ok (.iload_n 2, 1) := by decide +kernel
theorem dX5_wantedEstimatesOn_59 : decode cX5_wantedEstimatesOn 59 = .ok (.ireturn, 1) := by decide +kernel
set_option maxRecDepth 20000 in
theorem ggX5_turnWanted_X0_isDifferent : GoodIn wsX5_turnWanted wsX0_isDifferent := goodIn_r _ [13, 14, 15, 102, 103, 104, 105, 106, 107, 108, 109, 110, 111, 112] (by decide +kernel) (by decide +kernel)
set_option maxRecDepth 20000 in
theorem gX5_turnWanted_X0_isDifferent : GoodIn wsX5_turnWanted (wsV RX5 301 RX0 yX0_isDifferent wsX0_isDifferent) := goodIn_app (goodIn_of _ (by decide +kernel)) ggX5_turnWanted_X0_isDifferent
set_option maxRecDepth 20000 in
theorem ggX5_turnWanted_X2_remember : GoodIn wsX5_turnWanted wsX2_remember := goodIn_r _ [20, 21, 22, 23, 24, 25, 26, 27, 28, 29, 30, 12, 31, 32, 33, 34, 35, 36, 37, 38, 39, 40, 41, 42, 43, 14, 15, 44, 113, 114, 115, 102, 103, 104, 105, 106, 107, 108, 109, 110, 111, 112] (by decide +kernel) (by decide +kernel)
set_option maxRecDepth 20000 in
theorem gX5_turnWanted_X2_remember : GoodIn wsX5_turnWanted (wsV RX5 76 RX2 yX2_remember wsX2_remember) := goodIn_app (goodIn_of _ (by decide +kernel)) ggX5_turnWanted_X2_remember
set_option maxRecDepth 20000 in
theorem ggX5_turnWanted_X5_settle : GoodIn wsX5_turnWanted wsX5_settle := goodIn_r _ [49, 50, 3, 51, 4, 52, 53, 54, 55, 56, 57, 58, 59, 60, 61, 62, 63, 64, 65, 66, 67, 68, 69, 70, 71, 72, 73, 74, 75, 76, 77, 78, 79, 80, 81, 82, 83, 84, 85, 86, 10, 11, 12, 13, 14, 15, 87, 88, 89, 90, 91, 92, 93, 102, 103, 104, 105, 106, 107, 108, 109, 110, 111, 112, 116, 117, 118, 119, 120, 121, 122, 123, 124, 94, 95, 96, 97, 98, 99, 100, 101] (by decide +kernel) (by decide +kernel)
set_option maxRecDepth 20000 in
theorem gX5_turnWanted_X5_settle : GoodIn wsX5_turnWanted (wsV RX5 83 RX5 yX5_settle wsX5_settle) := goodIn_app (goodIn_of _ (by decide +kernel)) ggX5_turnWanted_X5_settle
theorem dX5_turnWanted_0 : decode cX5_turnWanted 0 = .ok (.aload_n 0, 1) := by decide +kernel
theorem dX5_turnWanted_1 : decode cX5_turnWanted 1 = .ok (.getfield 19, 3) := by decide +kernel
theorem dX5_turnWanted_4 : decode cX5_turnWanted 4 = .ok (.iload_n 1, 1) := by decide +kernel
theorem dX5_turnWanted_5 : decode cX5_turnWanted 5 = .ok (.invokevirtual 301, 3) := by decide +kernel
theorem dX5_turnWanted_8 : decode cX5_turnWanted 8 = .ok (.ifCond .ne 26, 3) := by decide +kernel
theorem dX5_turnWanted_11 : decode cX5_turnWanted 11 = .ok (.aload_n 0, 1) := by decide +kernel
theorem dX5_turnWanted_12 : decode cX5_turnWanted 12 = .ok (.getfield 43, 3) := by decide +kernel
theorem dX5_turnWanted_15 : decode cX5_turnWanted 15 = .ok (.getfield 99, 3) := by decide +kernel
theorem dX5_turnWanted_18 : decode cX5_turnWanted 18 = .ok (.bipush 8, 2) := by decide +kernel
theorem dX5_turnWanted_20 : decode cX5_turnWanted 20 = .ok (.if_icmp .lt 14, 3) := by decide +kernel
theorem dX5_turnWanted_23 : decode cX5_turnWanted 23 = .ok (.new 234, 3) := by decide +kernel
theorem dX5_turnWanted_26 : decode cX5_turnWanted 26 = .ok (.dup, 1) := by decide +kernel
theorem dX5_turnWanted_27 : decode cX5_turnWanted 27 = .ok (.ldc_w 304, 3) := by decide +kernel
theorem dX5_turnWanted_30 : decode cX5_turnWanted 30 = .ok (.invokespecial 238, 3) := by decide +kernel
theorem dX5_turnWanted_33 : decode cX5_turnWanted 33 = .ok (.athrow, 1) := by decide +kernel
theorem dX5_turnWanted_34 : decode cX5_turnWanted 34 = .ok (.aload_n 0, 1) := by decide +kernel
theorem dX5_turnWanted_35 : decode cX5_turnWanted 35 = .ok (.getfield 29, 3) := by decide +kernel
theorem dX5_turnWanted_38 : decode cX5_turnWanted 38 = .ok (.aload_n 0, 1) := by decide +kernel
theorem dX5_turnWanted_39 : decode cX5_turnWanted 39 = .ok (.getfield 19, 3) := by decide +kernel
theorem dX5_turnWanted_42 : decode cX5_turnWanted 42 = .ok (.invokevirtual 76, 3) := by decide +kernel
theorem dX5_turnWanted_45 : decode cX5_turnWanted 45 = .ok (.aload_n 0, 1) := by decide +kernel
theorem dX5_turnWanted_46 : decode cX5_turnWanted 46 = .ok (.getfield 19, 3) := by decide +kernel
theorem dX5_turnWanted_49 : decode cX5_turnWanted 49 = .ok (.getfield 141, 3) := by decide +kernel
theorem dX5_turnWanted_52 : decode cX5_turnWanted 52 = .ok (.iload_n 1, 1) := by decide +kernel
theorem dX5_turnWanted_53 : decode cX5_turnWanted 53 = .ok (.aload_n 0, 1) := by decide +kernel
theorem dX5_turnWanted_54 : decode cX5_turnWanted 54 = .ok (.getfield 19, 3) := by decide +kernel
theorem dX5_turnWanted_57 : decode cX5_turnWanted 57 = .ok (.getfield 141, 3) := by decide +kernel
theorem dX5_turnWanted_60 : decode cX5_turnWanted 60 = .ok (.iload_n 1, 1) := by decide +kernel
theorem dX5_turnWanted_61 : decode cX5_turnWanted 61 = .ok (.baload, 1) := by decide +kernel
theorem dX5_turnWanted_62 : decode cX5_turnWanted 62 = .ok (.ifCond .ne 7, 3) := by decide +kernel
theorem dX5_turnWanted_65 : decode cX5_turnWanted 65 = .ok (.iconst 1, 1) := by decide +kernel
theorem dX5_turnWanted_66 : decode cX5_turnWanted 66 = .ok (.goto 4, 3) := by decide +kernel
theorem dX5_turnWanted_69 : decode cX5_turnWanted 69 = .ok (.iconst 0, 1) := by decide +kernel
theorem dX5_turnWanted_70 : decode cX5_turnWanted 70 = .ok (.bastore, 1) := by decide +kernel
theorem dX5_turnWanted_71 : decode cX5_turnWanted 71 = .ok (.aload_n 0, 1) := by decide +kernel
theorem dX5_turnWanted_72 : decode cX5_turnWanted 72 = .ok (.getfield 19, 3) := by decide +kernel
theorem dX5_turnWanted_75 : decode cX5_turnWanted 75 = .ok (.getfield 144, 3) := by decide +kernel
theorem dX5_turnWanted_78 : decode cX5_turnWanted 78 = .ok (.iload_n 1, 1) := by decide +kernel
theorem dX5_turnWanted_79 : decode cX5_turnWanted 79 = .ok (.iconst 0, 1) := by decide +kernel
theorem dX5_turnWanted_80 : decode cX5_turnWanted 80 = .ok (.bastore, 1) := by decide +kernel
theorem dX5_turnWanted_81 : decode cX5_turnWanted 81 = .ok (.aload_n 0, 1) := by decide +kernel
theorem dX5_turnWanted_82 : decode cX5_turnWanted 82 = .ok (.invokevirtual 83, 3) := by decide +kernel
theorem dX5_turnWanted_85 : decode cX5_turnWanted 85 = .ok (.return_, 1) := by decide +kernel
set_option maxRecDepth 20000 in
theorem ggX5_carryOut_X1_measure : GoodIn wsX5_carryOut wsX1_measure := goodIn_r _ [14, 15, 16, 17, 18, 19, 20, 21, 22, 23, 24, 25, 26, 27, 28, 29, 30, 31, 32, 13, 33, 34, 35, 36, 37, 38, 39, 40, 41, 42, 43, 44, 45, 46, 47, 48, 49, 50, 51, 52, 53, 54, 55, 56, 57, 58, 59, 60, 61, 62, 63, 64, 65, 66, 67, 68, 69, 70, 71, 72, 73, 74, 75, 76, 77, 78, 79, 139, 140, 141, 142, 143, 144, 145, 146, 147, 148, 149, 150, 151, 152, 153, 154, 155, 156, 157, 158, 159, 160, 161, 162, 163, 164, 165, 166] (by decide +kernel) (by decide +kernel)
set_option maxRecDepth 20000 in
theorem gX5_carryOut_X1_measure : GoodIn wsX5_carryOut (wsV RX5 196 RX1 yX1_measure wsX1_measure) := goodIn_app (goodIn_of _ (by decide +kernel)) ggX5_carryOut_X1_measure
set_option maxRecDepth 20000 in
theorem ggX5_carryOut_X2_remember : GoodIn wsX5_carryOut wsX2_remember := goodIn_r _ [84, 85, 86, 87, 88, 89, 26, 90, 91, 92, 93, 94, 95, 96, 97, 98, 99, 100, 101, 102, 103, 104, 105, 106, 107, 108, 109, 110, 167, 168, 169, 147, 148, 149, 150, 151, 152, 153, 154, 155, 156, 157] (by decide +kernel) (by decide +kernel)
set_option maxRecDepth 20000 in
theorem gX5_carryOut_X2_remember : GoodIn wsX5_carryOut (wsV RX5 76 RX2 yX2_remember wsX2_remember) := goodIn_app (goodIn_of _ (by decide +kernel)) ggX5_carryOut_X2_remember
set_option maxRecDepth 20000 in
theorem ggX5_carryOut_X1_holds : GoodIn wsX5_carryOut wsX1_holds := goodIn_r _ [33] (by decide +kernel) (by decide +kernel)
set_option maxRecDepth 20000 in
theorem gX5_carryOut_X1_holds : GoodIn wsX5_carryOut (wsV RX5 306 RX1 yX1_holds wsX1_holds) := goodIn_app (goodIn_of _ (by decide +kernel)) ggX5_carryOut_X1_holds
set_option maxRecDepth 20000 in
theorem ggX5_carryOut_X0_setAnew : GoodIn wsX5_carryOut wsX0_setAnew := goodIn_r _ [115, 108, 109, 110, 147, 148, 149, 150, 151, 152, 153, 154, 155, 156, 157] (by decide +kernel) (by decide +kernel)
set_option maxRecDepth 20000 in
theorem gX5_carryOut_X0_setAnew : GoodIn wsX5_carryOut (wsV RX5 310 RX0 yX0_setAnew wsX0_setAnew) := goodIn_app (goodIn_of _ (by decide +kernel)) ggX5_carryOut_X0_setAnew
set_option maxRecDepth 20000 in
theorem ggX5_carryOut_X5_settle : GoodIn wsX5_carryOut wsX5_settle := goodIn_r _ [120, 3, 2, 121, 1, 122, 35, 36, 37, 38, 39, 40, 41, 42, 43, 44, 45, 46, 47, 48, 49, 50, 51, 52, 53, 54, 55, 56, 57, 58, 123, 124, 125, 13, 126, 18, 127, 64, 19, 128, 129, 130, 94, 131, 108, 109, 132, 133, 134, 135, 136, 137, 138, 147, 148, 149, 150, 151, 152, 153, 154, 155, 156, 157, 158, 159, 160, 161, 162, 163, 164, 165, 166, 139, 140, 141, 142, 143, 144, 145, 146] (by decide +kernel) (by decide +kernel)
set_option maxRecDepth 20000 in
theorem gX5_carryOut_X5_settle : GoodIn wsX5_carryOut (wsV RX5 83 RX5 yX5_settle wsX5_settle) := goodIn_app (goodIn_of _ (by decide +kernel)) ggX5_carryOut_X5_settle
theorem dX5_carryOut_0 : decode cX5_carryOut 0 = .ok (.aload_n 0, 1) := by decide +kernel
theorem dX5_carryOut_1 : decode cX5_carryOut 1 = .ok (.getfield 43, 3) := by decide +kernel
theorem dX5_carryOut_4 : decode cX5_carryOut 4 = .ok (.aload_n 0, 1) := by decide +kernel
theorem dX5_carryOut_5 : decode cX5_carryOut 5 = .ok (.getfield 19, 3) := by decide +kernel
theorem dX5_carryOut_8 : decode cX5_carryOut 8 = .ok (.aload_n 0, 1) := by decide +kernel
theorem dX5_carryOut_9 : decode cX5_carryOut 9 = .ok (.getfield 36, 3) := by decide +kernel
theorem dX5_carryOut_12 : decode cX5_carryOut 12 = .ok (.iload_n 1, 1) := by decide +kernel
theorem dX5_carryOut_13 : decode cX5_carryOut 13 = .ok (.invokevirtual 196, 3) := by decide +kernel
theorem dX5_carryOut_16 : decode cX5_carryOut 16 = .ok (.aload_n 0, 1) := by decide +kernel
theorem dX5_carryOut_17 : decode cX5_carryOut 17 = .ok (.getfield 43, 3) := by decide +kernel
theorem dX5_carryOut_20 : decode cX5_carryOut 20 = .ok (.getfield 200, 3) := by decide +kernel
theorem dX5_carryOut_23 : decode cX5_carryOut 23 = .ok (.iconst 0, 1) := by decide +kernel
theorem dX5_carryOut_24 : decode cX5_carryOut 24 = .ok (.iaload, 1) := by decide +kernel
theorem dX5_carryOut_25 : decode cX5_carryOut 25 = .ok (.istore_n 2, 1) := by decide +kernel
theorem dX5_carryOut_26 : decode cX5_carryOut 26 = .ok (.aload_n 0, 1) := by decide +kernel
theorem dX5_carryOut_27 : decode cX5_carryOut 27 = .ok (.getfield 29, 3) := by decide +kernel
theorem dX5_carryOut_30 : decode cX5_carryOut 30 = .ok (.aload_n 0, 1) := by decide +kernel
theorem dX5_carryOut_31 : decode cX5_carryOut 31 = .ok (.getfield 19, 3) := by decide +kernel
theorem dX5_carryOut_34 : decode cX5_carryOut 34 = .ok (.invokevirtual 76, 3) := by decide +kernel
theorem dX5_carryOut_37 : decode cX5_carryOut 37 = .ok (.iconst 0, 1) := by decide +kernel
theorem dX5_carryOut_38 : decode cX5_carryOut 38 = .ok (.istore_n 3, 1) := by decide +kernel
theorem dX5_carryOut_39 : decode cX5_carryOut 39 = .ok (.iload_n 3, 1) := by decide +kernel
theorem dX5_carryOut_40 : decode cX5_carryOut 40 = .ok (.aload_n 0, 1) := by decide +kernel
theorem dX5_carryOut_41 : decode cX5_carryOut 41 = .ok (.getfield 43, 3) := by decide +kernel
theorem dX5_carryOut_44 : decode cX5_carryOut 44 = .ok (.getfield 99, 3) := by decide +kernel
theorem dX5_carryOut_47 : decode cX5_carryOut 47 = .ok (.if_icmp .ge 58, 3) := by decide +kernel
theorem dX5_carryOut_50 : decode cX5_carryOut 50 = .ok (.aload_n 0, 1) := by decide +kernel
theorem dX5_carryOut_51 : decode cX5_carryOut 51 = .ok (.getfield 43, 3) := by decide +kernel
theorem dX5_carryOut_54 : decode cX5_carryOut 54 = .ok (.iload_n 1, 1) := by decide +kernel
theorem dX5_carryOut_55 : decode cX5_carryOut 55 = .ok (.iload_n 3, 1) := by decide +kernel
theorem dX5_carryOut_56 : decode cX5_carryOut 56 = .ok (.invokevirtual 306, 3) := by decide +kernel
theorem dX5_carryOut_59 : decode cX5_carryOut 59 = .ok (.ifCond .eq 22, 3) := by decide +kernel
theorem dX5_carryOut_62 : decode cX5_carryOut 62 = .ok (.aload_n 0, 1) := by decide +kernel
theorem dX5_carryOut_63 : decode cX5_carryOut 63 = .ok (.getfield 19, 3) := by decide +kernel
theorem dX5_carryOut_66 : decode cX5_carryOut 66 = .ok (.aload_n 0, 1) := by decide +kernel
theorem dX5_carryOut_67 : decode cX5_carryOut 67 = .ok (.getfield 43, 3) := by decide +kernel
theorem dX5_carryOut_70 : decode cX5_carryOut 70 = .ok (.getfield 184, 3) := by decide +kernel
theorem dX5_carryOut_73 : decode cX5_carryOut 73 = .ok (.iload_n 3, 1) := by decide +kernel
theorem dX5_carryOut_74 : decode cX5_carryOut 74 = .ok (.iaload, 1) := by decide +kernel
theorem dX5_carryOut_75 : decode cX5_carryOut 75 = .ok (.invokevirtual 310, 3) := by decide +kernel
theorem dX5_carryOut_78 : decode cX5_carryOut 78 = .ok (.goto 21, 3) := by decide +kernel
theorem dX5_carryOut_81 : decode cX5_carryOut 81 = .ok (.aload_n 0, 1) := by decide +kernel
theorem dX5_carryOut_82 : decode cX5_carryOut 82 = .ok (.getfield 19, 3) := by decide +kernel
theorem dX5_carryOut_85 : decode cX5_carryOut 85 = .ok (.getfield 144, 3) := by decide +kernel
theorem dX5_carryOut_88 : decode cX5_carryOut 88 = .ok (.aload_n 0, 1) := by decide +kernel
theorem dX5_carryOut_89 : decode cX5_carryOut 89 = .ok (.getfield 43, 3) := by decide +kernel
theorem dX5_carryOut_92 : decode cX5_carryOut 92 = .ok (.getfield 184, 3) := by decide +kernel
theorem dX5_carryOut_95 : decode cX5_carryOut 95 = .ok (.iload_n 3, 1) := by decide +kernel
theorem dX5_carryOut_96 : decode cX5_carryOut 96 = .ok (.iaload, 1) := by decide +kernel
theorem dX5_carryOut_97 : decode cX5_carryOut 97 = .ok (.iconst 1, 1) := by decide +kernel
theorem dX5_carryOut_98 : decode cX5_carryOut 98 = .ok (.bastore, 1) := by decide +kernel
theorem dX5_carryOut_99 : decode cX5_carryOut 99 = .ok (.iinc 3 1, 3) := by decide +kernel
theorem dX5_carryOut_102 : decode cX5_carryOut 102 = .ok (.goto (-63), 3) := by decide +kernel
theorem dX5_carryOut_105 : decode cX5_carryOut 105 = .ok (.aload_n 0, 1) := by decide +kernel
theorem dX5_carryOut_106 : decode cX5_carryOut 106 = .ok (.getfield 19, 3) := by decide +kernel
theorem dX5_carryOut_109 : decode cX5_carryOut 109 = .ok (.dup, 1) := by decide +kernel
theorem dX5_carryOut_110 : decode cX5_carryOut 110 = .ok (.getfield 109, 3) := by decide +kernel
theorem dX5_carryOut_113 : decode cX5_carryOut 113 = .ok (.iload_n 2, 1) := by decide +kernel
theorem dX5_carryOut_114 : decode cX5_carryOut 114 = .ok (.iadd, 1) := by decide +kernel
theorem dX5_carryOut_115 : decode cX5_carryOut 115 = .ok (.putfield 109, 3) := by decide +kernel
theorem dX5_carryOut_118 : decode cX5_carryOut 118 = .ok (.aload_n 0, 1) := by decide +kernel
theorem dX5_carryOut_119 : decode cX5_carryOut 119 = .ok (.invokevirtual 83, 3) := by decide +kernel
theorem dX5_carryOut_122 : decode cX5_carryOut 122 = .ok (.iload_n 2, 1) := by decide +kernel
theorem dX5_carryOut_123 : decode cX5_carryOut 123 = .ok (.ireturn, 1) := by decide +kernel
