theorem dX6_through_63 : decode cX6_through 63 = .ok (.aload_n 0, 1) := by decide +kernel
theorem dX6_through_64 : decode cX6_through 64 = .ok (.iload_n 3, 1) := by decide +kernel
theorem dX6_through_65 : decode cX6_through 65 = .ok (.iconst 0, 1) := by decide +kernel
theorem dX6_through_66 : decode cX6_through 66 = .ok (.invokevirtual 168, 3) := by decide +kernel
theorem dX6_through_69 : decode cX6_through 69 = .ok (.imul, 1) := by decide +kernel
theorem dX6_through_70 : decode cX6_through 70 = .ok (.isub, 1) := by decide +kernel
theorem dX6_through_71 : decode cX6_through 71 = .ok (.istore_n 2, 1) := by decide +kernel
theorem dX6_through_72 : decode cX6_through 72 = .ok (.iinc 3 1, 3) := by decide +kernel
theorem dX6_through_75 : decode cX6_through 75 = .ok (.goto (-37), 3) := by decide +kernel
theorem dX6_through_78 : decode cX6_through 78 = .ok (.iload_n 3, 1) := by decide +kernel
theorem dX6_through_79 : decode cX6_through 79 = .ok (.ireturn, 1) := by decide +kernel
set_option maxRecDepth 20000 in
theorem ggX6_filled_X6_lay : GoodIn wsX6_filled wsX6_lay := goodIn_r _ [8, 3, 2, 9, 10, 11, 12, 13, 14, 15, 7, 16, 17, 18, 19, 20, 21, 22, 23, 28, 29, 30, 31, 32, 33, 34, 35, 36, 37, 38, 39, 40, 41, 42, 43, 44, 45, 46, 47, 48, 49] (by decide +kernel) (by decide +kernel)
set_option maxRecDepth 20000 in
theorem gX6_filled_X6_lay : GoodIn wsX6_filled (wsV RX6 187 RX6 yX6_lay wsX6_lay) := goodIn_app (goodIn_of _ (by decide +kernel)) ggX6_filled_X6_lay
set_option maxRecDepth 20000 in
theorem ggX6_filled_X6_printedLines : GoodIn wsX6_filled wsX6_printedLines := goodIn_r _ [27, 3, 17, 18, 19, 7, 20, 21, 22, 23, 28, 29, 30, 31, 32, 33, 34, 35, 36, 37, 38, 39, 40, 41, 42, 43, 44, 45, 46, 47, 48, 49] (by decide +kernel) (by decide +kernel)
set_option maxRecDepth 20000 in
theorem gX6_filled_X6_printedLines : GoodIn wsX6_filled (wsV RX6 236 RX6 yX6_printedLines wsX6_printedLines) := goodIn_app (goodIn_of _ (by decide +kernel)) ggX6_filled_X6_printedLines
theorem dX6_filled_0 : decode cX6_filled 0 = .ok (.aload_n 0, 1) := by decide +kernel
theorem dX6_filled_1 : decode cX6_filled 1 = .ok (.iconst 0, 1) := by decide +kernel
theorem dX6_filled_2 : decode cX6_filled 2 = .ok (.putfield 53, 3) := by decide +kernel
theorem dX6_filled_5 : decode cX6_filled 5 = .ok (.aload_n 0, 1) := by decide +kernel
theorem dX6_filled_6 : decode cX6_filled 6 = .ok (.invokevirtual 187, 3) := by decide +kernel
theorem dX6_filled_9 : decode cX6_filled 9 = .ok (.aload_n 0, 1) := by decide +kernel
theorem dX6_filled_10 : decode cX6_filled 10 = .ok (.getfield 171, 3) := by decide +kernel
theorem dX6_filled_13 : decode cX6_filled 13 = .ok (.ifCond .ne 7, 3) := by decide +kernel
theorem dX6_filled_16 : decode cX6_filled 16 = .ok (.dconst 0, 1) := by decide +kernel
theorem dX6_filled_17 : decode cX6_filled 17 = .ok (.goto 21, 3) := by decide +kernel
theorem dX6_filled_20 : decode cX6_filled 20 = .ok (.aload_n 0, 1) := by decide +kernel
theorem dX6_filled_21 : decode cX6_filled 21 = .ok (.invokevirtual 236, 3) := by decide +kernel
theorem dX6_filled_24 : decode cX6_filled 24 = .ok (.i2d, 1) := by decide +kernel
theorem dX6_filled_25 : decode cX6_filled 25 = .ok (.aload_n 0, 1) := by decide +kernel
theorem dX6_filled_26 : decode cX6_filled 26 = .ok (.getfield 171, 3) := by decide +kernel
theorem dX6_filled_29 : decode cX6_filled 29 = .ok (.aload_n 0, 1) := by decide +kernel
theorem dX6_filled_30 : decode cX6_filled 30 = .ok (.getfield 17, 3) := by decide +kernel
theorem dX6_filled_33 : decode cX6_filled 33 = .ok (.iconst 0, 1) := by decide +kernel
theorem dX6_filled_34 : decode cX6_filled 34 = .ok (.iaload, 1) := by decide +kernel
theorem dX6_filled_35 : decode cX6_filled 35 = .ok (.imul, 1) := by decide +kernel
theorem dX6_filled_36 : decode cX6_filled 36 = .ok (.i2d, 1) := by decide +kernel
theorem dX6_filled_37 : decode cX6_filled 37 = .ok (.ddiv, 1) := by decide +kernel
theorem dX6_filled_38 : decode cX6_filled 38 = .ok (.dreturn, 1) := by decide +kernel
set_option maxRecDepth 20000 in
theorem ggX6_remember_X6_copy : GoodIn wsX6_remember wsX6_copy := goodIn_r _ [7] (by decide +kernel) (by decide +kernel)
set_option maxRecDepth 20000 in
theorem gX6_remember_X6_copy : GoodIn wsX6_remember (va_wsS RX6 164 yX6_copy wsX6_copy) := goodIn_app (goodIn_of _ (by decide +kernel)) ggX6_remember_X6_copy
theorem dX6_remember_0 : decode cX6_remember 0 = .ok (.aload_n 0, 1) := by decide +kernel
theorem dX6_remember_1 : decode cX6_remember 1 = .ok (.getfield 239, 3) := by decide +kernel
theorem dX6_remember_4 : decode cX6_remember 4 = .ok (.bipush 8, 2) := by decide +kernel
theorem dX6_remember_6 : decode cX6_remember 6 = .ok (.if_icmp .ne 44, 3) := by decide +kernel
theorem dX6_remember_9 : decode cX6_remember 9 = .ok (.iconst 1, 1) := by decide +kernel
theorem dX6_remember_10 : decode cX6_remember 10 = .ok (.istore_n 1, 1) := by decide +kernel
theorem dX6_remember_11 : decode cX6_remember 11 = .ok (.iload_n 1, 1) := by decide +kernel
theorem dX6_remember_12 : decode cX6_remember 12 = .ok (.bipush 8, 2) := by decide +kernel
theorem dX6_remember_14 : decode cX6_remember 14 = .ok (.if_icmp .ge 26, 3) := by decide +kernel
theorem dX6_remember_17 : decode cX6_remember 17 = .ok (.aload_n 0, 1) := by decide +kernel
theorem dX6_remember_18 : decode cX6_remember 18 = .ok (.getfield 25, 3) := by decide +kernel
theorem dX6_remember_21 : decode cX6_remember 21 = .ok (.iload_n 1, 1) := by decide +kernel
theorem dX6_remember_22 : decode cX6_remember 22 = .ok (.aaload, 1) := by decide +kernel
theorem dX6_remember_23 : decode cX6_remember 23 = .ok (.aload_n 0, 1) := by decide +kernel
theorem dX6_remember_24 : decode cX6_remember 24 = .ok (.getfield 25, 3) := by decide +kernel
theorem dX6_remember_27 : decode cX6_remember 27 = .ok (.iload_n 1, 1) := by decide +kernel
theorem dX6_remember_28 : decode cX6_remember 28 = .ok (.iconst 1, 1) := by decide +kernel
theorem dX6_remember_29 : decode cX6_remember 29 = .ok (.isub, 1) := by decide +kernel
theorem dX6_remember_30 : decode cX6_remember 30 = .ok (.aaload, 1) := by decide +kernel
theorem dX6_remember_31 : decode cX6_remember 31 = .ok (.invokestatic 164, 3) := by decide +kernel
theorem dX6_remember_34 : decode cX6_remember 34 = .ok (.iinc 1 1, 3) := by decide +kernel
theorem dX6_remember_37 : decode cX6_remember 37 = .ok (.goto (-26), 3) := by decide +kernel
theorem dX6_remember_40 : decode cX6_remember 40 = .ok (.aload_n 0, 1) := by decide +kernel
theorem dX6_remember_41 : decode cX6_remember 41 = .ok (.dup, 1) := by decide +kernel
theorem dX6_remember_42 : decode cX6_remember 42 = .ok (.getfield 239, 3) := by decide +kernel
theorem dX6_remember_45 : decode cX6_remember 45 = .ok (.iconst 1, 1) := by decide +kernel
theorem dX6_remember_46 : decode cX6_remember 46 = .ok (.isub, 1) := by decide +kernel
theorem dX6_remember_47 : decode cX6_remember 47 = .ok (.putfield 239, 3) := by decide +kernel
theorem dX6_remember_50 : decode cX6_remember 50 = .ok (.aload_n 0, 1) := by decide +kernel
theorem dX6_remember_51 : decode cX6_remember 51 = .ok (.getfield 17, 3) := by decide +kernel
theorem dX6_remember_54 : decode cX6_remember 54 = .ok (.aload_n 0, 1) := by decide +kernel
theorem dX6_remember_55 : decode cX6_remember 55 = .ok (.getfield 25, 3) := by decide +kernel
theorem dX6_remember_58 : decode cX6_remember 58 = .ok (.aload_n 0, 1) := by decide +kernel
theorem dX6_remember_59 : decode cX6_remember 59 = .ok (.getfield 239, 3) := by decide +kernel
theorem dX6_remember_62 : decode cX6_remember 62 = .ok (.aaload, 1) := by decide +kernel
theorem dX6_remember_63 : decode cX6_remember 63 = .ok (.invokestatic 164, 3) := by decide +kernel
theorem dX6_remember_66 : decode cX6_remember 66 = .ok (.aload_n 0, 1) := by decide +kernel
theorem dX6_remember_67 : decode cX6_remember 67 = .ok (.dup, 1) := by decide +kernel
theorem dX6_remember_68 : decode cX6_remember 68 = .ok (.getfield 239, 3) := by decide +kernel
theorem dX6_remember_71 : decode cX6_remember 71 = .ok (.iconst 1, 1) := by decide +kernel
theorem dX6_remember_72 : decode cX6_remember 72 = .ok (.iadd, 1) := by decide +kernel
theorem dX6_remember_73 : decode cX6_remember 73 = .ok (.putfield 239, 3) := by decide +kernel
theorem dX6_remember_76 : decode cX6_remember 76 = .ok (.return_, 1) := by decide +kernel
set_option maxRecDepth 20000 in
theorem ggX6_want_X6_of : GoodIn wsX6_want wsX6_of := goodIn_r _ [6, 1, 7, 8, 5, 9, 34, 35, 36, 37, 38, 39, 40, 41, 42, 43, 44, 45, 46, 47, 48, 49, 50, 51, 52, 53, 54, 55] (by decide +kernel) (by decide +kernel)
set_option maxRecDepth 20000 in
theorem gX6_want_X6_of : GoodIn wsX6_want (wsV RX6 168 RX6 yX6_of wsX6_of) := goodIn_app (goodIn_of _ (by decide +kernel)) ggX6_want_X6_of
set_option maxRecDepth 20000 in
theorem ggX6_want_X6_different : GoodIn wsX6_want wsX6_different := goodIn_r _ [12, 13, 14, 5, 15, 7, 8, 9] (by decide +kernel) (by decide +kernel)
set_option maxRecDepth 20000 in
theorem gX6_want_X6_different : GoodIn wsX6_want (va_wsS RX6 132 yX6_different wsX6_different) := goodIn_app (goodIn_of _ (by decide +kernel)) ggX6_want_X6_different
set_option maxRecDepth 20000 in
theorem ggX6_want_X6_fails : GoodIn wsX6_want wsX6_fails := goodIn_r _ [19, 20, 34, 35, 36, 37, 38, 39, 40, 41, 42, 43, 44, 45, 46, 47, 48, 49, 50, 51, 52, 53, 54, 55] (by decide +kernel) (by decide +kernel)
set_option maxRecDepth 20000 in
theorem gX6_want_X6_fails : GoodIn wsX6_want (wsV RX6 152 RX6 yX6_fails wsX6_fails) := goodIn_app (goodIn_of _ (by decide +kernel)) ggX6_want_X6_fails
set_option maxRecDepth 20000 in
theorem ggX6_want_X6_remember : GoodIn wsX6_want wsX6_remember := goodIn_r _ [24, 25, 26, 1, 27, 28, 5, 29, 34, 35, 36, 37, 38, 39, 40, 41, 42, 43, 44, 45, 46, 47, 48, 49, 50, 51, 52, 53, 54, 55] (by decide +kernel) (by decide +kernel)
set_option maxRecDepth 20000 in
theorem gX6_want_X6_remember : GoodIn wsX6_want (wsV RX6 161 RX6 yX6_remember wsX6_remember) := goodIn_app (goodIn_of _ (by decide +kernel)) ggX6_want_X6_remember
set_option maxRecDepth 20000 in
theorem ggX6_want_X6_set : GoodIn wsX6_want wsX6_set := goodIn_r _ [33, 1, 7, 8, 5, 9, 34, 35, 36, 37, 38, 39, 40, 41, 42, 43, 44, 45, 46, 47, 48, 49, 50, 51, 52, 53, 54, 55] (by decide +kernel) (by decide +kernel)
set_option maxRecDepth 20000 in
theorem gX6_want_X6_set : GoodIn wsX6_want (wsV RX6 193 RX6 yX6_set wsX6_set) := goodIn_app (goodIn_of _ (by decide +kernel)) ggX6_want_X6_set
theorem dX6_want_0 : decode cX6_want 0 = .ok (.aload_n 0, 1) := by decide +kernel
theorem dX6_want_1 : decode cX6_want 1 = .ok (.aload_n 0, 1) := by decide +kernel
theorem dX6_want_2 : decode cX6_want 2 = .ok (.iload_n 1, 1) := by decide +kernel
theorem dX6_want_3 : decode cX6_want 3 = .ok (.iconst 4, 1) := by decide +kernel
theorem dX6_want_4 : decode cX6_want 4 = .ok (.invokevirtual 168, 3) := by decide +kernel
theorem dX6_want_7 : decode cX6_want 7 = .ok (.iload_n 2, 1) := by decide +kernel
theorem dX6_want_8 : decode cX6_want 8 = .ok (.if_icmp .eq 25, 3) := by decide +kernel
theorem dX6_want_11 : decode cX6_want 11 = .ok (.aload_n 0, 1) := by decide +kernel
theorem dX6_want_12 : decode cX6_want 12 = .ok (.iload_n 1, 1) := by decide +kernel
theorem dX6_want_13 : decode cX6_want 13 = .ok (.iconst 3, 1) := by decide +kernel
theorem dX6_want_14 : decode cX6_want 14 = .ok (.invokevirtual 168, 3) := by decide +kernel
theorem dX6_want_17 : decode cX6_want 17 = .ok (.iload_n 2, 1) := by decide +kernel
theorem dX6_want_18 : decode cX6_want 18 = .ok (.if_icmp .eq 19, 3) := by decide +kernel
theorem dX6_want_21 : decode cX6_want 21 = .ok (.aload_n 0, 1) := by decide +kernel
theorem dX6_want_22 : decode cX6_want 22 = .ok (.getfield 17, 3) := by decide +kernel
theorem dX6_want_25 : decode cX6_want 25 = .ok (.invokestatic 132, 3) := by decide +kernel
theorem dX6_want_28 : decode cX6_want 28 = .ok (.bipush 8, 2) := by decide +kernel
theorem dX6_want_30 : decode cX6_want 30 = .ok (.if_icmp .ne 7, 3) := by decide +kernel
theorem dX6_want_33 : decode cX6_want 33 = .ok (.iconst 1, 1) := by decide +kernel
theorem dX6_want_34 : decode cX6_want 34 = .ok (.goto 4, 3) := by decide +kernel
theorem dX6_want_37 : decode cX6_want 37 = .ok (.iconst 0, 1) := by decide +kernel
theorem dX6_want_38 : decode cX6_want 38 = .ok (.iconst 2, 1) := by decide +kernel
theorem dX6_want_39 : decode cX6_want 39 = .ok (.invokevirtual 152, 3) := by decide +kernel
theorem dX6_want_42 : decode cX6_want 42 = .ok (.ifCond .eq 5, 3) := by decide +kernel
theorem dX6_want_45 : decode cX6_want 45 = .ok (.iconst 0, 1) := by decide +kernel
theorem dX6_want_46 : decode cX6_want 46 = .ok (.ireturn, 1) := by decide +kernel
theorem dX6_want_47 : decode cX6_want 47 = .ok (.aload_n 0, 1) := by decide +kernel
theorem dX6_want_48 : decode cX6_want 48 = .ok (.invokevirtual 161, 3) := by decide +kernel
theorem dX6_want_51 : decode cX6_want 51 = .ok (.aload_n 0, 1) := by decide +kernel
theorem dX6_want_52 : decode cX6_want 52 = .ok (.iload_n 1, 1) := by decide +kernel
theorem dX6_want_53 : decode cX6_want 53 = .ok (.iconst 4, 1) := by decide +kernel
theorem dX6_want_54 : decode cX6_want 54 = .ok (.iload_n 2, 1) := by decide +kernel
theorem dX6_want_55 : decode cX6_want 55 = .ok (.invokevirtual 193, 3) := by decide +kernel
theorem dX6_want_58 : decode cX6_want 58 = .ok (.aload_n 0, 1) := by decide +kernel
theorem dX6_want_59 : decode cX6_want 59 = .ok (.iload_n 1, 1) := by decide +kernel
theorem dX6_want_60 : decode cX6_want 60 = .ok (.iconst 5, 1) := by decide +kernel
theorem dX6_want_61 : decode cX6_want 61 = .ok (.iconst 0, 1) := by decide +kernel
theorem dX6_want_62 : decode cX6_want 62 = .ok (.invokevirtual 193, 3) := by decide +kernel
theorem dX6_want_65 : decode cX6_want 65 = .ok (.aload_n 0, 1) := by decide +kernel
theorem dX6_want_66 : decode cX6_want 66 = .ok (.getfield 17, 3) := by decide +kernel
theorem dX6_want_69 : decode cX6_want 69 = .ok (.invokestatic 132, 3) := by decide +kernel
theorem dX6_want_72 : decode cX6_want 72 = .ok (.ireturn, 1) := by decide +kernel
set_option maxRecDepth 20000 in
theorem ggX6_withdraw_X6_noLot : GoodIn wsX6_withdraw wsX6_noLot := goodIn_r _ [6, 7, 8, 9, 5, 10, 11, 12, 13, 14, 1, 45, 46, 47, 48, 49, 50, 51, 52, 53, 54, 55, 56, 57, 58, 59, 60, 61, 62, 63, 64, 65, 66] (by decide +kernel) (by decide +kernel)
set_option maxRecDepth 20000 in
theorem gX6_withdraw_X6_noLot : GoodIn wsX6_withdraw (wsV RX6 218 RX6 yX6_noLot wsX6_noLot) := goodIn_app (goodIn_of _ (by decide +kernel)) ggX6_withdraw_X6_noLot
set_option maxRecDepth 20000 in
theorem ggX6_withdraw_X6_want : GoodIn wsX6_withdraw wsX6_want := goodIn_r _ [18, 7, 19, 20, 21, 5, 22, 23, 24, 25, 26, 27, 28, 29, 30, 31, 11, 12, 13, 14, 1, 32, 33, 34, 35, 36, 37, 38, 39, 40, 41, 42, 43, 44, 45, 46, 47, 48, 49, 50, 51, 52, 53, 54, 55, 56, 57, 58, 59, 60, 61, 62, 63, 64, 65, 66] (by decide +kernel) (by decide +kernel)
set_option maxRecDepth 20000 in
theorem gX6_withdraw_X6_want : GoodIn wsX6_withdraw (wsV RX6 242 RX6 yX6_want wsX6_want) := goodIn_app (goodIn_of _ (by decide +kernel)) ggX6_withdraw_X6_want
theorem dX6_withdraw_0 : decode cX6_withdraw 0 = .ok (.aload_n 0, 1) := by decide +kernel
theorem dX6_withdraw_1 : decode cX6_withdraw 1 = .ok (.iconst 0, 1) := by decide +kernel
theorem dX6_withdraw_2 : decode cX6_withdraw 2 = .ok (.putfield 53, 3) := by decide +kernel
theorem dX6_withdraw_5 : decode cX6_withdraw 5 = .ok (.aload_n 0, 1) := by decide +kernel
theorem dX6_withdraw_6 : decode cX6_withdraw 6 = .ok (.iload_n 1, 1) := by decide +kernel
theorem dX6_withdraw_7 : decode cX6_withdraw 7 = .ok (.invokevirtual 218, 3) := by decide +kernel
theorem dX6_withdraw_10 : decode cX6_withdraw 10 = .ok (.ifCond .eq 7, 3) := by decide +kernel
theorem dX6_withdraw_13 : decode cX6_withdraw 13 = .ok (.iconst 0, 1) := by decide +kernel
theorem dX6_withdraw_14 : decode cX6_withdraw 14 = .ok (.goto 9, 3) := by decide +kernel
theorem dX6_withdraw_17 : decode cX6_withdraw 17 = .ok (.aload_n 0, 1) := by decide +kernel
theorem dX6_withdraw_18 : decode cX6_withdraw 18 = .ok (.iload_n 1, 1) := by decide +kernel
theorem dX6_withdraw_19 : decode cX6_withdraw 19 = .ok (.iconst 0, 1) := by decide +kernel
theorem dX6_withdraw_20 : decode cX6_withdraw 20 = .ok (.invokevirtual 242, 3) := by decide +kernel
theorem dX6_withdraw_23 : decode cX6_withdraw 23 = .ok (.ireturn, 1) := by decide +kernel
set_option maxRecDepth 20000 in
theorem ggX6_restore_X6_noLot : GoodIn wsX6_restore wsX6_noLot := goodIn_r _ [6, 7, 8, 9, 5, 10, 11, 12, 13, 14, 1, 45, 46, 47, 48, 49, 50, 51, 52, 53, 54, 55, 56, 57, 58, 59, 60, 61, 62, 63, 64, 65, 66] (by decide +kernel) (by decide +kernel)
set_option maxRecDepth 20000 in
theorem gX6_restore_X6_noLot : GoodIn wsX6_restore (wsV RX6 218 RX6 yX6_noLot wsX6_noLot) := goodIn_app (goodIn_of _ (by decide +kernel)) ggX6_restore_X6_noLot
set_option maxRecDepth 20000 in
theorem ggX6_restore_X6_want : GoodIn wsX6_restore wsX6_want := goodIn_r _ [18, 7, 19, 20, 21, 5, 22, 23, 24, 25, 26, 27, 28, 29, 30, 31, 11, 12, 13, 14, 1, 32, 33, 34, 35, 36, 37, 38, 39, 40, 41, 42, 43, 44, 45, 46, 47, 48, 49, 50, 51, 52, 53, 54, 55, 56, 57, 58, 59, 60, 61, 62, 63, 64, 65, 66] (by decide +kernel) (by decide +kernel)
set_option maxRecDepth 20000 in
theorem gX6_restore_X6_want : GoodIn wsX6_restore (wsV RX6 242 RX6 yX6_want wsX6_want) := goodIn_app (goodIn_of _ (by decide +kernel)) ggX6_restore_X6_want
theorem dX6_restore_0 : decode cX6_restore 0 = .ok (.aload_n 0, 1) := by decide +kernel
theorem dX6_restore_1 : decode cX6_restore 1 = .ok (.iconst 0, 1) := by decide +kernel
theorem dX6_restore_2 : decode cX6_restore 2 = .ok (.putfield 53, 3) := by decide +kernel
theorem dX6_restore_5 : decode cX6_restore 5 = .ok (.aload_n 0, 1) := by decide +kernel
theorem dX6_restore_6 : decode cX6_restore 6 = .ok (.iload_n 1, 1) := by decide +kernel
theorem dX6_restore_7 : decode cX6_restore 7 = .ok (.invokevirtual 218, 3) := by decide +kernel
theorem dX6_restore_10 : decode cX6_restore 10 = .ok (.ifCond .eq 7, 3) := by decide +kernel
theorem dX6_restore_13 : decode cX6_restore 13 = .ok (.iconst 0, 1) := by decide +kernel
theorem dX6_restore_14 : decode cX6_restore 14 = .ok (.goto 9, 3) := by decide +kernel
theorem dX6_restore_17 : decode cX6_restore 17 = .ok (.aload_n 0, 1) := by decide +kernel
theorem dX6_restore_18 : decode cX6_restore 18 = .ok (.iload_n 1, 1) := by decide +kernel
theorem dX6_restore_19 : decode cX6_restore 19 = .ok (.iconst 1, 1) := by decide +kernel
theorem dX6_restore_20 : decode cX6_restore 20 = .ok (.invokevirtual 242, 3) := by decide +kernel
theorem dX6_restore_23 : decode cX6_restore 23 = .ok (.ireturn, 1) := by decide +kernel
set_option maxRecDepth 20000 in
theorem ggX6_add_X6_in : GoodIn wsX6_add wsX6_in := goodIn_r _ [6] (by decide +kernel) (by decide +kernel)
set_option maxRecDepth 20000 in
theorem gX6_add_X6_in : GoodIn wsX6_add (va_wsS RX6 82 yX6_in wsX6_in) := goodIn_app (goodIn_of _ (by decide +kernel)) ggX6_add_X6_in
set_option maxRecDepth 20000 in
theorem ggX6_add_X6_min : GoodIn wsX6_add wsX6_min := goodIn_r _ [9] (by decide +kernel) (by decide +kernel)
set_option maxRecDepth 20000 in
theorem gX6_add_X6_min : GoodIn wsX6_add (va_wsS RX6 115 yX6_min wsX6_min) := goodIn_app (goodIn_of _ (by decide +kernel)) ggX6_add_X6_min
set_option maxRecDepth 20000 in
theorem ggX6_add_X6_fails : GoodIn wsX6_add wsX6_fails := goodIn_r _ [13, 1, 36, 37, 38, 39, 40, 41, 42, 43, 44, 45, 46, 47, 48, 49, 50, 51, 52, 53, 54, 55, 56, 57] (by decide +kernel) (by decide +kernel)
set_option maxRecDepth 20000 in
theorem gX6_add_X6_fails : GoodIn wsX6_add (wsV RX6 152 RX6 yX6_fails wsX6_fails) := goodIn_app (goodIn_of _ (by decide +kernel)) ggX6_add_X6_fails
set_option maxRecDepth 20000 in
theorem ggX6_add_X6_different : GoodIn wsX6_add wsX6_different := goodIn_r _ [16, 17, 18, 5, 19, 20, 21, 22] (by decide +kernel) (by decide +kernel)
set_option maxRecDepth 20000 in
theorem gX6_add_X6_different : GoodIn wsX6_add (va_wsS RX6 132 yX6_different wsX6_different) := goodIn_app (goodIn_of _ (by decide +kernel)) ggX6_add_X6_different
set_option maxRecDepth 20000 in
theorem ggX6_add_X6_remember : GoodIn wsX6_add wsX6_remember := goodIn_r _ [26, 27, 28, 2, 29, 30, 5, 31, 36, 37, 38, 39, 40, 41, 42, 43, 44, 45, 46, 47, 48, 49, 50, 51, 52, 53, 54, 55, 56, 57] (by decide +kernel) (by decide +kernel)
set_option maxRecDepth 20000 in
theorem gX6_add_X6_remember : GoodIn wsX6_add (wsV RX6 161 RX6 yX6_remember wsX6_remember) := goodIn_app (goodIn_of _ (by decide +kernel)) ggX6_add_X6_remember
set_option maxRecDepth 20000 in
theorem ggX6_add_X6_lotAt : GoodIn wsX6_add wsX6_lotAt := goodIn_r _ [22] (by decide +kernel) (by decide +kernel)
set_option maxRecDepth 20000 in
theorem gX6_add_X6_lotAt : GoodIn wsX6_add (va_wsS RX6 56 yX6_lotAt wsX6_lotAt) := goodIn_app (goodIn_of _ (by decide +kernel)) ggX6_add_X6_lotAt
set_option maxRecDepth 20000 in
theorem ggX6_add_X6_set : GoodIn wsX6_add wsX6_set := goodIn_r _ [35, 2, 20, 21, 5, 22, 36, 37, 38, 39, 40, 41, 42, 43, 44, 45, 46, 47, 48, 49, 50, 51, 52, 53, 54, 55, 56, 57] (by decide +kernel) (by decide +kernel)
set_option maxRecDepth 20000 in
theorem gX6_add_X6_set : GoodIn wsX6_add (wsV RX6 193 RX6 yX6_set wsX6_set) := goodIn_app (goodIn_of _ (by decide +kernel)) ggX6_add_X6_set
theorem dX6_add_0 : decode cX6_add 0 = .ok (.aload_n 0, 1) := by decide +kernel
theorem dX6_add_1 : decode cX6_add 1 = .ok (.iconst 0, 1) := by decide +kernel
theorem dX6_add_2 : decode cX6_add 2 = .ok (.putfield 53, 3) := by decide +kernel
theorem dX6_add_5 : decode cX6_add 5 = .ok (.iload_n 1, 1) := by decide +kernel
theorem dX6_add_6 : decode cX6_add 6 = .ok (.iconst 0, 1) := by decide +kernel
theorem dX6_add_7 : decode cX6_add 7 = .ok (.aload_n 0, 1) := by decide +kernel
theorem dX6_add_8 : decode cX6_add 8 = .ok (.getfield 17, 3) := by decide +kernel
theorem dX6_add_11 : decode cX6_add 11 = .ok (.iconst 1, 1) := by decide +kernel
theorem dX6_add_12 : decode cX6_add 12 = .ok (.iaload, 1) := by decide +kernel
theorem dX6_add_13 : decode cX6_add 13 = .ok (.invokestatic 82, 3) := by decide +kernel
theorem dX6_add_16 : decode cX6_add 16 = .ok (.ifCond .eq 48, 3) := by decide +kernel
theorem dX6_add_19 : decode cX6_add 19 = .ok (.iload_n 2, 1) := by decide +kernel
theorem dX6_add_20 : decode cX6_add 20 = .ok (.iconst 1, 1) := by decide +kernel
theorem dX6_add_21 : decode cX6_add 21 = .ok (.bipush 9, 2) := by decide +kernel
theorem dX6_add_23 : decode cX6_add 23 = .ok (.aload_n 0, 1) := by decide +kernel
theorem dX6_add_24 : decode cX6_add 24 = .ok (.getfield 17, 3) := by decide +kernel
theorem dX6_add_27 : decode cX6_add 27 = .ok (.iconst 0, 1) := by decide +kernel
theorem dX6_add_28 : decode cX6_add 28 = .ok (.iaload, 1) := by decide +kernel
theorem dX6_add_29 : decode cX6_add 29 = .ok (.invokestatic 115, 3) := by decide +kernel
theorem dX6_add_32 : decode cX6_add 32 = .ok (.invokestatic 82, 3) := by decide +kernel
theorem dX6_add_35 : decode cX6_add 35 = .ok (.ifCond .eq 29, 3) := by decide +kernel
theorem dX6_add_38 : decode cX6_add 38 = .ok (.iload_n 3, 1) := by decide +kernel
theorem dX6_add_39 : decode cX6_add 39 = .ok (.iconst 0, 1) := by decide +kernel
theorem dX6_add_40 : decode cX6_add 40 = .ok (.sipush 9999, 3) := by decide +kernel
theorem dX6_add_43 : decode cX6_add 43 = .ok (.invokestatic 82, 3) := by decide +kernel
theorem dX6_add_46 : decode cX6_add 46 = .ok (.ifCond .eq 18, 3) := by decide +kernel
theorem dX6_add_49 : decode cX6_add 49 = .ok (.iload 4, 2) := by decide +kernel
theorem dX6_add_51 : decode cX6_add 51 = .ok (.iconst 0, 1) := by decide +kernel
theorem dX6_add_52 : decode cX6_add 52 = .ok (.bipush 9, 2) := by decide +kernel
theorem dX6_add_54 : decode cX6_add 54 = .ok (.invokestatic 82, 3) := by decide +kernel
theorem dX6_add_57 : decode cX6_add 57 = .ok (.ifCond .eq 7, 3) := by decide +kernel
theorem dX6_add_60 : decode cX6_add 60 = .ok (.iconst 1, 1) := by decide +kernel
theorem dX6_add_61 : decode cX6_add 61 = .ok (.goto 4, 3) := by decide +kernel
theorem dX6_add_64 : decode cX6_add 64 = .ok (.iconst 0, 1) := by decide +kernel
theorem dX6_add_65 : decode cX6_add 65 = .ok (.istore 5, 2) := by decide +kernel
theorem dX6_add_67 : decode cX6_add 67 = .ok (.aload_n 0, 1) := by decide +kernel
theorem dX6_add_68 : decode cX6_add 68 = .ok (.iload 5, 2) := by decide +kernel
theorem dX6_add_70 : decode cX6_add 70 = .ok (.ifCond .ne 7, 3) := by decide +kernel
theorem dX6_add_73 : decode cX6_add 73 = .ok (.iconst 1, 1) := by decide +kernel
theorem dX6_add_74 : decode cX6_add 74 = .ok (.goto 4, 3) := by decide +kernel
theorem dX6_add_77 : decode cX6_add 77 = .ok (.iconst 0, 1) := by decide +kernel
theorem dX6_add_78 : decode cX6_add 78 = .ok (.iconst 1, 1) := by decide +kernel
theorem dX6_add_79 : decode cX6_add 79 = .ok (.invokevirtual 152, 3) := by decide +kernel
theorem dX6_add_82 : decode cX6_add 82 = .ok (.ifCond .ne 39, 3) := by decide +kernel
theorem dX6_add_85 : decode cX6_add 85 = .ok (.aload_n 0, 1) := by decide +kernel
theorem dX6_add_86 : decode cX6_add 86 = .ok (.aload_n 0, 1) := by decide +kernel
theorem dX6_add_87 : decode cX6_add 87 = .ok (.getfield 17, 3) := by decide +kernel
theorem dX6_add_90 : decode cX6_add 90 = .ok (.iconst 1, 1) := by decide +kernel
theorem dX6_add_91 : decode cX6_add 91 = .ok (.iaload, 1) := by decide +kernel
theorem dX6_add_92 : decode cX6_add 92 = .ok (.bipush 24, 2) := by decide +kernel
theorem dX6_add_94 : decode cX6_add 94 = .ok (.if_icmp .eq 15, 3) := by decide +kernel
theorem dX6_add_97 : decode cX6_add 97 = .ok (.aload_n 0, 1) := by decide +kernel
theorem dX6_add_98 : decode cX6_add 98 = .ok (.getfield 17, 3) := by decide +kernel
theorem dX6_add_101 : decode cX6_add 101 = .ok (.invokestatic 132, 3) := by decide +kernel
theorem dX6_add_104 : decode cX6_add 104 = .ok (.bipush 8, 2) := by decide +kernel
theorem dX6_add_106 : decode cX6_add 106 = .ok (.if_icmp .ne 7, 3) := by decide +kernel
theorem dX6_add_109 : decode cX6_add 109 = .ok (.iconst 1, 1) := by decide +kernel
theorem dX6_add_110 : decode cX6_add 110 = .ok (.goto 4, 3) := by decide +kernel
theorem dX6_add_113 : decode cX6_add 113 = .ok (.iconst 0, 1) := by decide +kernel
theorem dX6_add_114 : decode cX6_add 114 = .ok (.iconst 2, 1) := by decide +kernel
theorem dX6_add_115 : decode cX6_add 115 = .ok (.invokevirtual 152, 3) := by decide +kernel
theorem dX6_add_118 : decode cX6_add 118 = .ok (.ifCond .eq 5, 3) := by decide +kernel
theorem dX6_add_121 : decode cX6_add 121 = .ok (.iconst 0, 1) := by decide +kernel
theorem dX6_add_122 : decode cX6_add 122 = .ok (.ireturn, 1) := by decide +kernel
theorem dX6_add_123 : decode cX6_add 123 = .ok (.aload_n 0, 1) := by decide +kernel
theorem dX6_add_124 : decode cX6_add 124 = .ok (.invokevirtual 161, 3) := by decide +kernel
theorem dX6_add_127 : decode cX6_add 127 = .ok (.aload_n 0, 1) := by decide +kernel
theorem dX6_add_128 : decode cX6_add 128 = .ok (.getfield 17, 3) := by decide +kernel
theorem dX6_add_131 : decode cX6_add 131 = .ok (.iconst 1, 1) := by decide +kernel
theorem dX6_add_132 : decode cX6_add 132 = .ok (.iaload, 1) := by decide +kernel
theorem dX6_add_133 : decode cX6_add 133 = .ok (.invokestatic 56, 3) := by decide +kernel
theorem dX6_add_136 : decode cX6_add 136 = .ok (.iconst 1, 1) := by decide +kernel
theorem dX6_add_137 : decode cX6_add 137 = .ok (.isub, 1) := by decide +kernel
theorem dX6_add_138 : decode cX6_add 138 = .ok (.istore 6, 2) := by decide +kernel
theorem dX6_add_140 : decode cX6_add 140 = .ok (.iload 6, 2) := by decide +kernel
theorem dX6_add_142 : decode cX6_add 142 = .ok (.iload_n 1, 1) := by decide +kernel
theorem dX6_add_143 : decode cX6_add 143 = .ok (.invokestatic 56, 3) := by decide +kernel
theorem dX6_add_146 : decode cX6_add 146 = .ok (.if_icmp .lt 26, 3) := by decide +kernel
theorem dX6_add_149 : decode cX6_add 149 = .ok (.aload_n 0, 1) := by decide +kernel
theorem dX6_add_150 : decode cX6_add 150 = .ok (.getfield 17, 3) := by decide +kernel
theorem dX6_add_153 : decode cX6_add 153 = .ok (.iload 6, 2) := by decide +kernel
theorem dX6_add_155 : decode cX6_add 155 = .ok (.bipush 6, 2) := by decide +kernel
theorem dX6_add_157 : decode cX6_add 157 = .ok (.iadd, 1) := by decide +kernel
theorem dX6_add_158 : decode cX6_add 158 = .ok (.aload_n 0, 1) := by decide +kernel
theorem dX6_add_159 : decode cX6_add 159 = .ok (.getfield 17, 3) := by decide +kernel
theorem dX6_add_162 : decode cX6_add 162 = .ok (.iload 6, 2) := by decide +kernel
theorem dX6_add_164 : decode cX6_add 164 = .ok (.iaload, 1) := by decide +kernel
theorem dX6_add_165 : decode cX6_add 165 = .ok (.iastore, 1) := by decide +kernel
theorem dX6_add_166 : decode cX6_add 166 = .ok (.iinc 6 (-1), 3) := by decide +kernel
theorem dX6_add_169 : decode cX6_add 169 = .ok (.goto (-29), 3) := by decide +kernel
theorem dX6_add_172 : decode cX6_add 172 = .ok (.aload_n 0, 1) := by decide +kernel
theorem dX6_add_173 : decode cX6_add 173 = .ok (.getfield 17, 3) := by decide +kernel
theorem dX6_add_176 : decode cX6_add 176 = .ok (.iconst 1, 1) := by decide +kernel
theorem dX6_add_177 : decode cX6_add 177 = .ok (.dup2, 1) := by decide +kernel
theorem dX6_add_178 : decode cX6_add 178 = .ok (.iaload, 1) := by decide +kernel
theorem dX6_add_179 : decode cX6_add 179 = .ok (.iconst 1, 1) := by decide +kernel
theorem dX6_add_180 : decode cX6_add 180 = .ok (.iadd, 1) := by decide +kernel
theorem dX6_add_181 : decode cX6_add 181 = .ok (.iastore, 1) := by decide +kernel
theorem dX6_add_182 : decode cX6_add 182 = .ok (.aload_n 0, 1) := by decide +kernel
theorem dX6_add_183 : decode cX6_add 183 = .ok (.iload_n 1, 1) := by decide +kernel
theorem dX6_add_184 : decode cX6_add 184 = .ok (.iconst 0, 1) := by decide +kernel
theorem dX6_add_185 : decode cX6_add 185 = .ok (.iload_n 2, 1) := by decide +kernel
theorem dX6_add_186 : decode cX6_add 186 = .ok (.invokevirtual 193, 3) := by decide +kernel
theorem dX6_add_189 : decode cX6_add 189 = .ok (.aload_n 0, 1) := by decide +kernel
theorem dX6_add_190 : decode cX6_add 190 = .ok (.iload_n 1, 1) := by decide +kernel
theorem dX6_add_191 : decode cX6_add 191 = .ok (.iconst 1, 1) := by decide +kernel
theorem dX6_add_192 : decode cX6_add 192 = .ok (.iload_n 3, 1) := by decide +kernel
theorem dX6_add_193 : decode cX6_add 193 = .ok (.invokevirtual 193, 3) := by decide +kernel
theorem dX6_add_196 : decode cX6_add 196 = .ok (.aload_n 0, 1) := by decide +kernel
theorem dX6_add_197 : decode cX6_add 197 = .ok (.iload_n 1, 1) := by decide +kernel
theorem dX6_add_198 : decode cX6_add 198 = .ok (.iconst 2, 1) := by decide +kernel
theorem dX6_add_199 : decode cX6_add 199 = .ok (.iload 4, 2) := by decide +kernel
theorem dX6_add_201 : decode cX6_add 201 = .ok (.invokevirtual 193, 3) := by decide +kernel
theorem dX6_add_204 : decode cX6_add 204 = .ok (.aload_n 0, 1) := by decide +kernel
theorem dX6_add_205 : decode cX6_add 205 = .ok (.iload_n 1, 1) := by decide +kernel
theorem dX6_add_206 : decode cX6_add 206 = .ok (.iconst 3, 1) := by decide +kernel
theorem dX6_add_207 : decode cX6_add 207 = .ok (.iconst 0, 1) := by decide +kernel
theorem dX6_add_208 : decode cX6_add 208 = .ok (.invokevirtual 193, 3) := by decide +kernel
theorem dX6_add_211 : decode cX6_add 211 = .ok (.aload_n 0, 1) := by decide +kernel
theorem dX6_add_212 : decode cX6_add 212 = .ok (.iload_n 1, 1) := by decide +kernel
theorem dX6_add_213 : decode cX6_add 213 = .ok (.iconst 4, 1) := by decide +kernel
theorem dX6_add_214 : decode cX6_add 214 = .ok (.iconst 1, 1) := by decide +kernel
theorem dX6_add_215 : decode cX6_add 215 = .ok (.invokevirtual 193, 3) := by decide +kernel
theorem dX6_add_218 : decode cX6_add 218 = .ok (.aload_n 0, 1) := by decide +kernel
theorem dX6_add_219 : decode cX6_add 219 = .ok (.iload_n 1, 1) := by decide +kernel
theorem dX6_add_220 : decode cX6_add 220 = .ok (.iconst 5, 1) := by decide +kernel
theorem dX6_add_221 : decode cX6_add 221 = .ok (.iconst 0, 1) := by decide +kernel
theorem dX6_add_222 : decode cX6_add 222 = .ok (.invokevirtual 193, 3) := by decide +kernel
theorem dX6_add_225 : decode cX6_add 225 = .ok (.aload_n 0, 1) := by decide +kernel
theorem dX6_add_226 : decode cX6_add 226 = .ok (.getfield 17, 3) := by decide +kernel
theorem dX6_add_229 : decode cX6_add 229 = .ok (.iconst 1, 1) := by decide +kernel
theorem dX6_add_230 : decode cX6_add 230 = .ok (.iaload, 1) := by decide +kernel
theorem dX6_add_231 : decode cX6_add 231 = .ok (.ireturn, 1) := by decide +kernel
set_option maxRecDepth 20000 in
theorem ggX6_carry_X6_noChoice : GoodIn wsX6_carry wsX6_noChoice := goodIn_r _ [6, 7, 8, 9, 5, 10, 11, 12, 13, 14, 15, 16, 17, 18, 19, 20, 21, 22, 23, 1, 85, 86, 87, 88, 89, 90, 91, 92, 93, 94, 95, 96, 97, 98, 99, 100, 101, 102, 103, 104, 105, 106] (by decide +kernel) (by decide +kernel)
set_option maxRecDepth 20000 in
theorem gX6_carry_X6_noChoice : GoodIn wsX6_carry (wsV RX6 230 RX6 yX6_noChoice wsX6_noChoice) := goodIn_app (goodIn_of _ (by decide +kernel)) ggX6_carry_X6_noChoice
set_option maxRecDepth 20000 in
theorem ggX6_carry_X6_remember : GoodIn wsX6_carry wsX6_remember := goodIn_r _ [27, 28, 29, 7, 30, 31, 5, 32, 85, 86, 87, 88, 89, 90, 91, 92, 93, 94, 95, 96, 97, 98, 99, 100, 101, 102, 103, 104, 105, 106] (by decide +kernel) (by decide +kernel)
set_option maxRecDepth 20000 in
theorem gX6_carry_X6_remember : GoodIn wsX6_carry (wsV RX6 161 RX6 yX6_remember wsX6_remember) := goodIn_app (goodIn_of _ (by decide +kernel)) ggX6_carry_X6_remember
set_option maxRecDepth 20000 in
theorem ggX6_carry_X6_carryNow : GoodIn wsX6_carry wsX6_carryNow := goodIn_r _ [36, 7, 37, 38, 39, 5, 40, 41, 42, 43, 44, 45, 46, 47, 48, 49, 50, 51, 52, 11, 12, 13, 14, 15, 16, 53, 54, 55, 56, 57, 58, 59, 60, 61, 62, 63, 64, 65, 66, 67, 68, 69, 70, 71, 72, 73, 74, 75, 76, 77, 78, 79, 80, 81, 82, 83, 84, 85, 86, 87, 88, 89, 90, 91, 92, 93, 94, 95, 96, 97, 98, 99, 100, 101, 102, 103, 104, 105, 106] (by decide +kernel) (by decide +kernel)
set_option maxRecDepth 20000 in
theorem gX6_carry_X6_carryNow : GoodIn wsX6_carry (wsV RX6 245 RX6 yX6_carryNow wsX6_carryNow) := goodIn_app (goodIn_of _ (by decide +kernel)) ggX6_carry_X6_carryNow
theorem dX6_carry_0 : decode cX6_carry 0 = .ok (.aload_n 0, 1) := by decide +kernel
theorem dX6_carry_1 : decode cX6_carry 1 = .ok (.iconst 0, 1) := by decide +kernel
theorem dX6_carry_2 : decode cX6_carry 2 = .ok (.putfield 53, 3) := by decide +kernel
theorem dX6_carry_5 : decode cX6_carry 5 = .ok (.aload_n 0, 1) := by decide +kernel
theorem dX6_carry_6 : decode cX6_carry 6 = .ok (.iload_n 1, 1) := by decide +kernel
theorem dX6_carry_7 : decode cX6_carry 7 = .ok (.invokevirtual 230, 3) := by decide +kernel
theorem dX6_carry_10 : decode cX6_carry 10 = .ok (.ifCond .eq 5, 3) := by decide +kernel
theorem dX6_carry_13 : decode cX6_carry 13 = .ok (.iconst 0, 1) := by decide +kernel
theorem dX6_carry_14 : decode cX6_carry 14 = .ok (.ireturn, 1) := by decide +kernel
theorem dX6_carry_15 : decode cX6_carry 15 = .ok (.aload_n 0, 1) := by decide +kernel
theorem dX6_carry_16 : decode cX6_carry 16 = .ok (.invokevirtual 161, 3) := by decide +kernel
theorem dX6_carry_19 : decode cX6_carry 19 = .ok (.aload_n 0, 1) := by decide +kernel
theorem dX6_carry_20 : decode cX6_carry 20 = .ok (.iload_n 1, 1) := by decide +kernel
theorem dX6_carry_21 : decode cX6_carry 21 = .ok (.invokevirtual 245, 3) := by decide +kernel
theorem dX6_carry_24 : decode cX6_carry 24 = .ok (.ireturn, 1) := by decide +kernel
set_option maxRecDepth 20000 in
theorem ggX6_press_X6_remember : GoodIn wsX6_press wsX6_remember := goodIn_r _ [6, 7, 8, 9, 10, 11, 5, 12, 78, 79, 80, 81, 82, 83, 84, 85, 86, 87, 88, 89, 90, 91, 92, 93, 94, 95, 96, 97, 98, 99] (by decide +kernel) (by decide +kernel)
set_option maxRecDepth 20000 in
theorem gX6_press_X6_remember : GoodIn wsX6_press (wsV RX6 161 RX6 yX6_remember wsX6_remember) := goodIn_app (goodIn_of _ (by decide +kernel)) ggX6_press_X6_remember
set_option maxRecDepth 20000 in
theorem ggX6_press_X6_bestOf : GoodIn wsX6_press wsX6_bestOf := goodIn_r _ [16, 9, 17, 18, 5, 19, 20, 21, 22, 23, 24, 25, 26, 27, 28, 29, 30, 31, 32, 33, 34, 35, 36, 37, 38, 39, 40, 41, 42, 43, 44, 45, 46, 47, 48, 49, 50, 51, 52, 53, 54, 55, 56, 57, 58, 59, 60, 61, 62, 63, 64, 65, 66, 67, 68, 69, 70, 71, 72, 73, 78, 79, 80, 81, 82, 83, 84, 85, 86, 87, 88, 89, 90, 91, 92, 93, 94, 95, 96, 97, 98, 99] (by decide +kernel) (by decide +kernel)
set_option maxRecDepth 20000 in
theorem gX6_press_X6_bestOf : GoodIn wsX6_press (wsV RX6 227 RX6 yX6_bestOf wsX6_bestOf) := goodIn_app (goodIn_of _ (by decide +kernel)) ggX6_press_X6_bestOf
set_option maxRecDepth 20000 in
theorem ggX6_press_X6_carryNow : GoodIn wsX6_press wsX6_carryNow := goodIn_r _ [77, 9, 26, 27, 28, 5, 29, 30, 31, 32, 33, 34, 35, 36, 37, 38, 39, 40, 41, 20, 21, 22, 23, 24, 25, 42, 43, 44, 45, 46, 47, 48, 49, 50, 51, 52, 53, 54, 55, 56, 57, 58, 59, 60, 61, 62, 63, 64, 65, 66, 67, 68, 69, 70, 71, 72, 73, 78, 79, 80, 81, 82, 83, 84, 85, 86, 87, 88, 89, 90, 91, 92, 93, 94, 95, 96, 97, 98, 99] (by decide +kernel) (by decide +kernel)
set_option maxRecDepth 20000 in
theorem gX6_press_X6_carryNow : GoodIn wsX6_press (wsV RX6 245 RX6 yX6_carryNow wsX6_carryNow) := goodIn_app (goodIn_of _ (by decide +kernel)) ggX6_press_X6_carryNow
theorem dX6_press_0 : decode cX6_press 0 = .ok (.aload_n 0, 1) := by decide +kernel
theorem dX6_press_1 : decode cX6_press 1 = .ok (.iconst 0, 1) := by decide +kernel
theorem dX6_press_2 : decode cX6_press 2 = .ok (.putfield 53, 3) := by decide +kernel
theorem dX6_press_5 : decode cX6_press 5 = .ok (.aload_n 0, 1) := by decide +kernel
theorem dX6_press_6 : decode cX6_press 6 = .ok (.invokevirtual 161, 3) := by decide +kernel
theorem dX6_press_9 : decode cX6_press 9 = .ok (.aload_n 0, 1) := by decide +kernel
theorem dX6_press_10 : decode cX6_press 10 = .ok (.aload_n 0, 1) := by decide +kernel
theorem dX6_press_11 : decode cX6_press 11 = .ok (.iconst 0, 1) := by decide +kernel
theorem dX6_press_12 : decode cX6_press 12 = .ok (.iconst 0, 1) := by decide +kernel
theorem dX6_press_13 : decode cX6_press 13 = .ok (.invokevirtual 227, 3) := by decide +kernel
theorem dX6_press_16 : decode cX6_press 16 = .ok (.invokevirtual 245, 3) := by decide +kernel
theorem dX6_press_19 : decode cX6_press 19 = .ok (.ireturn, 1) := by decide +kernel
set_option maxRecDepth 20000 in
theorem ggX6_setCost_X6_in : GoodIn wsX6_setCost wsX6_in := goodIn_r _ [6] (by decide +kernel) (by decide +kernel)
set_option maxRecDepth 20000 in
theorem gX6_setCost_X6_in : GoodIn wsX6_setCost (va_wsS RX6 82 yX6_in wsX6_in) := goodIn_app (goodIn_of _ (by decide +kernel)) ggX6_setCost_X6_in
set_option maxRecDepth 20000 in
theorem ggX6_setCost_X6_fails : GoodIn wsX6_setCost wsX6_fails := goodIn_r _ [10, 1, 20, 21, 22, 23, 24, 25, 26, 27, 28, 29, 30, 31, 32, 33, 34, 35, 36, 37, 38, 39, 40, 41] (by decide +kernel) (by decide +kernel)
set_option maxRecDepth 20000 in
theorem gX6_setCost_X6_fails : GoodIn wsX6_setCost (wsV RX6 152 RX6 yX6_fails wsX6_fails) := goodIn_app (goodIn_of _ (by decide +kernel)) ggX6_setCost_X6_fails
set_option maxRecDepth 20000 in
theorem ggX6_setCost_X6_remember : GoodIn wsX6_setCost wsX6_remember := goodIn_r _ [14, 15, 16, 2, 17, 18, 5, 19, 20, 21, 22, 23, 24, 25, 26, 27, 28, 29, 30, 31, 32, 33, 34, 35, 36, 37, 38, 39, 40, 41] (by decide +kernel) (by decide +kernel)
set_option maxRecDepth 20000 in
theorem gX6_setCost_X6_remember : GoodIn wsX6_setCost (wsV RX6 161 RX6 yX6_remember wsX6_remember) := goodIn_app (goodIn_of _ (by decide +kernel)) ggX6_setCost_X6_remember
theorem dX6_setCost_0 : decode cX6_setCost 0 = .ok (.aload_n 0, 1) := by decide +kernel
theorem dX6_setCost_1 : decode cX6_setCost 1 = .ok (.iconst 0, 1) := by decide +kernel
theorem dX6_setCost_2 : decode cX6_setCost 2 = .ok (.putfield 53, 3) := by decide +kernel
theorem dX6_setCost_5 : decode cX6_setCost 5 = .ok (.aload_n 0, 1) := by decide +kernel
theorem dX6_setCost_6 : decode cX6_setCost 6 = .ok (.iload_n 1, 1) := by decide +kernel
theorem dX6_setCost_7 : decode cX6_setCost 7 = .ok (.iconst 0, 1) := by decide +kernel
theorem dX6_setCost_8 : decode cX6_setCost 8 = .ok (.iconst 4, 1) := by decide +kernel
theorem dX6_setCost_9 : decode cX6_setCost 9 = .ok (.invokestatic 82, 3) := by decide +kernel
theorem dX6_setCost_12 : decode cX6_setCost 12 = .ok (.ifCond .eq 13, 3) := by decide +kernel
theorem dX6_setCost_15 : decode cX6_setCost 15 = .ok (.iload_n 2, 1) := by decide +kernel
theorem dX6_setCost_16 : decode cX6_setCost 16 = .ok (.iconst 0, 1) := by decide +kernel
theorem dX6_setCost_17 : decode cX6_setCost 17 = .ok (.bipush 99, 2) := by decide +kernel
theorem dX6_setCost_19 : decode cX6_setCost 19 = .ok (.invokestatic 82, 3) := by decide +kernel
theorem dX6_setCost_22 : decode cX6_setCost 22 = .ok (.ifCond .ne 7, 3) := by decide +kernel
theorem dX6_setCost_25 : decode cX6_setCost 25 = .ok (.iconst 1, 1) := by decide +kernel
theorem dX6_setCost_26 : decode cX6_setCost 26 = .ok (.goto 4, 3) := by decide +kernel
theorem dX6_setCost_29 : decode cX6_setCost 29 = .ok (.iconst 0, 1) := by decide +kernel
theorem dX6_setCost_30 : decode cX6_setCost 30 = .ok (.iconst 1, 1) := by decide +kernel
theorem dX6_setCost_31 : decode cX6_setCost 31 = .ok (.invokevirtual 152, 3) := by decide +kernel
theorem dX6_setCost_34 : decode cX6_setCost 34 = .ok (.ifCond .eq 5, 3) := by decide +kernel
theorem dX6_setCost_37 : decode cX6_setCost 37 = .ok (.iconst 0, 1) := by decide +kernel
theorem dX6_setCost_38 : decode cX6_setCost 38 = .ok (.ireturn, 1) := by decide +kernel
theorem dX6_setCost_39 : decode cX6_setCost 39 = .ok (.aload_n 0, 1) := by decide +kernel
theorem dX6_setCost_40 : decode cX6_setCost 40 = .ok (.invokevirtual 161, 3) := by decide +kernel
theorem dX6_setCost_43 : decode cX6_setCost 43 = .ok (.aload_n 0, 1) := by decide +kernel
theorem dX6_setCost_44 : decode cX6_setCost 44 = .ok (.getfield 17, 3) := by decide +kernel
theorem dX6_setCost_47 : decode cX6_setCost 47 = .ok (.iconst 4, 1) := by decide +kernel
theorem dX6_setCost_48 : decode cX6_setCost 48 = .ok (.iload_n 1, 1) := by decide +kernel
theorem dX6_setCost_49 : decode cX6_setCost 49 = .ok (.iadd, 1) := by decide +kernel
theorem dX6_setCost_50 : decode cX6_setCost 50 = .ok (.iaload, 1) := by decide +kernel
theorem dX6_setCost_51 : decode cX6_setCost 51 = .ok (.istore_n 3, 1) := by decide +kernel
theorem dX6_setCost_52 : decode cX6_setCost 52 = .ok (.aload_n 0, 1) := by decide +kernel
theorem dX6_setCost_53 : decode cX6_setCost 53 = .ok (.getfield 17, 3) := by decide +kernel
theorem dX6_setCost_56 : decode cX6_setCost 56 = .ok (.iconst 4, 1) := by decide +kernel
theorem dX6_setCost_57 : decode cX6_setCost 57 = .ok (.iload_n 1, 1) := by decide +kernel
theorem dX6_setCost_58 : decode cX6_setCost 58 = .ok (.iadd, 1) := by decide +kernel
theorem dX6_setCost_59 : decode cX6_setCost 59 = .ok (.iload_n 2, 1) := by decide +kernel
theorem dX6_setCost_60 : decode cX6_setCost 60 = .ok (.iastore, 1) := by decide +kernel
theorem dX6_setCost_61 : decode cX6_setCost 61 = .ok (.iload_n 3, 1) := by decide +kernel
theorem dX6_setCost_62 : decode cX6_setCost 62 = .ok (.ireturn, 1) := by decide +kernel
set_option maxRecDepth 20000 in
theorem ggX6_undo_X6_copy : GoodIn wsX6_undo wsX6_copy := goodIn_r _ [8] (by decide +kernel) (by decide +kernel)
set_option maxRecDepth 20000 in
theorem gX6_undo_X6_copy : GoodIn wsX6_undo (va_wsS RX6 164 yX6_copy wsX6_copy) := goodIn_app (goodIn_of _ (by decide +kernel)) ggX6_undo_X6_copy
theorem dX6_undo_0 : decode cX6_undo 0 = .ok (.aload_n 0, 1) := by decide +kernel
theorem dX6_undo_1 : decode cX6_undo 1 = .ok (.iconst 0, 1) := by decide +kernel
theorem dX6_undo_2 : decode cX6_undo 2 = .ok (.putfield 53, 3) := by decide +kernel
theorem dX6_undo_5 : decode cX6_undo 5 = .ok (.aload_n 0, 1) := by decide +kernel
theorem dX6_undo_6 : decode cX6_undo 6 = .ok (.getfield 239, 3) := by decide +kernel
theorem dX6_undo_9 : decode cX6_undo 9 = .ok (.ifCond .ne 5, 3) := by decide +kernel
theorem dX6_undo_12 : decode cX6_undo 12 = .ok (.iconst (-1), 1) := by decide +kernel
theorem dX6_undo_13 : decode cX6_undo 13 = .ok (.ireturn, 1) := by decide +kernel
theorem dX6_undo_14 : decode cX6_undo 14 = .ok (.aload_n 0, 1) := by decide +kernel
theorem dX6_undo_15 : decode cX6_undo 15 = .ok (.dup, 1) := by decide +kernel
theorem dX6_undo_16 : decode cX6_undo 16 = .ok (.getfield 239, 3) := by decide +kernel
theorem dX6_undo_19 : decode cX6_undo 19 = .ok (.iconst 1, 1) := by decide +kernel
theorem dX6_undo_20 : decode cX6_undo 20 = .ok (.isub, 1) := by decide +kernel
theorem dX6_undo_21 : decode cX6_undo 21 = .ok (.putfield 239, 3) := by decide +kernel
theorem dX6_undo_24 : decode cX6_undo 24 = .ok (.aload_n 0, 1) := by decide +kernel
theorem dX6_undo_25 : decode cX6_undo 25 = .ok (.getfield 25, 3) := by decide +kernel
theorem dX6_undo_28 : decode cX6_undo 28 = .ok (.aload_n 0, 1) := by decide +kernel
theorem dX6_undo_29 : decode cX6_undo 29 = .ok (.getfield 239, 3) := by decide +kernel
theorem dX6_undo_32 : decode cX6_undo 32 = .ok (.aaload, 1) := by decide +kernel
theorem dX6_undo_33 : decode cX6_undo 33 = .ok (.aload_n 0, 1) := by decide +kernel
theorem dX6_undo_34 : decode cX6_undo 34 = .ok (.getfield 17, 3) := by decide +kernel
theorem dX6_undo_37 : decode cX6_undo 37 = .ok (.invokestatic 164, 3) := by decide +kernel
theorem dX6_undo_40 : decode cX6_undo 40 = .ok (.aload_n 0, 1) := by decide +kernel
theorem dX6_undo_41 : decode cX6_undo 41 = .ok (.getfield 239, 3) := by decide +kernel
theorem dX6_undo_44 : decode cX6_undo 44 = .ok (.ireturn, 1) := by decide +kernel
set_option maxRecDepth 20000 in
theorem ggX6_checksum_X6_lay : GoodIn wsX6_checksum wsX6_lay := goodIn_r _ [9, 3, 10, 11, 12, 13, 14, 15, 16, 17, 8, 18, 19, 20, 21, 22, 23, 24, 25, 90, 91, 92, 93, 94, 95, 96, 97, 98, 99, 100, 101, 102, 103, 104, 105, 106, 107, 108, 109, 110, 111] (by decide +kernel) (by decide +kernel)
set_option maxRecDepth 20000 in
theorem gX6_checksum_X6_lay : GoodIn wsX6_checksum (wsV RX6 187 RX6 yX6_lay wsX6_lay) := goodIn_app (goodIn_of _ (by decide +kernel)) ggX6_checksum_X6_lay
set_option maxRecDepth 20000 in
theorem ggX6_checksum_X6_toldState : GoodIn wsX6_checksum wsX6_toldState := goodIn_r _ [29, 3, 10, 30, 31, 32, 8, 33, 19, 20, 21, 22, 23, 24, 25, 34, 35, 36, 37, 38, 39, 40, 41, 42, 43, 44, 45, 46, 47, 48, 49, 50, 51, 13, 90, 91, 92, 93, 94, 95, 96, 97, 98, 99, 100, 101, 102, 103, 104, 105, 106, 107, 108, 109, 110, 111] (by decide +kernel) (by decide +kernel)
set_option maxRecDepth 20000 in
theorem gX6_checksum_X6_toldState : GoodIn wsX6_checksum (wsV RX6 215 RX6 yX6_toldState wsX6_toldState) := goodIn_app (goodIn_of _ (by decide +kernel)) ggX6_checksum_X6_toldState
set_option maxRecDepth 20000 in
theorem ggX6_checksum_X6_toldLot : GoodIn wsX6_checksum wsX6_toldLot := goodIn_r _ [55, 12, 13, 14, 19, 20, 21, 8, 22, 3, 23, 24, 25, 90, 91, 92, 93, 94, 95, 96, 97, 98, 99, 100, 101, 102, 103, 104, 105, 106, 107, 108, 109, 110, 111] (by decide +kernel) (by decide +kernel)
set_option maxRecDepth 20000 in
theorem gX6_checksum_X6_toldLot : GoodIn wsX6_checksum (wsV RX6 221 RX6 yX6_toldLot wsX6_toldLot) := goodIn_app (goodIn_of _ (by decide +kernel)) ggX6_checksum_X6_toldLot
set_option maxRecDepth 20000 in
theorem ggX6_checksum_X6_bestOf : GoodIn wsX6_checksum wsX6_bestOf := goodIn_r _ [59, 3, 34, 35, 8, 36, 37, 38, 39, 23, 24, 25, 60, 61, 62, 63, 4, 64, 65, 66, 67, 68, 69, 10, 70, 71, 72, 73, 74, 75, 76, 77, 78, 79, 80, 81, 19, 20, 21, 22, 5, 6, 7, 9, 11, 12, 13, 14, 15, 16, 17, 18, 82, 83, 84, 85, 86, 87, 88, 89, 90, 91, 92, 93, 94, 95, 96, 97, 98, 99, 100, 101, 102, 103, 104, 105, 106, 107, 108, 109, 110, 111] (by decide +kernel) (by decide +kernel)
set_option maxRecDepth 20000 in
theorem gX6_checksum_X6_bestOf : GoodIn wsX6_checksum (wsV RX6 227 RX6 yX6_bestOf wsX6_bestOf) := goodIn_app (goodIn_of _ (by decide +kernel)) ggX6_checksum_X6_bestOf
set_option maxRecDepth 20000 in
theorem ggX6_checksum_X6_layChoice : GoodIn wsX6_checksum wsX6_layChoice := goodIn_r _ [67, 3, 68, 69, 4, 10, 70, 71, 72, 8, 73, 37, 38, 39, 23, 24, 25, 74, 75, 76, 77, 78, 79, 80, 81, 19, 20, 21, 22, 5, 6, 7, 9, 11, 12, 13, 14, 15, 16, 17, 18, 82, 83, 84, 85, 86, 87, 88, 89, 90, 91, 92, 93, 94, 95, 96, 97, 98, 99, 100, 101, 102, 103, 104, 105, 106, 107, 108, 109, 110, 111] (by decide +kernel) (by decide +kernel)
set_option maxRecDepth 20000 in
theorem gX6_checksum_X6_layChoice : GoodIn wsX6_checksum (wsV RX6 197 RX6 yX6_layChoice wsX6_layChoice) := goodIn_app (goodIn_of _ (by decide +kernel)) ggX6_checksum_X6_layChoice
theorem dX6_checksum_0 : decode cX6_checksum 0 = .ok (.aload_n 0, 1) := by decide +kernel
theorem dX6_checksum_1 : decode cX6_checksum 1 = .ok (.iconst 0, 1) := by decide +kernel
theorem dX6_checksum_2 : decode cX6_checksum 2 = .ok (.putfield 53, 3) := by decide +kernel
theorem dX6_checksum_5 : decode cX6_checksum 5 = .ok (.lconst 0, 1) := by decide +kernel
theorem dX6_checksum_6 : decode cX6_checksum 6 = .ok (.lstore_n 1, 1) := by decide +kernel
theorem dX6_checksum_7 : decode cX6_checksum 7 = .ok (.aload_n 0, 1) := by decide +kernel
theorem dX6_checksum_8 : decode cX6_checksum 8 = .ok (.invokevirtual 187, 3) := by decide +kernel
theorem dX6_checksum_11 : decode cX6_checksum 11 = .ok (.iconst 0, 1) := by decide +kernel
theorem dX6_checksum_12 : decode cX6_checksum 12 = .ok (.istore_n 3, 1) := by decide +kernel
theorem dX6_checksum_13 : decode cX6_checksum 13 = .ok (.iload_n 3, 1) := by decide +kernel
theorem dX6_checksum_14 : decode cX6_checksum 14 = .ok (.bipush 12, 2) := by decide +kernel
theorem dX6_checksum_16 : decode cX6_checksum 16 = .ok (.if_icmp .ge 22, 3) := by decide +kernel
theorem dX6_checksum_19 : decode cX6_checksum 19 = .ok (.ldc2_w 248, 3) := by decide +kernel
theorem dX6_checksum_22 : decode cX6_checksum 22 = .ok (.lload_n 1, 1) := by decide +kernel
theorem dX6_checksum_23 : decode cX6_checksum 23 = .ok (.lmul, 1) := by decide +kernel
theorem dX6_checksum_24 : decode cX6_checksum 24 = .ok (.aload_n 0, 1) := by decide +kernel
theorem dX6_checksum_25 : decode cX6_checksum 25 = .ok (.iload_n 3, 1) := by decide +kernel
theorem dX6_checksum_26 : decode cX6_checksum 26 = .ok (.invokevirtual 215, 3) := by decide +kernel
theorem dX6_checksum_29 : decode cX6_checksum 29 = .ok (.i2l, 1) := by decide +kernel
theorem dX6_checksum_30 : decode cX6_checksum 30 = .ok (.ladd, 1) := by decide +kernel
theorem dX6_checksum_31 : decode cX6_checksum 31 = .ok (.lstore_n 1, 1) := by decide +kernel
theorem dX6_checksum_32 : decode cX6_checksum 32 = .ok (.iinc 3 1, 3) := by decide +kernel
theorem dX6_checksum_35 : decode cX6_checksum 35 = .ok (.goto (-22), 3) := by decide +kernel
theorem dX6_checksum_38 : decode cX6_checksum 38 = .ok (.iconst 0, 1) := by decide +kernel
theorem dX6_checksum_39 : decode cX6_checksum 39 = .ok (.istore_n 3, 1) := by decide +kernel
theorem dX6_checksum_40 : decode cX6_checksum 40 = .ok (.iload_n 3, 1) := by decide +kernel
theorem dX6_checksum_41 : decode cX6_checksum 41 = .ok (.aload_n 0, 1) := by decide +kernel
theorem dX6_checksum_42 : decode cX6_checksum 42 = .ok (.getfield 17, 3) := by decide +kernel
theorem dX6_checksum_45 : decode cX6_checksum 45 = .ok (.iconst 1, 1) := by decide +kernel
theorem dX6_checksum_46 : decode cX6_checksum 46 = .ok (.iaload, 1) := by decide +kernel
theorem dX6_checksum_47 : decode cX6_checksum 47 = .ok (.if_icmp .ge 40, 3) := by decide +kernel
theorem dX6_checksum_50 : decode cX6_checksum 50 = .ok (.iconst 0, 1) := by decide +kernel
theorem dX6_checksum_51 : decode cX6_checksum 51 = .ok (.istore 4, 2) := by decide +kernel
theorem dX6_checksum_53 : decode cX6_checksum 53 = .ok (.iload 4, 2) := by decide +kernel
theorem dX6_checksum_55 : decode cX6_checksum 55 = .ok (.bipush 9, 2) := by decide +kernel
theorem dX6_checksum_57 : decode cX6_checksum 57 = .ok (.if_icmp .ge 24, 3) := by decide +kernel
theorem dX6_checksum_60 : decode cX6_checksum 60 = .ok (.ldc2_w 248, 3) := by decide +kernel
theorem dX6_checksum_63 : decode cX6_checksum 63 = .ok (.lload_n 1, 1) := by decide +kernel
theorem dX6_checksum_64 : decode cX6_checksum 64 = .ok (.lmul, 1) := by decide +kernel
theorem dX6_checksum_65 : decode cX6_checksum 65 = .ok (.aload_n 0, 1) := by decide +kernel
theorem dX6_checksum_66 : decode cX6_checksum 66 = .ok (.iload_n 3, 1) := by decide +kernel
theorem dX6_checksum_67 : decode cX6_checksum 67 = .ok (.iload 4, 2) := by decide +kernel
theorem dX6_checksum_69 : decode cX6_checksum 69 = .ok (.invokevirtual 221, 3) := by decide +kernel
theorem dX6_checksum_72 : decode cX6_checksum 72 = .ok (.i2l, 1) := by decide +kernel
theorem dX6_checksum_73 : decode cX6_checksum 73 = .ok (.ladd, 1) := by decide +kernel
theorem dX6_checksum_74 : decode cX6_checksum 74 = .ok (.lstore_n 1, 1) := by decide +kernel
theorem dX6_checksum_75 : decode cX6_checksum 75 = .ok (.iinc 4 1, 3) := by decide +kernel
theorem dX6_checksum_78 : decode cX6_checksum 78 = .ok (.goto (-25), 3) := by decide +kernel
theorem dX6_checksum_81 : decode cX6_checksum 81 = .ok (.iinc 3 1, 3) := by decide +kernel
theorem dX6_checksum_84 : decode cX6_checksum 84 = .ok (.goto (-44), 3) := by decide +kernel
theorem dX6_checksum_87 : decode cX6_checksum 87 = .ok (.aload_n 0, 1) := by decide +kernel
theorem dX6_checksum_88 : decode cX6_checksum 88 = .ok (.iconst 0, 1) := by decide +kernel
theorem dX6_checksum_89 : decode cX6_checksum 89 = .ok (.iconst 0, 1) := by decide +kernel
theorem dX6_checksum_90 : decode cX6_checksum 90 = .ok (.invokevirtual 227, 3) := by decide +kernel
theorem dX6_checksum_93 : decode cX6_checksum 93 = .ok (.istore_n 3, 1) := by decide +kernel
theorem dX6_checksum_94 : decode cX6_checksum 94 = .ok (.ldc2_w 248, 3) := by decide +kernel
theorem dX6_checksum_97 : decode cX6_checksum 97 = .ok (.lload_n 1, 1) := by decide +kernel
theorem dX6_checksum_98 : decode cX6_checksum 98 = .ok (.lmul, 1) := by decide +kernel
theorem dX6_checksum_99 : decode cX6_checksum 99 = .ok (.iload_n 3, 1) := by decide +kernel
theorem dX6_checksum_100 : decode cX6_checksum 100 = .ok (.i2l, 1) := by decide +kernel
theorem dX6_checksum_101 : decode cX6_checksum 101 = .ok (.ladd, 1) := by decide +kernel
theorem dX6_checksum_102 : decode cX6_checksum 102 = .ok (.lstore_n 1, 1) := by decide +kernel
theorem dX6_checksum_103 : decode cX6_checksum 103 = .ok (.aload_n 0, 1) := by decide +kernel
theorem dX6_checksum_104 : decode cX6_checksum 104 = .ok (.iload_n 3, 1) := by decide +kernel
theorem dX6_checksum_105 : decode cX6_checksum 105 = .ok (.invokevirtual 197, 3) := by decide +kernel
theorem dX6_checksum_108 : decode cX6_checksum 108 = .ok (.iconst 0, 1) := by decide +kernel
theorem dX6_checksum_109 : decode cX6_checksum 109 = .ok (.istore 4, 2) := by decide +kernel
theorem dX6_checksum_111 : decode cX6_checksum 111 = .ok (.iload 4, 2) := by decide +kernel
theorem dX6_checksum_113 : decode cX6_checksum 113 = .ok (.bipush 7, 2) := by decide +kernel
theorem dX6_checksum_115 : decode cX6_checksum 115 = .ok (.if_icmp .ge 24, 3) := by decide +kernel
theorem dX6_checksum_118 : decode cX6_checksum 118 = .ok (.ldc2_w 248, 3) := by decide +kernel
theorem dX6_checksum_121 : decode cX6_checksum 121 = .ok (.lload_n 1, 1) := by decide +kernel
theorem dX6_checksum_122 : decode cX6_checksum 122 = .ok (.lmul, 1) := by decide +kernel
theorem dX6_checksum_123 : decode cX6_checksum 123 = .ok (.aload_n 0, 1) := by decide +kernel
theorem dX6_checksum_124 : decode cX6_checksum 124 = .ok (.getfield 43, 3) := by decide +kernel
theorem dX6_checksum_127 : decode cX6_checksum 127 = .ok (.iload 4, 2) := by decide +kernel
theorem dX6_checksum_129 : decode cX6_checksum 129 = .ok (.iaload, 1) := by decide +kernel
theorem dX6_checksum_130 : decode cX6_checksum 130 = .ok (.i2l, 1) := by decide +kernel
theorem dX6_checksum_131 : decode cX6_checksum 131 = .ok (.ladd, 1) := by decide +kernel
theorem dX6_checksum_132 : decode cX6_checksum 132 = .ok (.lstore_n 1, 1) := by decide +kernel
theorem dX6_checksum_133 : decode cX6_checksum 133 = .ok (.iinc 4 1, 3) := by decide +kernel
theorem dX6_checksum_136 : decode cX6_checksum 136 = .ok (.goto (-25), 3) := by decide +kernel
theorem dX6_checksum_139 : decode cX6_checksum 139 = .ok (.lload_n 1, 1) := by decide +kernel
theorem dX6_checksum_140 : decode cX6_checksum 140 = .ok (.lreturn, 1) := by decide +kernel
