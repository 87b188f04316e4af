theorem dX6_ofPage_19 : decode cX6_ofPage 19 = .ok (.iload 7, 2) := by decide +kernel
theorem dX6_ofPage_21 : decode cX6_ofPage 21 = .ok (.aload_n 0, 1) := by decide +kernel
theorem dX6_ofPage_22 : decode cX6_ofPage 22 = .ok (.getfield 17, 3) := by decide +kernel
theorem dX6_ofPage_25 : decode cX6_ofPage 25 = .ok (.iconst 1, 1) := by decide +kernel
theorem dX6_ofPage_26 : decode cX6_ofPage 26 = .ok (.iaload, 1) := by decide +kernel
theorem dX6_ofPage_27 : decode cX6_ofPage 27 = .ok (.if_icmp .ge 73, 3) := by decide +kernel
theorem dX6_ofPage_30 : decode cX6_ofPage 30 = .ok (.aload_n 0, 1) := by decide +kernel
theorem dX6_ofPage_31 : decode cX6_ofPage 31 = .ok (.getfield 31, 3) := by decide +kernel
theorem dX6_ofPage_34 : decode cX6_ofPage 34 = .ok (.iload 7, 2) := by decide +kernel
theorem dX6_ofPage_36 : decode cX6_ofPage 36 = .ok (.iaload, 1) := by decide +kernel
theorem dX6_ofPage_37 : decode cX6_ofPage 37 = .ok (.iload_n 1, 1) := by decide +kernel
theorem dX6_ofPage_38 : decode cX6_ofPage 38 = .ok (.if_icmp .eq 6, 3) := by decide +kernel
theorem dX6_ofPage_41 : decode cX6_ofPage 41 = .ok (.goto 53, 3) := by decide +kernel
theorem dX6_ofPage_44 : decode cX6_ofPage 44 = .ok (.iload 4, 2) := by decide +kernel
theorem dX6_ofPage_46 : decode cX6_ofPage 46 = .ok (.iconst (-1), 1) := by decide +kernel
theorem dX6_ofPage_47 : decode cX6_ofPage 47 = .ok (.if_icmp .ne 8, 3) := by decide +kernel
theorem dX6_ofPage_50 : decode cX6_ofPage 50 = .ok (.iload 7, 2) := by decide +kernel
theorem dX6_ofPage_52 : decode cX6_ofPage 52 = .ok (.goto 5, 3) := by decide +kernel
theorem dX6_ofPage_55 : decode cX6_ofPage 55 = .ok (.iload 4, 2) := by decide +kernel
theorem dX6_ofPage_57 : decode cX6_ofPage 57 = .ok (.istore 4, 2) := by decide +kernel
theorem dX6_ofPage_59 : decode cX6_ofPage 59 = .ok (.iinc 3 1, 3) := by decide +kernel
theorem dX6_ofPage_62 : decode cX6_ofPage 62 = .ok (.iload 5, 2) := by decide +kernel
theorem dX6_ofPage_64 : decode cX6_ofPage 64 = .ok (.aload_n 0, 1) := by decide +kernel
theorem dX6_ofPage_65 : decode cX6_ofPage 65 = .ok (.iload 7, 2) := by decide +kernel
theorem dX6_ofPage_67 : decode cX6_ofPage 67 = .ok (.iconst 0, 1) := by decide +kernel
theorem dX6_ofPage_68 : decode cX6_ofPage 68 = .ok (.invokevirtual 168, 3) := by decide +kernel
theorem dX6_ofPage_71 : decode cX6_ofPage 71 = .ok (.isub, 1) := by decide +kernel
theorem dX6_ofPage_72 : decode cX6_ofPage 72 = .ok (.istore 5, 2) := by decide +kernel
theorem dX6_ofPage_74 : decode cX6_ofPage 74 = .ok (.iload 6, 2) := by decide +kernel
theorem dX6_ofPage_76 : decode cX6_ofPage 76 = .ok (.aload_n 0, 1) := by decide +kernel
theorem dX6_ofPage_77 : decode cX6_ofPage 77 = .ok (.iload 7, 2) := by decide +kernel
theorem dX6_ofPage_79 : decode cX6_ofPage 79 = .ok (.iconst 4, 1) := by decide +kernel
theorem dX6_ofPage_80 : decode cX6_ofPage 80 = .ok (.invokevirtual 168, 3) := by decide +kernel
theorem dX6_ofPage_83 : decode cX6_ofPage 83 = .ok (.aload_n 0, 1) := by decide +kernel
theorem dX6_ofPage_84 : decode cX6_ofPage 84 = .ok (.iload 7, 2) := by decide +kernel
theorem dX6_ofPage_86 : decode cX6_ofPage 86 = .ok (.iconst 1, 1) := by decide +kernel
theorem dX6_ofPage_87 : decode cX6_ofPage 87 = .ok (.invokevirtual 168, 3) := by decide +kernel
theorem dX6_ofPage_90 : decode cX6_ofPage 90 = .ok (.imul, 1) := by decide +kernel
theorem dX6_ofPage_91 : decode cX6_ofPage 91 = .ok (.iadd, 1) := by decide +kernel
theorem dX6_ofPage_92 : decode cX6_ofPage 92 = .ok (.istore 6, 2) := by decide +kernel
theorem dX6_ofPage_94 : decode cX6_ofPage 94 = .ok (.iinc 7 1, 3) := by decide +kernel
theorem dX6_ofPage_97 : decode cX6_ofPage 97 = .ok (.goto (-78), 3) := by decide +kernel
theorem dX6_ofPage_100 : decode cX6_ofPage 100 = .ok (.iload_n 2, 1) := by decide +kernel
theorem dX6_ofPage_101 : decode cX6_ofPage 101 = .ok (.ifCond .ne 7, 3) := by decide +kernel
theorem dX6_ofPage_104 : decode cX6_ofPage 104 = .ok (.iload_n 3, 1) := by decide +kernel
theorem dX6_ofPage_105 : decode cX6_ofPage 105 = .ok (.goto 25, 3) := by decide +kernel
theorem dX6_ofPage_108 : decode cX6_ofPage 108 = .ok (.iload_n 2, 1) := by decide +kernel
theorem dX6_ofPage_109 : decode cX6_ofPage 109 = .ok (.iconst 1, 1) := by decide +kernel
theorem dX6_ofPage_110 : decode cX6_ofPage 110 = .ok (.if_icmp .ne 8, 3) := by decide +kernel
theorem dX6_ofPage_113 : decode cX6_ofPage 113 = .ok (.iload 4, 2) := by decide +kernel
theorem dX6_ofPage_115 : decode cX6_ofPage 115 = .ok (.goto 15, 3) := by decide +kernel
theorem dX6_ofPage_118 : decode cX6_ofPage 118 = .ok (.iload_n 2, 1) := by decide +kernel
theorem dX6_ofPage_119 : decode cX6_ofPage 119 = .ok (.iconst 2, 1) := by decide +kernel
theorem dX6_ofPage_120 : decode cX6_ofPage 120 = .ok (.if_icmp .ne 8, 3) := by decide +kernel
theorem dX6_ofPage_123 : decode cX6_ofPage 123 = .ok (.iload 5, 2) := by decide +kernel
theorem dX6_ofPage_125 : decode cX6_ofPage 125 = .ok (.goto 5, 3) := by decide +kernel
theorem dX6_ofPage_128 : decode cX6_ofPage 128 = .ok (.iload 6, 2) := by decide +kernel
theorem dX6_ofPage_130 : decode cX6_ofPage 130 = .ok (.ireturn, 1) := by decide +kernel
set_option maxRecDepth 20000 in
theorem ggX6_blanks_X6_ofPage : GoodIn wsX6_blanks wsX6_ofPage := goodIn_r _ [6, 7, 8, 9, 10, 11, 5, 12, 13, 14, 15, 16, 17, 18, 19, 20, 21, 22, 23, 24, 25, 26, 27, 28, 29, 30, 31, 32, 33, 34, 35, 36, 37] (by decide +kernel) (by decide +kernel)
set_option maxRecDepth 20000 in
theorem gX6_blanks_X6_ofPage : GoodIn wsX6_blanks (wsV RX6 203 RX6 yX6_ofPage wsX6_ofPage) := goodIn_app (goodIn_of _ (by decide +kernel)) ggX6_blanks_X6_ofPage
theorem dX6_blanks_0 : decode cX6_blanks 0 = .ok (.iconst 0, 1) := by decide +kernel
theorem dX6_blanks_1 : decode cX6_blanks 1 = .ok (.istore_n 1, 1) := by decide +kernel
theorem dX6_blanks_2 : decode cX6_blanks 2 = .ok (.iconst 0, 1) := by decide +kernel
theorem dX6_blanks_3 : decode cX6_blanks 3 = .ok (.istore_n 2, 1) := by decide +kernel
theorem dX6_blanks_4 : decode cX6_blanks 4 = .ok (.iload_n 2, 1) := by decide +kernel
theorem dX6_blanks_5 : decode cX6_blanks 5 = .ok (.iconst 1, 1) := by decide +kernel
theorem dX6_blanks_6 : decode cX6_blanks 6 = .ok (.iadd, 1) := by decide +kernel
theorem dX6_blanks_7 : decode cX6_blanks 7 = .ok (.aload_n 0, 1) := by decide +kernel
theorem dX6_blanks_8 : decode cX6_blanks 8 = .ok (.getfield 171, 3) := by decide +kernel
theorem dX6_blanks_11 : decode cX6_blanks 11 = .ok (.if_icmp .ge 18, 3) := by decide +kernel
theorem dX6_blanks_14 : decode cX6_blanks 14 = .ok (.iload_n 1, 1) := by decide +kernel
theorem dX6_blanks_15 : decode cX6_blanks 15 = .ok (.aload_n 0, 1) := by decide +kernel
theorem dX6_blanks_16 : decode cX6_blanks 16 = .ok (.iload_n 2, 1) := by decide +kernel
theorem dX6_blanks_17 : decode cX6_blanks 17 = .ok (.iconst 2, 1) := by decide +kernel
theorem dX6_blanks_18 : decode cX6_blanks 18 = .ok (.invokevirtual 203, 3) := by decide +kernel
theorem dX6_blanks_21 : decode cX6_blanks 21 = .ok (.iadd, 1) := by decide +kernel
theorem dX6_blanks_22 : decode cX6_blanks 22 = .ok (.istore_n 1, 1) := by decide +kernel
theorem dX6_blanks_23 : decode cX6_blanks 23 = .ok (.iinc 2 1, 3) := by decide +kernel
theorem dX6_blanks_26 : decode cX6_blanks 26 = .ok (.goto (-22), 3) := by decide +kernel
theorem dX6_blanks_29 : decode cX6_blanks 29 = .ok (.iload_n 1, 1) := by decide +kernel
theorem dX6_blanks_30 : decode cX6_blanks 30 = .ok (.ireturn, 1) := by decide +kernel
set_option maxRecDepth 20000 in
theorem ggX6_toldState_X6_sumOf : GoodIn wsX6_toldState wsX6_sumOf := goodIn_r _ [7, 1, 8, 9, 10, 6, 11, 12, 13, 14, 34, 35, 36, 37, 38, 39, 40, 41, 42, 43, 44, 45, 46, 47, 48, 49, 50, 51, 52, 53, 54, 55] (by decide +kernel) (by decide +kernel)
set_option maxRecDepth 20000 in
theorem gX6_toldState_X6_sumOf : GoodIn wsX6_toldState (wsV RX6 206 RX6 yX6_sumOf wsX6_sumOf) := goodIn_app (goodIn_of _ (by decide +kernel)) ggX6_toldState_X6_sumOf
set_option maxRecDepth 20000 in
theorem ggX6_toldState_X6_different : GoodIn wsX6_toldState wsX6_different := goodIn_r _ [17, 18, 19, 6, 20, 12, 13, 14] (by decide +kernel) (by decide +kernel)
set_option maxRecDepth 20000 in
theorem gX6_toldState_X6_different : GoodIn wsX6_toldState (va_wsS RX6 132 yX6_different wsX6_different) := goodIn_app (goodIn_of _ (by decide +kernel)) ggX6_toldState_X6_different
set_option maxRecDepth 20000 in
theorem ggX6_toldState_X6_wantedEstimates : GoodIn wsX6_toldState wsX6_wantedEstimates := goodIn_r _ [24, 1, 8, 9, 10, 6, 11, 12, 13, 14, 34, 35, 36, 37, 38, 39, 40, 41, 42, 43, 44, 45, 46, 47, 48, 49, 50, 51, 52, 53, 54, 55] (by decide +kernel) (by decide +kernel)
set_option maxRecDepth 20000 in
theorem gX6_toldState_X6_wantedEstimates : GoodIn wsX6_toldState (wsV RX6 209 RX6 yX6_wantedEstimates wsX6_wantedEstimates) := goodIn_app (goodIn_of _ (by decide +kernel)) ggX6_toldState_X6_wantedEstimates
set_option maxRecDepth 20000 in
theorem ggX6_toldState_X6_blanks : GoodIn wsX6_toldState wsX6_blanks := goodIn_r _ [28, 2, 29, 30, 31, 6, 32, 1, 33, 8, 9, 10, 11, 12, 13, 14, 34, 35, 36, 37, 38, 39, 40, 41, 42, 43, 44, 45, 46, 47, 48, 49, 50, 51, 52, 53, 54, 55] (by decide +kernel) (by decide +kernel)
set_option maxRecDepth 20000 in
theorem gX6_toldState_X6_blanks : GoodIn wsX6_toldState (wsV RX6 212 RX6 yX6_blanks wsX6_blanks) := goodIn_app (goodIn_of _ (by decide +kernel)) ggX6_toldState_X6_blanks
theorem dX6_toldState_0 : decode cX6_toldState 0 = .ok (.iload_n 1, 1) := by decide +kernel
theorem dX6_toldState_1 : decode cX6_toldState 1 = .ok (.tableswitch 132 0 10 #[59, 66, 73, 79, 85, 93, 99, 104, 115, 122, 127], 59) := by decide +kernel
theorem dX6_toldState_60 : decode cX6_toldState 60 = .ok (.aload_n 0, 1) := by decide +kernel
theorem dX6_toldState_61 : decode cX6_toldState 61 = .ok (.getfield 17, 3) := by decide +kernel
theorem dX6_toldState_64 : decode cX6_toldState 64 = .ok (.iconst 0, 1) := by decide +kernel
theorem dX6_toldState_65 : decode cX6_toldState 65 = .ok (.iaload, 1) := by decide +kernel
theorem dX6_toldState_66 : decode cX6_toldState 66 = .ok (.ireturn, 1) := by decide +kernel
theorem dX6_toldState_67 : decode cX6_toldState 67 = .ok (.aload_n 0, 1) := by decide +kernel
theorem dX6_toldState_68 : decode cX6_toldState 68 = .ok (.getfield 17, 3) := by decide +kernel
theorem dX6_toldState_71 : decode cX6_toldState 71 = .ok (.iconst 1, 1) := by decide +kernel
theorem dX6_toldState_72 : decode cX6_toldState 72 = .ok (.iaload, 1) := by decide +kernel
theorem dX6_toldState_73 : decode cX6_toldState 73 = .ok (.ireturn, 1) := by decide +kernel
theorem dX6_toldState_74 : decode cX6_toldState 74 = .ok (.aload_n 0, 1) := by decide +kernel
theorem dX6_toldState_75 : decode cX6_toldState 75 = .ok (.iconst 3, 1) := by decide +kernel
theorem dX6_toldState_76 : decode cX6_toldState 76 = .ok (.invokevirtual 206, 3) := by decide +kernel
theorem dX6_toldState_79 : decode cX6_toldState 79 = .ok (.ireturn, 1) := by decide +kernel
theorem dX6_toldState_80 : decode cX6_toldState 80 = .ok (.aload_n 0, 1) := by decide +kernel
theorem dX6_toldState_81 : decode cX6_toldState 81 = .ok (.iconst 4, 1) := by decide +kernel
theorem dX6_toldState_82 : decode cX6_toldState 82 = .ok (.invokevirtual 206, 3) := by decide +kernel
theorem dX6_toldState_85 : decode cX6_toldState 85 = .ok (.ireturn, 1) := by decide +kernel
theorem dX6_toldState_86 : decode cX6_toldState 86 = .ok (.aload_n 0, 1) := by decide +kernel
theorem dX6_toldState_87 : decode cX6_toldState 87 = .ok (.getfield 17, 3) := by decide +kernel
theorem dX6_toldState_90 : decode cX6_toldState 90 = .ok (.invokestatic 132, 3) := by decide +kernel
theorem dX6_toldState_93 : decode cX6_toldState 93 = .ok (.ireturn, 1) := by decide +kernel
theorem dX6_toldState_94 : decode cX6_toldState 94 = .ok (.aload_n 0, 1) := by decide +kernel
theorem dX6_toldState_95 : decode cX6_toldState 95 = .ok (.iconst 5, 1) := by decide +kernel
theorem dX6_toldState_96 : decode cX6_toldState 96 = .ok (.invokevirtual 206, 3) := by decide +kernel
theorem dX6_toldState_99 : decode cX6_toldState 99 = .ok (.ireturn, 1) := by decide +kernel
theorem dX6_toldState_100 : decode cX6_toldState 100 = .ok (.aload_n 0, 1) := by decide +kernel
theorem dX6_toldState_101 : decode cX6_toldState 101 = .ok (.getfield 171, 3) := by decide +kernel
theorem dX6_toldState_104 : decode cX6_toldState 104 = .ok (.ireturn, 1) := by decide +kernel
theorem dX6_toldState_105 : decode cX6_toldState 105 = .ok (.aload_n 0, 1) := by decide +kernel
theorem dX6_toldState_106 : decode cX6_toldState 106 = .ok (.getfield 171, 3) := by decide +kernel
theorem dX6_toldState_109 : decode cX6_toldState 109 = .ok (.iconst 4, 1) := by decide +kernel
theorem dX6_toldState_110 : decode cX6_toldState 110 = .ok (.iadd, 1) := by decide +kernel
theorem dX6_toldState_111 : decode cX6_toldState 111 = .ok (.iconst 1, 1) := by decide +kernel
theorem dX6_toldState_112 : decode cX6_toldState 112 = .ok (.isub, 1) := by decide +kernel
theorem dX6_toldState_113 : decode cX6_toldState 113 = .ok (.iconst 4, 1) := by decide +kernel
theorem dX6_toldState_114 : decode cX6_toldState 114 = .ok (.idiv, 1) := by decide +kernel
theorem dX6_toldState_115 : decode cX6_toldState 115 = .ok (.ireturn, 1) := by decide +kernel
theorem dX6_toldState_116 : decode cX6_toldState 116 = .ok (.aload_n 0, 1) := by decide +kernel
theorem dX6_toldState_117 : decode cX6_toldState 117 = .ok (.getfield 17, 3) := by decide +kernel
theorem dX6_toldState_120 : decode cX6_toldState 120 = .ok (.iconst 2, 1) := by decide +kernel
theorem dX6_toldState_121 : decode cX6_toldState 121 = .ok (.iaload, 1) := by decide +kernel
theorem dX6_toldState_122 : decode cX6_toldState 122 = .ok (.ireturn, 1) := by decide +kernel
theorem dX6_toldState_123 : decode cX6_toldState 123 = .ok (.aload_n 0, 1) := by decide +kernel
theorem dX6_toldState_124 : decode cX6_toldState 124 = .ok (.invokevirtual 209, 3) := by decide +kernel
theorem dX6_toldState_127 : decode cX6_toldState 127 = .ok (.ireturn, 1) := by decide +kernel
theorem dX6_toldState_128 : decode cX6_toldState 128 = .ok (.aload_n 0, 1) := by decide +kernel
theorem dX6_toldState_129 : decode cX6_toldState 129 = .ok (.invokevirtual 212, 3) := by decide +kernel
theorem dX6_toldState_132 : decode cX6_toldState 132 = .ok (.ireturn, 1) := by decide +kernel
theorem dX6_toldState_133 : decode cX6_toldState 133 = .ok (.aload_n 0, 1) := by decide +kernel
theorem dX6_toldState_134 : decode cX6_toldState 134 = .ok (.getfield 17, 3) := by decide +kernel
theorem dX6_toldState_137 : decode cX6_toldState 137 = .ok (.iconst 3, 1) := by decide +kernel
theorem dX6_toldState_138 : decode cX6_toldState 138 = .ok (.iaload, 1) := by decide +kernel
theorem dX6_toldState_139 : decode cX6_toldState 139 = .ok (.ireturn, 1) := by decide +kernel
set_option maxRecDepth 20000 in
theorem ggX6_state_X6_in : GoodIn wsX6_state wsX6_in := goodIn_r _ [5] (by decide +kernel) (by decide +kernel)
set_option maxRecDepth 20000 in
theorem gX6_state_X6_in : GoodIn wsX6_state (va_wsS RX6 82 yX6_in wsX6_in) := goodIn_app (goodIn_of _ (by decide +kernel)) ggX6_state_X6_in
set_option maxRecDepth 20000 in
theorem ggX6_state_X6_fails : GoodIn wsX6_state wsX6_fails := goodIn_r _ [9, 1, 57, 58, 59, 60, 61, 62, 63, 64, 65, 66, 67, 68, 69, 70, 71, 72, 73, 74, 75, 76, 77, 78] (by decide +kernel) (by decide +kernel)
set_option maxRecDepth 20000 in
theorem gX6_state_X6_fails : GoodIn wsX6_state (wsV RX6 152 RX6 yX6_fails wsX6_fails) := goodIn_app (goodIn_of _ (by decide +kernel)) ggX6_state_X6_fails
set_option maxRecDepth 20000 in
theorem ggX6_state_X6_lay : GoodIn wsX6_state wsX6_lay := goodIn_r _ [13, 14, 15, 16, 17, 18, 19, 20, 21, 22, 4, 23, 24, 25, 26, 27, 28, 29, 30, 57, 58, 59, 60, 61, 62, 63, 64, 65, 66, 67, 68, 69, 70, 71, 72, 73, 74, 75, 76, 77, 78] (by decide +kernel) (by decide +kernel)
set_option maxRecDepth 20000 in
theorem gX6_state_X6_lay : GoodIn wsX6_state (wsV RX6 187 RX6 yX6_lay wsX6_lay) := goodIn_app (goodIn_of _ (by decide +kernel)) ggX6_state_X6_lay
set_option maxRecDepth 20000 in
theorem ggX6_state_X6_toldState : GoodIn wsX6_state wsX6_toldState := goodIn_r _ [34, 14, 15, 35, 36, 37, 4, 38, 24, 25, 26, 27, 28, 29, 30, 39, 40, 41, 42, 43, 44, 45, 46, 47, 48, 49, 50, 51, 52, 53, 54, 55, 56, 18, 57, 58, 59, 60, 61, 62, 63, 64, 65, 66, 67, 68, 69, 70, 71, 72, 73, 74, 75, 76, 77, 78] (by decide +kernel) (by decide +kernel)
set_option maxRecDepth 20000 in
theorem gX6_state_X6_toldState : GoodIn wsX6_state (wsV RX6 215 RX6 yX6_toldState wsX6_toldState) := goodIn_app (goodIn_of _ (by decide +kernel)) ggX6_state_X6_toldState
theorem dX6_state_0 : decode cX6_state 0 = .ok (.aload_n 0, 1) := by decide +kernel
theorem dX6_state_1 : decode cX6_state 1 = .ok (.iconst 0, 1) := by decide +kernel
theorem dX6_state_2 : decode cX6_state 2 = .ok (.putfield 53, 3) := by decide +kernel
theorem dX6_state_5 : decode cX6_state 5 = .ok (.aload_n 0, 1) := by decide +kernel
theorem dX6_state_6 : decode cX6_state 6 = .ok (.iload_n 1, 1) := by decide +kernel
theorem dX6_state_7 : decode cX6_state 7 = .ok (.iconst 0, 1) := by decide +kernel
theorem dX6_state_8 : decode cX6_state 8 = .ok (.bipush 11, 2) := by decide +kernel
theorem dX6_state_10 : decode cX6_state 10 = .ok (.invokestatic 82, 3) := by decide +kernel
theorem dX6_state_13 : decode cX6_state 13 = .ok (.ifCond .ne 7, 3) := by decide +kernel
theorem dX6_state_16 : decode cX6_state 16 = .ok (.iconst 1, 1) := by decide +kernel
theorem dX6_state_17 : decode cX6_state 17 = .ok (.goto 4, 3) := by decide +kernel
theorem dX6_state_20 : decode cX6_state 20 = .ok (.iconst 0, 1) := by decide +kernel
theorem dX6_state_21 : decode cX6_state 21 = .ok (.iconst 1, 1) := by decide +kernel
theorem dX6_state_22 : decode cX6_state 22 = .ok (.invokevirtual 152, 3) := by decide +kernel
theorem dX6_state_25 : decode cX6_state 25 = .ok (.ifCond .eq 5, 3) := by decide +kernel
theorem dX6_state_28 : decode cX6_state 28 = .ok (.iconst 0, 1) := by decide +kernel
theorem dX6_state_29 : decode cX6_state 29 = .ok (.ireturn, 1) := by decide +kernel
theorem dX6_state_30 : decode cX6_state 30 = .ok (.aload_n 0, 1) := by decide +kernel
theorem dX6_state_31 : decode cX6_state 31 = .ok (.invokevirtual 187, 3) := by decide +kernel
theorem dX6_state_34 : decode cX6_state 34 = .ok (.aload_n 0, 1) := by decide +kernel
theorem dX6_state_35 : decode cX6_state 35 = .ok (.iload_n 1, 1) := by decide +kernel
theorem dX6_state_36 : decode cX6_state 36 = .ok (.invokevirtual 215, 3) := by decide +kernel
theorem dX6_state_39 : decode cX6_state 39 = .ok (.ireturn, 1) := by decide +kernel
set_option maxRecDepth 20000 in
theorem ggX6_toldLot_X6_of : GoodIn wsX6_toldLot wsX6_of := goodIn_r _ [8, 9, 10, 11, 7, 12, 13, 14, 15, 16, 17, 18, 19, 20, 21, 22, 23, 24, 25, 26, 27, 28, 29, 30, 31, 32, 33, 34] (by decide +kernel) (by decide +kernel)
set_option maxRecDepth 20000 in
theorem gX6_toldLot_X6_of : GoodIn wsX6_toldLot (wsV RX6 168 RX6 yX6_of wsX6_of) := goodIn_app (goodIn_of _ (by decide +kernel)) ggX6_toldLot_X6_of
theorem dX6_toldLot_0 : decode cX6_toldLot 0 = .ok (.iload_n 2, 1) := by decide +kernel
theorem dX6_toldLot_1 : decode cX6_toldLot 1 = .ok (.bipush 6, 2) := by decide +kernel
theorem dX6_toldLot_3 : decode cX6_toldLot 3 = .ok (.if_icmp .ge 12, 3) := by decide +kernel
theorem dX6_toldLot_6 : decode cX6_toldLot 6 = .ok (.aload_n 0, 1) := by decide +kernel
theorem dX6_toldLot_7 : decode cX6_toldLot 7 = .ok (.iload_n 1, 1) := by decide +kernel
theorem dX6_toldLot_8 : decode cX6_toldLot 8 = .ok (.iload_n 2, 1) := by decide +kernel
theorem dX6_toldLot_9 : decode cX6_toldLot 9 = .ok (.invokevirtual 168, 3) := by decide +kernel
theorem dX6_toldLot_12 : decode cX6_toldLot 12 = .ok (.goto 39, 3) := by decide +kernel
theorem dX6_toldLot_15 : decode cX6_toldLot 15 = .ok (.iload_n 2, 1) := by decide +kernel
theorem dX6_toldLot_16 : decode cX6_toldLot 16 = .ok (.bipush 6, 2) := by decide +kernel
theorem dX6_toldLot_18 : decode cX6_toldLot 18 = .ok (.if_icmp .ne 12, 3) := by decide +kernel
theorem dX6_toldLot_21 : decode cX6_toldLot 21 = .ok (.aload_n 0, 1) := by decide +kernel
theorem dX6_toldLot_22 : decode cX6_toldLot 22 = .ok (.getfield 28, 3) := by decide +kernel
theorem dX6_toldLot_25 : decode cX6_toldLot 25 = .ok (.iload_n 1, 1) := by decide +kernel
theorem dX6_toldLot_26 : decode cX6_toldLot 26 = .ok (.iaload, 1) := by decide +kernel
theorem dX6_toldLot_27 : decode cX6_toldLot 27 = .ok (.goto 24, 3) := by decide +kernel
theorem dX6_toldLot_30 : decode cX6_toldLot 30 = .ok (.iload_n 2, 1) := by decide +kernel
theorem dX6_toldLot_31 : decode cX6_toldLot 31 = .ok (.bipush 7, 2) := by decide +kernel
theorem dX6_toldLot_33 : decode cX6_toldLot 33 = .ok (.if_icmp .ne 12, 3) := by decide +kernel
theorem dX6_toldLot_36 : decode cX6_toldLot 36 = .ok (.aload_n 0, 1) := by decide +kernel
theorem dX6_toldLot_37 : decode cX6_toldLot 37 = .ok (.getfield 31, 3) := by decide +kernel
theorem dX6_toldLot_40 : decode cX6_toldLot 40 = .ok (.iload_n 1, 1) := by decide +kernel
theorem dX6_toldLot_41 : decode cX6_toldLot 41 = .ok (.iaload, 1) := by decide +kernel
theorem dX6_toldLot_42 : decode cX6_toldLot 42 = .ok (.goto 9, 3) := by decide +kernel
theorem dX6_toldLot_45 : decode cX6_toldLot 45 = .ok (.aload_n 0, 1) := by decide +kernel
theorem dX6_toldLot_46 : decode cX6_toldLot 46 = .ok (.getfield 34, 3) := by decide +kernel
theorem dX6_toldLot_49 : decode cX6_toldLot 49 = .ok (.iload_n 1, 1) := by decide +kernel
theorem dX6_toldLot_50 : decode cX6_toldLot 50 = .ok (.iaload, 1) := by decide +kernel
theorem dX6_toldLot_51 : decode cX6_toldLot 51 = .ok (.ireturn, 1) := by decide +kernel
set_option maxRecDepth 20000 in
theorem ggX6_lot_X6_noLot : GoodIn wsX6_lot wsX6_noLot := goodIn_r _ [6, 7, 8, 9, 5, 10, 11, 12, 13, 14, 1, 39, 40, 41, 42, 43, 44, 45, 46, 47, 48, 49, 50, 51, 52, 53, 54, 55, 56, 57, 58, 59, 60] (by decide +kernel) (by decide +kernel)
set_option maxRecDepth 20000 in
theorem gX6_lot_X6_noLot : GoodIn wsX6_lot (wsV RX6 218 RX6 yX6_noLot wsX6_noLot) := goodIn_app (goodIn_of _ (by decide +kernel)) ggX6_lot_X6_noLot
set_option maxRecDepth 20000 in
theorem ggX6_lot_X6_in : GoodIn wsX6_lot wsX6_in := goodIn_r _ [10] (by decide +kernel) (by decide +kernel)
set_option maxRecDepth 20000 in
theorem gX6_lot_X6_in : GoodIn wsX6_lot (va_wsS RX6 82 yX6_in wsX6_in) := goodIn_app (goodIn_of _ (by decide +kernel)) ggX6_lot_X6_in
set_option maxRecDepth 20000 in
theorem ggX6_lot_X6_fails : GoodIn wsX6_lot wsX6_fails := goodIn_r _ [14, 1, 39, 40, 41, 42, 43, 44, 45, 46, 47, 48, 49, 50, 51, 52, 53, 54, 55, 56, 57, 58, 59, 60] (by decide +kernel) (by decide +kernel)
set_option maxRecDepth 20000 in
theorem gX6_lot_X6_fails : GoodIn wsX6_lot (wsV RX6 152 RX6 yX6_fails wsX6_fails) := goodIn_app (goodIn_of _ (by decide +kernel)) ggX6_lot_X6_fails
set_option maxRecDepth 20000 in
theorem ggX6_lot_X6_lay : GoodIn wsX6_lot wsX6_lay := goodIn_r _ [18, 7, 19, 20, 21, 22, 23, 24, 25, 26, 5, 27, 28, 29, 30, 31, 32, 33, 34, 39, 40, 41, 42, 43, 44, 45, 46, 47, 48, 49, 50, 51, 52, 53, 54, 55, 56, 57, 58, 59, 60] (by decide +kernel) (by decide +kernel)
set_option maxRecDepth 20000 in
theorem gX6_lot_X6_lay : GoodIn wsX6_lot (wsV RX6 187 RX6 yX6_lay wsX6_lay) := goodIn_app (goodIn_of _ (by decide +kernel)) ggX6_lot_X6_lay
set_option maxRecDepth 20000 in
theorem ggX6_lot_X6_toldLot : GoodIn wsX6_lot wsX6_toldLot := goodIn_r _ [38, 21, 22, 23, 28, 29, 30, 5, 31, 7, 32, 33, 34, 39, 40, 41, 42, 43, 44, 45, 46, 47, 48, 49, 50, 51, 52, 53, 54, 55, 56, 57, 58, 59, 60] (by decide +kernel) (by decide +kernel)
set_option maxRecDepth 20000 in
theorem gX6_lot_X6_toldLot : GoodIn wsX6_lot (wsV RX6 221 RX6 yX6_toldLot wsX6_toldLot) := goodIn_app (goodIn_of _ (by decide +kernel)) ggX6_lot_X6_toldLot
theorem dX6_lot_0 : decode cX6_lot 0 = .ok (.aload_n 0, 1) := by decide +kernel
theorem dX6_lot_1 : decode cX6_lot 1 = .ok (.iconst 0, 1) := by decide +kernel
theorem dX6_lot_2 : decode cX6_lot 2 = .ok (.putfield 53, 3) := by decide +kernel
theorem dX6_lot_5 : decode cX6_lot 5 = .ok (.aload_n 0, 1) := by decide +kernel
theorem dX6_lot_6 : decode cX6_lot 6 = .ok (.iload_n 1, 1) := by decide +kernel
theorem dX6_lot_7 : decode cX6_lot 7 = .ok (.invokevirtual 218, 3) := by decide +kernel
theorem dX6_lot_10 : decode cX6_lot 10 = .ok (.ifCond .ne 26, 3) := by decide +kernel
theorem dX6_lot_13 : decode cX6_lot 13 = .ok (.aload_n 0, 1) := by decide +kernel
theorem dX6_lot_14 : decode cX6_lot 14 = .ok (.iload_n 2, 1) := by decide +kernel
theorem dX6_lot_15 : decode cX6_lot 15 = .ok (.iconst 0, 1) := by decide +kernel
theorem dX6_lot_16 : decode cX6_lot 16 = .ok (.bipush 8, 2) := by decide +kernel
theorem dX6_lot_18 : decode cX6_lot 18 = .ok (.invokestatic 82, 3) := by decide +kernel
theorem dX6_lot_21 : decode cX6_lot 21 = .ok (.ifCond .ne 7, 3) := by decide +kernel
theorem dX6_lot_24 : decode cX6_lot 24 = .ok (.iconst 1, 1) := by decide +kernel
theorem dX6_lot_25 : decode cX6_lot 25 = .ok (.goto 4, 3) := by decide +kernel
theorem dX6_lot_28 : decode cX6_lot 28 = .ok (.iconst 0, 1) := by decide +kernel
theorem dX6_lot_29 : decode cX6_lot 29 = .ok (.iconst 2, 1) := by decide +kernel
theorem dX6_lot_30 : decode cX6_lot 30 = .ok (.invokevirtual 152, 3) := by decide +kernel
theorem dX6_lot_33 : decode cX6_lot 33 = .ok (.ifCond .eq 5, 3) := by decide +kernel
theorem dX6_lot_36 : decode cX6_lot 36 = .ok (.iconst 0, 1) := by decide +kernel
theorem dX6_lot_37 : decode cX6_lot 37 = .ok (.ireturn, 1) := by decide +kernel
theorem dX6_lot_38 : decode cX6_lot 38 = .ok (.aload_n 0, 1) := by decide +kernel
theorem dX6_lot_39 : decode cX6_lot 39 = .ok (.invokevirtual 187, 3) := by decide +kernel
theorem dX6_lot_42 : decode cX6_lot 42 = .ok (.aload_n 0, 1) := by decide +kernel
theorem dX6_lot_43 : decode cX6_lot 43 = .ok (.iload_n 1, 1) := by decide +kernel
theorem dX6_lot_44 : decode cX6_lot 44 = .ok (.iload_n 2, 1) := by decide +kernel
theorem dX6_lot_45 : decode cX6_lot 45 = .ok (.invokevirtual 221, 3) := by decide +kernel
theorem dX6_lot_48 : decode cX6_lot 48 = .ok (.ireturn, 1) := by decide +kernel
set_option maxRecDepth 20000 in
theorem ggX6_noPage_X6_lay : GoodIn wsX6_noPage wsX6_lay := goodIn_r _ [6, 7, 1, 8, 9, 10, 11, 12, 13, 14, 5, 15, 16, 17, 18, 19, 20, 21, 22, 31, 32, 33, 34, 35, 36, 37, 38, 39, 40, 41, 42, 43, 44, 45, 46, 47, 48, 49, 50, 51, 52] (by decide +kernel) (by decide +kernel)
set_option maxRecDepth 20000 in
theorem gX6_noPage_X6_lay : GoodIn wsX6_noPage (wsV RX6 187 RX6 yX6_lay wsX6_lay) := goodIn_app (goodIn_of _ (by decide +kernel)) ggX6_noPage_X6_lay
set_option maxRecDepth 20000 in
theorem ggX6_noPage_X6_in : GoodIn wsX6_noPage wsX6_in := goodIn_r _ [25] (by decide +kernel) (by decide +kernel)
set_option maxRecDepth 20000 in
theorem gX6_noPage_X6_in : GoodIn wsX6_noPage (va_wsS RX6 82 yX6_in wsX6_in) := goodIn_app (goodIn_of _ (by decide +kernel)) ggX6_noPage_X6_in
set_option maxRecDepth 20000 in
theorem ggX6_noPage_X6_fails : GoodIn wsX6_noPage wsX6_fails := goodIn_r _ [29, 30, 31, 32, 33, 34, 35, 36, 37, 38, 39, 40, 41, 42, 43, 44, 45, 46, 47, 48, 49, 50, 51, 52] (by decide +kernel) (by decide +kernel)
set_option maxRecDepth 20000 in
theorem gX6_noPage_X6_fails : GoodIn wsX6_noPage (wsV RX6 152 RX6 yX6_fails wsX6_fails) := goodIn_app (goodIn_of _ (by decide +kernel)) ggX6_noPage_X6_fails
theorem dX6_noPage_0 : decode cX6_noPage 0 = .ok (.aload_n 0, 1) := by decide +kernel
theorem dX6_noPage_1 : decode cX6_noPage 1 = .ok (.invokevirtual 187, 3) := by decide +kernel
theorem dX6_noPage_4 : decode cX6_noPage 4 = .ok (.aload_n 0, 1) := by decide +kernel
theorem dX6_noPage_5 : decode cX6_noPage 5 = .ok (.iload_n 1, 1) := by decide +kernel
theorem dX6_noPage_6 : decode cX6_noPage 6 = .ok (.iconst 0, 1) := by decide +kernel
theorem dX6_noPage_7 : decode cX6_noPage 7 = .ok (.aload_n 0, 1) := by decide +kernel
theorem dX6_noPage_8 : decode cX6_noPage 8 = .ok (.getfield 171, 3) := by decide +kernel
theorem dX6_noPage_11 : decode cX6_noPage 11 = .ok (.iconst 1, 1) := by decide +kernel
theorem dX6_noPage_12 : decode cX6_noPage 12 = .ok (.isub, 1) := by decide +kernel
theorem dX6_noPage_13 : decode cX6_noPage 13 = .ok (.invokestatic 82, 3) := by decide +kernel
theorem dX6_noPage_16 : decode cX6_noPage 16 = .ok (.ifCond .ne 7, 3) := by decide +kernel
theorem dX6_noPage_19 : decode cX6_noPage 19 = .ok (.iconst 1, 1) := by decide +kernel
theorem dX6_noPage_20 : decode cX6_noPage 20 = .ok (.goto 4, 3) := by decide +kernel
theorem dX6_noPage_23 : decode cX6_noPage 23 = .ok (.iconst 0, 1) := by decide +kernel
theorem dX6_noPage_24 : decode cX6_noPage 24 = .ok (.iconst 1, 1) := by decide +kernel
theorem dX6_noPage_25 : decode cX6_noPage 25 = .ok (.invokevirtual 152, 3) := by decide +kernel
theorem dX6_noPage_28 : decode cX6_noPage 28 = .ok (.ireturn, 1) := by decide +kernel
set_option maxRecDepth 20000 in
theorem ggX6_page_X6_noPage : GoodIn wsX6_page wsX6_noPage := goodIn_r _ [6, 7, 8, 9, 10, 5, 11, 12, 13, 14, 15, 16, 17, 18, 19, 20, 21, 22, 23, 24, 25, 26, 27, 28, 29, 30, 31, 32, 33, 34, 1, 39, 40, 41, 42, 43, 44, 45, 46, 47, 48, 49, 50, 51, 52, 53, 54, 55, 56, 57, 58, 59, 60] (by decide +kernel) (by decide +kernel)
set_option maxRecDepth 20000 in
theorem gX6_page_X6_noPage : GoodIn wsX6_page (wsV RX6 224 RX6 yX6_noPage wsX6_noPage) := goodIn_app (goodIn_of _ (by decide +kernel)) ggX6_page_X6_noPage
set_option maxRecDepth 20000 in
theorem ggX6_page_X6_in : GoodIn wsX6_page wsX6_in := goodIn_r _ [30] (by decide +kernel) (by decide +kernel)
set_option maxRecDepth 20000 in
theorem gX6_page_X6_in : GoodIn wsX6_page (va_wsS RX6 82 yX6_in wsX6_in) := goodIn_app (goodIn_of _ (by decide +kernel)) ggX6_page_X6_in
set_option maxRecDepth 20000 in
theorem ggX6_page_X6_fails : GoodIn wsX6_page wsX6_fails := goodIn_r _ [34, 1, 39, 40, 41, 42, 43, 44, 45, 46, 47, 48, 49, 50, 51, 52, 53, 54, 55, 56, 57, 58, 59, 60] (by decide +kernel) (by decide +kernel)
set_option maxRecDepth 20000 in
theorem gX6_page_X6_fails : GoodIn wsX6_page (wsV RX6 152 RX6 yX6_fails wsX6_fails) := goodIn_app (goodIn_of _ (by decide +kernel)) ggX6_page_X6_fails
set_option maxRecDepth 20000 in
theorem ggX6_page_X6_ofPage : GoodIn wsX6_page wsX6_ofPage := goodIn_r _ [38, 12, 15, 21, 22, 23, 5, 24, 25, 26, 27, 39, 40, 41, 42, 43, 44, 45, 46, 47, 48, 49, 50, 51, 52, 53, 54, 55, 56, 57, 58, 59, 60] (by decide +kernel) (by decide +kernel)
set_option maxRecDepth 20000 in
theorem gX6_page_X6_ofPage : GoodIn wsX6_page (wsV RX6 203 RX6 yX6_ofPage wsX6_ofPage) := goodIn_app (goodIn_of _ (by decide +kernel)) ggX6_page_X6_ofPage
theorem dX6_page_0 : decode cX6_page 0 = .ok (.aload_n 0, 1) := by decide +kernel
theorem dX6_page_1 : decode cX6_page 1 = .ok (.iconst 0, 1) := by decide +kernel
theorem dX6_page_2 : decode cX6_page 2 = .ok (.putfield 53, 3) := by decide +kernel
theorem dX6_page_5 : decode cX6_page 5 = .ok (.aload_n 0, 1) := by decide +kernel
theorem dX6_page_6 : decode cX6_page 6 = .ok (.iload_n 1, 1) := by decide +kernel
theorem dX6_page_7 : decode cX6_page 7 = .ok (.invokevirtual 224, 3) := by decide +kernel
theorem dX6_page_10 : decode cX6_page 10 = .ok (.ifCond .ne 25, 3) := by decide +kernel
theorem dX6_page_13 : decode cX6_page 13 = .ok (.aload_n 0, 1) := by decide +kernel
theorem dX6_page_14 : decode cX6_page 14 = .ok (.iload_n 2, 1) := by decide +kernel
theorem dX6_page_15 : decode cX6_page 15 = .ok (.iconst 0, 1) := by decide +kernel
theorem dX6_page_16 : decode cX6_page 16 = .ok (.iconst 3, 1) := by decide +kernel
theorem dX6_page_17 : decode cX6_page 17 = .ok (.invokestatic 82, 3) := by decide +kernel
theorem dX6_page_20 : decode cX6_page 20 = .ok (.ifCond .ne 7, 3) := by decide +kernel
theorem dX6_page_23 : decode cX6_page 23 = .ok (.iconst 1, 1) := by decide +kernel
theorem dX6_page_24 : decode cX6_page 24 = .ok (.goto 4, 3) := by decide +kernel
theorem dX6_page_27 : decode cX6_page 27 = .ok (.iconst 0, 1) := by decide +kernel
theorem dX6_page_28 : decode cX6_page 28 = .ok (.iconst 2, 1) := by decide +kernel
theorem dX6_page_29 : decode cX6_page 29 = .ok (.invokevirtual 152, 3) := by decide +kernel
theorem dX6_page_32 : decode cX6_page 32 = .ok (.ifCond .eq 7, 3) := by decide +kernel
theorem dX6_page_35 : decode cX6_page 35 = .ok (.iconst 0, 1) := by decide +kernel
theorem dX6_page_36 : decode cX6_page 36 = .ok (.goto 9, 3) := by decide +kernel
theorem dX6_page_39 : decode cX6_page 39 = .ok (.aload_n 0, 1) := by decide +kernel
theorem dX6_page_40 : decode cX6_page 40 = .ok (.iload_n 1, 1) := by decide +kernel
theorem dX6_page_41 : decode cX6_page 41 = .ok (.iload_n 2, 1) := by decide +kernel
theorem dX6_page_42 : decode cX6_page 42 = .ok (.invokevirtual 203, 3) := by decide +kernel
theorem dX6_page_45 : decode cX6_page 45 = .ok (.ireturn, 1) := by decide +kernel
set_option maxRecDepth 20000 in
theorem ggX6_standing_X6_noPage : GoodIn wsX6_standing wsX6_noPage := goodIn_r _ [8, 9, 10, 11, 12, 7, 13, 2, 3, 14, 15, 16, 17, 18, 19, 20, 21, 22, 23, 24, 25, 26, 27, 28, 29, 30, 31, 32, 33, 34, 1, 35, 36, 37, 38, 39, 40, 41, 42, 43, 44, 45, 46, 47, 48, 49, 50, 51, 52, 53, 54, 55, 56] (by decide +kernel) (by decide +kernel)
set_option maxRecDepth 20000 in
theorem gX6_standing_X6_noPage : GoodIn wsX6_standing (wsV RX6 224 RX6 yX6_noPage wsX6_noPage) := goodIn_app (goodIn_of _ (by decide +kernel)) ggX6_standing_X6_noPage
set_option maxRecDepth 20000 in
theorem ggX6_standing_X6_in : GoodIn wsX6_standing wsX6_in := goodIn_r _ [30] (by decide +kernel) (by decide +kernel)
set_option maxRecDepth 20000 in
theorem gX6_standing_X6_in : GoodIn wsX6_standing (va_wsS RX6 82 yX6_in wsX6_in) := goodIn_app (goodIn_of _ (by decide +kernel)) ggX6_standing_X6_in
set_option maxRecDepth 20000 in
theorem ggX6_standing_X6_fails : GoodIn wsX6_standing wsX6_fails := goodIn_r _ [34, 1, 35, 36, 37, 38, 39, 40, 41, 42, 43, 44, 45, 46, 47, 48, 49, 50, 51, 52, 53, 54, 55, 56] (by decide +kernel) (by decide +kernel)
set_option maxRecDepth 20000 in
theorem gX6_standing_X6_fails : GoodIn wsX6_standing (wsV RX6 152 RX6 yX6_fails wsX6_fails) := goodIn_app (goodIn_of _ (by decide +kernel)) ggX6_standing_X6_fails
theorem dX6_standing_0 : decode cX6_standing 0 = .ok (.aload_n 0, 1) := by decide +kernel
theorem dX6_standing_1 : decode cX6_standing 1 = .ok (.iconst 0, 1) := by decide +kernel
theorem dX6_standing_2 : decode cX6_standing 2 = .ok (.putfield 53, 3) := by decide +kernel
theorem dX6_standing_5 : decode cX6_standing 5 = .ok (.aload_n 0, 1) := by decide +kernel
theorem dX6_standing_6 : decode cX6_standing 6 = .ok (.iload_n 1, 1) := by decide +kernel
theorem dX6_standing_7 : decode cX6_standing 7 = .ok (.invokevirtual 224, 3) := by decide +kernel
theorem dX6_standing_10 : decode cX6_standing 10 = .ok (.ifCond .ne 32, 3) := by decide +kernel
theorem dX6_standing_13 : decode cX6_standing 13 = .ok (.aload_n 0, 1) := by decide +kernel
theorem dX6_standing_14 : decode cX6_standing 14 = .ok (.iload_n 2, 1) := by decide +kernel
theorem dX6_standing_15 : decode cX6_standing 15 = .ok (.iconst 0, 1) := by decide +kernel
theorem dX6_standing_16 : decode cX6_standing 16 = .ok (.aload_n 0, 1) := by decide +kernel
theorem dX6_standing_17 : decode cX6_standing 17 = .ok (.getfield 17, 3) := by decide +kernel
theorem dX6_standing_20 : decode cX6_standing 20 = .ok (.iconst 0, 1) := by decide +kernel
theorem dX6_standing_21 : decode cX6_standing 21 = .ok (.iaload, 1) := by decide +kernel
theorem dX6_standing_22 : decode cX6_standing 22 = .ok (.iconst 1, 1) := by decide +kernel
theorem dX6_standing_23 : decode cX6_standing 23 = .ok (.isub, 1) := by decide +kernel
theorem dX6_standing_24 : decode cX6_standing 24 = .ok (.invokestatic 82, 3) := by decide +kernel
theorem dX6_standing_27 : decode cX6_standing 27 = .ok (.ifCond .ne 7, 3) := by decide +kernel
theorem dX6_standing_30 : decode cX6_standing 30 = .ok (.iconst 1, 1) := by decide +kernel
theorem dX6_standing_31 : decode cX6_standing 31 = .ok (.goto 4, 3) := by decide +kernel
theorem dX6_standing_34 : decode cX6_standing 34 = .ok (.iconst 0, 1) := by decide +kernel
theorem dX6_standing_35 : decode cX6_standing 35 = .ok (.iconst 2, 1) := by decide +kernel
theorem dX6_standing_36 : decode cX6_standing 36 = .ok (.invokevirtual 152, 3) := by decide +kernel
theorem dX6_standing_39 : decode cX6_standing 39 = .ok (.ifCond .eq 7, 3) := by decide +kernel
theorem dX6_standing_42 : decode cX6_standing 42 = .ok (.iconst 0, 1) := by decide +kernel
theorem dX6_standing_43 : decode cX6_standing 43 = .ok (.goto 18, 3) := by decide +kernel
theorem dX6_standing_46 : decode cX6_standing 46 = .ok (.aload_n 0, 1) := by decide +kernel
theorem dX6_standing_47 : decode cX6_standing 47 = .ok (.getfield 37, 3) := by decide +kernel
theorem dX6_standing_50 : decode cX6_standing 50 = .ok (.aload_n 0, 1) := by decide +kernel
theorem dX6_standing_51 : decode cX6_standing 51 = .ok (.getfield 17, 3) := by decide +kernel
theorem dX6_standing_54 : decode cX6_standing 54 = .ok (.iconst 0, 1) := by decide +kernel
theorem dX6_standing_55 : decode cX6_standing 55 = .ok (.iaload, 1) := by decide +kernel
theorem dX6_standing_56 : decode cX6_standing 56 = .ok (.iload_n 1, 1) := by decide +kernel
theorem dX6_standing_57 : decode cX6_standing 57 = .ok (.imul, 1) := by decide +kernel
theorem dX6_standing_58 : decode cX6_standing 58 = .ok (.iload_n 2, 1) := by decide +kernel
theorem dX6_standing_59 : decode cX6_standing 59 = .ok (.iadd, 1) := by decide +kernel
theorem dX6_standing_60 : decode cX6_standing 60 = .ok (.iaload, 1) := by decide +kernel
theorem dX6_standing_61 : decode cX6_standing 61 = .ok (.ireturn, 1) := by decide +kernel
set_option maxRecDepth 20000 in
theorem ggX6_numbered_X6_lay : GoodIn wsX6_numbered wsX6_lay := goodIn_r _ [8, 2, 9, 10, 3, 11, 12, 13, 14, 15, 7, 16, 17, 18, 19, 20, 21, 22, 23, 28, 29, 30, 31, 32, 33, 34, 35, 36, 37, 38, 39, 40, 41, 42, 43, 44, 45, 46, 47, 48, 49] (by decide +kernel) (by decide +kernel)
set_option maxRecDepth 20000 in
theorem gX6_numbered_X6_lay : GoodIn wsX6_numbered (wsV RX6 187 RX6 yX6_lay wsX6_lay) := goodIn_app (goodIn_of _ (by decide +kernel)) ggX6_numbered_X6_lay
set_option maxRecDepth 20000 in
theorem ggX6_numbered_X6_fails : GoodIn wsX6_numbered wsX6_fails := goodIn_r _ [27, 1, 28, 29, 30, 31, 32, 33, 34, 35, 36, 37, 38, 39, 40, 41, 42, 43, 44, 45, 46, 47, 48, 49] (by decide +kernel) (by decide +kernel)
set_option maxRecDepth 20000 in
theorem gX6_numbered_X6_fails : GoodIn wsX6_numbered (wsV RX6 152 RX6 yX6_fails wsX6_fails) := goodIn_app (goodIn_of _ (by decide +kernel)) ggX6_numbered_X6_fails
theorem dX6_numbered_0 : decode cX6_numbered 0 = .ok (.aload_n 0, 1) := by decide +kernel
theorem dX6_numbered_1 : decode cX6_numbered 1 = .ok (.iconst 0, 1) := by decide +kernel
theorem dX6_numbered_2 : decode cX6_numbered 2 = .ok (.putfield 53, 3) := by decide +kernel
theorem dX6_numbered_5 : decode cX6_numbered 5 = .ok (.aload_n 0, 1) := by decide +kernel
theorem dX6_numbered_6 : decode cX6_numbered 6 = .ok (.invokevirtual 187, 3) := by decide +kernel
theorem dX6_numbered_9 : decode cX6_numbered 9 = .ok (.iconst 0, 1) := by decide +kernel
theorem dX6_numbered_10 : decode cX6_numbered 10 = .ok (.istore_n 2, 1) := by decide +kernel
theorem dX6_numbered_11 : decode cX6_numbered 11 = .ok (.iload_n 2, 1) := by decide +kernel
theorem dX6_numbered_12 : decode cX6_numbered 12 = .ok (.aload_n 0, 1) := by decide +kernel
theorem dX6_numbered_13 : decode cX6_numbered 13 = .ok (.getfield 17, 3) := by decide +kernel
theorem dX6_numbered_16 : decode cX6_numbered 16 = .ok (.iconst 1, 1) := by decide +kernel
theorem dX6_numbered_17 : decode cX6_numbered 17 = .ok (.iaload, 1) := by decide +kernel
theorem dX6_numbered_18 : decode cX6_numbered 18 = .ok (.if_icmp .ge 25, 3) := by decide +kernel
theorem dX6_numbered_21 : decode cX6_numbered 21 = .ok (.iload_n 1, 1) := by decide +kernel
theorem dX6_numbered_22 : decode cX6_numbered 22 = .ok (.ifCond .le 15, 3) := by decide +kernel
theorem dX6_numbered_25 : decode cX6_numbered 25 = .ok (.aload_n 0, 1) := by decide +kernel
theorem dX6_numbered_26 : decode cX6_numbered 26 = .ok (.getfield 28, 3) := by decide +kernel
theorem dX6_numbered_29 : decode cX6_numbered 29 = .ok (.iload_n 2, 1) := by decide +kernel
theorem dX6_numbered_30 : decode cX6_numbered 30 = .ok (.iaload, 1) := by decide +kernel
theorem dX6_numbered_31 : decode cX6_numbered 31 = .ok (.iload_n 1, 1) := by decide +kernel
theorem dX6_numbered_32 : decode cX6_numbered 32 = .ok (.if_icmp .ne 5, 3) := by decide +kernel
theorem dX6_numbered_35 : decode cX6_numbered 35 = .ok (.iload_n 2, 1) := by decide +kernel
theorem dX6_numbered_36 : decode cX6_numbered 36 = .ok (.ireturn, 1) := by decide +kernel
theorem dX6_numbered_37 : decode cX6_numbered 37 = .ok (.iinc 2 1, 3) := by decide +kernel
theorem dX6_numbered_40 : decode cX6_numbered 40 = .ok (.goto (-29), 3) := by decide +kernel
theorem dX6_numbered_43 : decode cX6_numbered 43 = .ok (.aload_n 0, 1) := by decide +kernel
theorem dX6_numbered_44 : decode cX6_numbered 44 = .ok (.iconst 1, 1) := by decide +kernel
theorem dX6_numbered_45 : decode cX6_numbered 45 = .ok (.iconst 1, 1) := by decide +kernel
theorem dX6_numbered_46 : decode cX6_numbered 46 = .ok (.invokevirtual 152, 3) := by decide +kernel
theorem dX6_numbered_49 : decode cX6_numbered 49 = .ok (.pop, 1) := by decide +kernel
theorem dX6_numbered_50 : decode cX6_numbered 50 = .ok (.iconst 0, 1) := by decide +kernel
theorem dX6_numbered_51 : decode cX6_numbered 51 = .ok (.ireturn, 1) := by decide +kernel
set_option maxRecDepth 20000 in
theorem ggX6_different__X6_different : GoodIn wsX6_different_ wsX6_different := goodIn_r _ [6, 7, 8, 5, 9, 10, 11, 12] (by decide +kernel) (by decide +kernel)
set_option maxRecDepth 20000 in
theorem gX6_different__X6_different : GoodIn wsX6_different_ (va_wsS RX6 132 yX6_different wsX6_different) := goodIn_app (goodIn_of _ (by decide +kernel)) ggX6_different__X6_different
set_option maxRecDepth 20000 in
theorem ggX6_different__X6_in : GoodIn wsX6_different_ wsX6_in := goodIn_r _ [15] (by decide +kernel) (by decide +kernel)
set_option maxRecDepth 20000 in
theorem gX6_different__X6_in : GoodIn wsX6_different_ (va_wsS RX6 82 yX6_in wsX6_in) := goodIn_app (goodIn_of _ (by decide +kernel)) ggX6_different__X6_in
set_option maxRecDepth 20000 in
theorem ggX6_different__X6_fails : GoodIn wsX6_different_ wsX6_fails := goodIn_r _ [19, 1, 24, 25, 26, 27, 28, 29, 30, 31, 32, 33, 34, 35, 36, 37, 38, 39, 40, 41, 42, 43, 44, 45] (by decide +kernel) (by decide +kernel)
set_option maxRecDepth 20000 in
theorem gX6_different__X6_fails : GoodIn wsX6_different_ (wsV RX6 152 RX6 yX6_fails wsX6_fails) := goodIn_app (goodIn_of _ (by decide +kernel)) ggX6_different__X6_fails
set_option maxRecDepth 20000 in
theorem ggX6_different__X6_differs : GoodIn wsX6_different_ wsX6_differs := goodIn_r _ [9, 10, 11, 5, 12] (by decide +kernel) (by decide +kernel)
set_option maxRecDepth 20000 in
theorem gX6_different__X6_differs : GoodIn wsX6_different_ (va_wsS RX6 60 yX6_differs wsX6_differs) := goodIn_app (goodIn_of _ (by decide +kernel)) ggX6_different__X6_differs
set_option maxRecDepth 20000 in
theorem ggX6_different__X6_placeOf : GoodIn wsX6_different_ wsX6_placeOf := goodIn_r _ [23, 2, 7, 8, 5, 9, 10, 11, 12, 24, 25, 26, 27, 28, 29, 30, 31, 32, 33, 34, 35, 36, 37, 38, 39, 40, 41, 42, 43, 44, 45] (by decide +kernel) (by decide +kernel)
set_option maxRecDepth 20000 in
theorem gX6_different__X6_placeOf : GoodIn wsX6_different_ (wsV RX6 177 RX6 yX6_placeOf wsX6_placeOf) := goodIn_app (goodIn_of _ (by decide +kernel)) ggX6_different__X6_placeOf
theorem dX6_different__0 : decode cX6_different_ 0 = .ok (.aload_n 0, 1) := by decide +kernel
theorem dX6_different__1 : decode cX6_different_ 1 = .ok (.iconst 0, 1) := by decide +kernel
theorem dX6_different__2 : decode cX6_different_ 2 = .ok (.putfield 53, 3) := by decide +kernel
theorem dX6_different__5 : decode cX6_different_ 5 = .ok (.aload_n 0, 1) := by decide +kernel
theorem dX6_different__6 : decode cX6_different_ 6 = .ok (.iload_n 1, 1) := by decide +kernel
theorem dX6_different__7 : decode cX6_different_ 7 = .ok (.iconst 0, 1) := by decide +kernel
theorem dX6_different__8 : decode cX6_different_ 8 = .ok (.aload_n 0, 1) := by decide +kernel
theorem dX6_different__9 : decode cX6_different_ 9 = .ok (.getfield 17, 3) := by decide +kernel
theorem dX6_different__12 : decode cX6_different_ 12 = .ok (.invokestatic 132, 3) := by decide +kernel
theorem dX6_different__15 : decode cX6_different_ 15 = .ok (.iconst 1, 1) := by decide +kernel
theorem dX6_different__16 : decode cX6_different_ 16 = .ok (.isub, 1) := by decide +kernel
theorem dX6_different__17 : decode cX6_different_ 17 = .ok (.invokestatic 82, 3) := by decide +kernel
theorem dX6_different__20 : decode cX6_different_ 20 = .ok (.ifCond .ne 7, 3) := by decide +kernel
theorem dX6_different__23 : decode cX6_different_ 23 = .ok (.iconst 1, 1) := by decide +kernel
theorem dX6_different__24 : decode cX6_different_ 24 = .ok (.goto 4, 3) := by decide +kernel
theorem dX6_different__27 : decode cX6_different_ 27 = .ok (.iconst 0, 1) := by decide +kernel
theorem dX6_different__28 : decode cX6_different_ 28 = .ok (.iconst 1, 1) := by decide +kernel
theorem dX6_different__29 : decode cX6_different_ 29 = .ok (.invokevirtual 152, 3) := by decide +kernel
theorem dX6_different__32 : decode cX6_different_ 32 = .ok (.ifCond .eq 5, 3) := by decide +kernel
theorem dX6_different__35 : decode cX6_different_ 35 = .ok (.iconst 0, 1) := by decide +kernel
theorem dX6_different__36 : decode cX6_different_ 36 = .ok (.ireturn, 1) := by decide +kernel
theorem dX6_different__37 : decode cX6_different_ 37 = .ok (.iconst 0, 1) := by decide +kernel
theorem dX6_different__38 : decode cX6_different_ 38 = .ok (.istore_n 2, 1) := by decide +kernel
theorem dX6_different__39 : decode cX6_different_ 39 = .ok (.aload_n 0, 1) := by decide +kernel
theorem dX6_different__40 : decode cX6_different_ 40 = .ok (.getfield 17, 3) := by decide +kernel
theorem dX6_different__43 : decode cX6_different_ 43 = .ok (.iload_n 2, 1) := by decide +kernel
theorem dX6_different__44 : decode cX6_different_ 44 = .ok (.invokestatic 60, 3) := by decide +kernel
theorem dX6_different__47 : decode cX6_different_ 47 = .ok (.ifCond .eq 12, 3) := by decide +kernel
theorem dX6_different__50 : decode cX6_different_ 50 = .ok (.aload_n 0, 1) := by decide +kernel
theorem dX6_different__51 : decode cX6_different_ 51 = .ok (.iload_n 2, 1) := by decide +kernel
theorem dX6_different__52 : decode cX6_different_ 52 = .ok (.invokevirtual 177, 3) := by decide +kernel
theorem dX6_different__55 : decode cX6_different_ 55 = .ok (.iload_n 1, 1) := by decide +kernel
theorem dX6_different__56 : decode cX6_different_ 56 = .ok (.if_icmp .eq 9, 3) := by decide +kernel
theorem dX6_different__59 : decode cX6_different_ 59 = .ok (.iinc 2 1, 3) := by decide +kernel
theorem dX6_different__62 : decode cX6_different_ 62 = .ok (.goto (-23), 3) := by decide +kernel
theorem dX6_different__65 : decode cX6_different_ 65 = .ok (.iload_n 2, 1) := by decide +kernel
theorem dX6_different__66 : decode cX6_different_ 66 = .ok (.ireturn, 1) := by decide +kernel
set_option maxRecDepth 20000 in
theorem ggX6_best_X6_bestOf : GoodIn wsX6_best wsX6_bestOf := goodIn_r _ [6, 7, 8, 9, 5, 10, 11, 12, 13, 14, 15, 16, 17, 18, 19, 20, 21, 22, 23, 24, 25, 26, 27, 28, 29, 30, 31, 32, 33, 34, 35, 36, 37, 38, 39, 40, 41, 42, 43, 44, 45, 46, 47, 48, 49, 50, 51, 52, 53, 54, 55, 56, 57, 58, 59, 60, 61, 62, 63, 64, 65, 66, 67, 68, 69, 70, 71, 72, 73, 74, 75, 76, 77, 78, 79, 80, 81, 82, 83, 84, 85, 86] (by decide +kernel) (by decide +kernel)
set_option maxRecDepth 20000 in
theorem gX6_best_X6_bestOf : GoodIn wsX6_best (wsV RX6 227 RX6 yX6_bestOf wsX6_bestOf) := goodIn_app (goodIn_of _ (by decide +kernel)) ggX6_best_X6_bestOf
theorem dX6_best_0 : decode cX6_best 0 = .ok (.aload_n 0, 1) := by decide +kernel
theorem dX6_best_1 : decode cX6_best 1 = .ok (.iconst 0, 1) := by decide +kernel
theorem dX6_best_2 : decode cX6_best 2 = .ok (.putfield 53, 3) := by decide +kernel
theorem dX6_best_5 : decode cX6_best 5 = .ok (.aload_n 0, 1) := by decide +kernel
theorem dX6_best_6 : decode cX6_best 6 = .ok (.iconst 0, 1) := by decide +kernel
theorem dX6_best_7 : decode cX6_best 7 = .ok (.iconst 0, 1) := by decide +kernel
theorem dX6_best_8 : decode cX6_best 8 = .ok (.invokevirtual 227, 3) := by decide +kernel
theorem dX6_best_11 : decode cX6_best 11 = .ok (.ireturn, 1) := by decide +kernel
set_option maxRecDepth 20000 in
theorem ggX6_noChoice_X6_different : GoodIn wsX6_noChoice wsX6_different := goodIn_r _ [5, 6, 7, 4, 8, 9, 10, 11] (by decide +kernel) (by decide +kernel)
set_option maxRecDepth 20000 in
theorem gX6_noChoice_X6_different : GoodIn wsX6_noChoice (va_wsS RX6 132 yX6_different wsX6_different) := goodIn_app (goodIn_of _ (by decide +kernel)) ggX6_noChoice_X6_different
set_option maxRecDepth 20000 in
theorem ggX6_noChoice_X6_in : GoodIn wsX6_noChoice wsX6_in := goodIn_r _ [14] (by decide +kernel) (by decide +kernel)
set_option maxRecDepth 20000 in
theorem gX6_noChoice_X6_in : GoodIn wsX6_noChoice (va_wsS RX6 82 yX6_in wsX6_in) := goodIn_app (goodIn_of _ (by decide +kernel)) ggX6_noChoice_X6_in
set_option maxRecDepth 20000 in
theorem ggX6_noChoice_X6_fails : GoodIn wsX6_noChoice wsX6_fails := goodIn_r _ [18, 19, 20, 21, 22, 23, 24, 25, 26, 27, 28, 29, 30, 31, 32, 33, 34, 35, 36, 37, 38, 39, 40, 41] (by decide +kernel) (by decide +kernel)
set_option maxRecDepth 20000 in
theorem gX6_noChoice_X6_fails : GoodIn wsX6_noChoice (wsV RX6 152 RX6 yX6_fails wsX6_fails) := goodIn_app (goodIn_of _ (by decide +kernel)) ggX6_noChoice_X6_fails
theorem dX6_noChoice_0 : decode cX6_noChoice 0 = .ok (.aload_n 0, 1) := by decide +kernel
theorem dX6_noChoice_1 : decode cX6_noChoice 1 = .ok (.iload_n 1, 1) := by decide +kernel
theorem dX6_noChoice_2 : decode cX6_noChoice 2 = .ok (.iconst 0, 1) := by decide +kernel
theorem dX6_noChoice_3 : decode cX6_noChoice 3 = .ok (.iconst 1, 1) := by decide +kernel
theorem dX6_noChoice_4 : decode cX6_noChoice 4 = .ok (.aload_n 0, 1) := by decide +kernel
theorem dX6_noChoice_5 : decode cX6_noChoice 5 = .ok (.getfield 17, 3) := by decide +kernel
theorem dX6_noChoice_8 : decode cX6_noChoice 8 = .ok (.invokestatic 132, 3) := by decide +kernel
theorem dX6_noChoice_11 : decode cX6_noChoice 11 = .ok (.ishl, 1) := by decide +kernel
theorem dX6_noChoice_12 : decode cX6_noChoice 12 = .ok (.iconst 1, 1) := by decide +kernel
theorem dX6_noChoice_13 : decode cX6_noChoice 13 = .ok (.isub, 1) := by decide +kernel
theorem dX6_noChoice_14 : decode cX6_noChoice 14 = .ok (.invokestatic 82, 3) := by decide +kernel
theorem dX6_noChoice_17 : decode cX6_noChoice 17 = .ok (.ifCond .ne 7, 3) := by decide +kernel
theorem dX6_noChoice_20 : decode cX6_noChoice 20 = .ok (.iconst 1, 1) := by decide +kernel
theorem dX6_noChoice_21 : decode cX6_noChoice 21 = .ok (.goto 4, 3) := by decide +kernel
theorem dX6_noChoice_24 : decode cX6_noChoice 24 = .ok (.iconst 0, 1) := by decide +kernel
theorem dX6_noChoice_25 : decode cX6_noChoice 25 = .ok (.iconst 1, 1) := by decide +kernel
theorem dX6_noChoice_26 : decode cX6_noChoice 26 = .ok (.invokevirtual 152, 3) := by decide +kernel
theorem dX6_noChoice_29 : decode cX6_noChoice 29 = .ok (.ireturn, 1) := by decide +kernel
set_option maxRecDepth 20000 in
theorem ggX6_choice_X6_noChoice : GoodIn wsX6_choice wsX6_noChoice := goodIn_r _ [7, 8, 9, 10, 6, 11, 12, 13, 14, 15, 16, 17, 18, 19, 20, 21, 22, 23, 24, 1, 68, 69, 70, 71, 72, 73, 74, 75, 76, 77, 78, 79, 80, 81, 82, 83, 84, 85, 86, 87, 88, 89] (by decide +kernel) (by decide +kernel)
set_option maxRecDepth 20000 in
theorem gX6_choice_X6_noChoice : GoodIn wsX6_choice (wsV RX6 230 RX6 yX6_noChoice wsX6_noChoice) := goodIn_app (goodIn_of _ (by decide +kernel)) ggX6_choice_X6_noChoice
set_option maxRecDepth 20000 in
theorem ggX6_choice_X6_in : GoodIn wsX6_choice wsX6_in := goodIn_r _ [20] (by decide +kernel) (by decide +kernel)
set_option maxRecDepth 20000 in
theorem gX6_choice_X6_in : GoodIn wsX6_choice (va_wsS RX6 82 yX6_in wsX6_in) := goodIn_app (goodIn_of _ (by decide +kernel)) ggX6_choice_X6_in
set_option maxRecDepth 20000 in
theorem ggX6_choice_X6_fails : GoodIn wsX6_choice wsX6_fails := goodIn_r _ [24, 1, 68, 69, 70, 71, 72, 73, 74, 75, 76, 77, 78, 79, 80, 81, 82, 83, 84, 85, 86, 87, 88, 89] (by decide +kernel) (by decide +kernel)
set_option maxRecDepth 20000 in
theorem gX6_choice_X6_fails : GoodIn wsX6_choice (wsV RX6 152 RX6 yX6_fails wsX6_fails) := goodIn_app (goodIn_of _ (by decide +kernel)) ggX6_choice_X6_fails
set_option maxRecDepth 20000 in
theorem ggX6_choice_X6_layChoice : GoodIn wsX6_choice wsX6_layChoice := goodIn_r _ [28, 8, 29, 30, 2, 31, 32, 33, 34, 6, 35, 12, 13, 14, 15, 16, 17, 36, 37, 38, 39, 40, 41, 42, 43, 44, 45, 46, 47, 48, 49, 50, 51, 52, 53, 54, 55, 56, 57, 58, 59, 60, 61, 62, 63, 64, 65, 66, 67, 68, 69, 70, 71, 72, 73, 74, 75, 76, 77, 78, 79, 80, 81, 82, 83, 84, 85, 86, 87, 88, 89] (by decide +kernel) (by decide +kernel)
set_option maxRecDepth 20000 in
theorem gX6_choice_X6_layChoice : GoodIn wsX6_choice (wsV RX6 197 RX6 yX6_layChoice wsX6_layChoice) := goodIn_app (goodIn_of _ (by decide +kernel)) ggX6_choice_X6_layChoice
theorem dX6_choice_0 : decode cX6_choice 0 = .ok (.aload_n 0, 1) := by decide +kernel
theorem dX6_choice_1 : decode cX6_choice 1 = .ok (.iconst 0, 1) := by decide +kernel
theorem dX6_choice_2 : decode cX6_choice 2 = .ok (.putfield 53, 3) := by decide +kernel
theorem dX6_choice_5 : decode cX6_choice 5 = .ok (.aload_n 0, 1) := by decide +kernel
theorem dX6_choice_6 : decode cX6_choice 6 = .ok (.iload_n 1, 1) := by decide +kernel
theorem dX6_choice_7 : decode cX6_choice 7 = .ok (.invokevirtual 230, 3) := by decide +kernel
theorem dX6_choice_10 : decode cX6_choice 10 = .ok (.ifCond .ne 26, 3) := by decide +kernel
theorem dX6_choice_13 : decode cX6_choice 13 = .ok (.aload_n 0, 1) := by decide +kernel
theorem dX6_choice_14 : decode cX6_choice 14 = .ok (.iload_n 2, 1) := by decide +kernel
theorem dX6_choice_15 : decode cX6_choice 15 = .ok (.iconst 0, 1) := by decide +kernel
theorem dX6_choice_16 : decode cX6_choice 16 = .ok (.bipush 6, 2) := by decide +kernel
theorem dX6_choice_18 : decode cX6_choice 18 = .ok (.invokestatic 82, 3) := by decide +kernel
theorem dX6_choice_21 : decode cX6_choice 21 = .ok (.ifCond .ne 7, 3) := by decide +kernel
theorem dX6_choice_24 : decode cX6_choice 24 = .ok (.iconst 1, 1) := by decide +kernel
theorem dX6_choice_25 : decode cX6_choice 25 = .ok (.goto 4, 3) := by decide +kernel
theorem dX6_choice_28 : decode cX6_choice 28 = .ok (.iconst 0, 1) := by decide +kernel
theorem dX6_choice_29 : decode cX6_choice 29 = .ok (.iconst 1, 1) := by decide +kernel
theorem dX6_choice_30 : decode cX6_choice 30 = .ok (.invokevirtual 152, 3) := by decide +kernel
theorem dX6_choice_33 : decode cX6_choice 33 = .ok (.ifCond .eq 5, 3) := by decide +kernel
theorem dX6_choice_36 : decode cX6_choice 36 = .ok (.iconst 0, 1) := by decide +kernel
theorem dX6_choice_37 : decode cX6_choice 37 = .ok (.ireturn, 1) := by decide +kernel
theorem dX6_choice_38 : decode cX6_choice 38 = .ok (.aload_n 0, 1) := by decide +kernel
theorem dX6_choice_39 : decode cX6_choice 39 = .ok (.iload_n 1, 1) := by decide +kernel
theorem dX6_choice_40 : decode cX6_choice 40 = .ok (.invokevirtual 197, 3) := by decide +kernel
theorem dX6_choice_43 : decode cX6_choice 43 = .ok (.aload_n 0, 1) := by decide +kernel
theorem dX6_choice_44 : decode cX6_choice 44 = .ok (.getfield 43, 3) := by decide +kernel
theorem dX6_choice_47 : decode cX6_choice 47 = .ok (.iload_n 2, 1) := by decide +kernel
theorem dX6_choice_48 : decode cX6_choice 48 = .ok (.iaload, 1) := by decide +kernel
theorem dX6_choice_49 : decode cX6_choice 49 = .ok (.ireturn, 1) := by decide +kernel
set_option maxRecDepth 20000 in
theorem ggX6_pays_X6_noLot : GoodIn wsX6_pays wsX6_noLot := goodIn_r _ [7, 2, 8, 9, 6, 10, 11, 12, 13, 14, 1, 76, 77, 78, 79, 80, 81, 82, 83, 84, 85, 86, 87, 88, 89, 90, 91, 92, 93, 94, 95, 96, 97] (by decide +kernel) (by decide +kernel)
set_option maxRecDepth 20000 in
theorem gX6_pays_X6_noLot : GoodIn wsX6_pays (wsV RX6 218 RX6 yX6_noLot wsX6_noLot) := goodIn_app (goodIn_of _ (by decide +kernel)) ggX6_pays_X6_noLot
set_option maxRecDepth 20000 in
theorem ggX6_pays_X6_differs : GoodIn wsX6_pays wsX6_differs := goodIn_r _ [17, 18, 19, 6, 20] (by decide +kernel) (by decide +kernel)
set_option maxRecDepth 20000 in
theorem gX6_pays_X6_differs : GoodIn wsX6_pays (va_wsS RX6 60 yX6_differs wsX6_differs) := goodIn_app (goodIn_of _ (by decide +kernel)) ggX6_pays_X6_differs
set_option maxRecDepth 20000 in
theorem ggX6_pays_X6_placeOf : GoodIn wsX6_pays wsX6_placeOf := goodIn_r _ [24, 2, 15, 16, 6, 17, 18, 19, 20, 76, 77, 78, 79, 80, 81, 82, 83, 84, 85, 86, 87, 88, 89, 90, 91, 92, 93, 94, 95, 96, 97] (by decide +kernel) (by decide +kernel)
set_option maxRecDepth 20000 in
theorem gX6_pays_X6_placeOf : GoodIn wsX6_pays (wsV RX6 177 RX6 yX6_placeOf wsX6_placeOf) := goodIn_app (goodIn_of _ (by decide +kernel)) ggX6_pays_X6_placeOf
set_option maxRecDepth 20000 in
theorem ggX6_pays_X6_bestOf : GoodIn wsX6_pays wsX6_bestOf := goodIn_r _ [28, 2, 29, 30, 6, 31, 15, 16, 17, 18, 19, 20, 32, 33, 34, 35, 36, 37, 38, 39, 40, 41, 42, 43, 44, 45, 46, 47, 48, 49, 50, 51, 21, 22, 23, 24, 52, 53, 54, 55, 56, 57, 58, 59, 60, 61, 62, 63, 64, 65, 66, 67, 68, 69, 70, 71, 72, 73, 74, 75, 76, 77, 78, 79, 80, 81, 82, 83, 84, 85, 86, 87, 88, 89, 90, 91, 92, 93, 94, 95, 96, 97] (by decide +kernel) (by decide +kernel)
set_option maxRecDepth 20000 in
theorem gX6_pays_X6_bestOf : GoodIn wsX6_pays (wsV RX6 227 RX6 yX6_bestOf wsX6_bestOf) := goodIn_app (goodIn_of _ (by decide +kernel)) ggX6_pays_X6_bestOf
set_option maxRecDepth 20000 in
theorem ggX6_pays_X6_costsOf : GoodIn wsX6_pays wsX6_costsOf := goodIn_r _ [35, 36, 37, 38, 39, 6, 40, 2, 41, 42, 43, 44, 45, 46, 47, 15, 16, 17, 18, 19, 20, 48, 49, 50, 51, 21, 22, 23, 24, 52, 53, 54, 55, 56, 57, 58, 59, 60, 61, 62, 63, 64, 65, 66, 67, 68, 69, 70, 71, 72, 73, 74, 75, 76, 77, 78, 79, 80, 81, 82, 83, 84, 85, 86, 87, 88, 89, 90, 91, 92, 93, 94, 95, 96, 97] (by decide +kernel) (by decide +kernel)
set_option maxRecDepth 20000 in
theorem gX6_pays_X6_costsOf : GoodIn wsX6_pays (wsV RX6 200 RX6 yX6_costsOf wsX6_costsOf) := goodIn_app (goodIn_of _ (by decide +kernel)) ggX6_pays_X6_costsOf
theorem dX6_pays_0 : decode cX6_pays 0 = .ok (.aload_n 0, 1) := by decide +kernel
theorem dX6_pays_1 : decode cX6_pays 1 = .ok (.iconst 0, 1) := by decide +kernel
theorem dX6_pays_2 : decode cX6_pays 2 = .ok (.putfield 53, 3) := by decide +kernel
theorem dX6_pays_5 : decode cX6_pays 5 = .ok (.aload_n 0, 1) := by decide +kernel
theorem dX6_pays_6 : decode cX6_pays 6 = .ok (.iload_n 1, 1) := by decide +kernel
theorem dX6_pays_7 : decode cX6_pays 7 = .ok (.invokevirtual 218, 3) := by decide +kernel
theorem dX6_pays_10 : decode cX6_pays 10 = .ok (.ifCond .ne 14, 3) := by decide +kernel
theorem dX6_pays_13 : decode cX6_pays 13 = .ok (.aload_n 0, 1) := by decide +kernel
theorem dX6_pays_14 : decode cX6_pays 14 = .ok (.getfield 17, 3) := by decide +kernel
theorem dX6_pays_17 : decode cX6_pays 17 = .ok (.iload_n 1, 1) := by decide +kernel
theorem dX6_pays_18 : decode cX6_pays 18 = .ok (.invokestatic 60, 3) := by decide +kernel
theorem dX6_pays_21 : decode cX6_pays 21 = .ok (.ifCond .ne 5, 3) := by decide +kernel
theorem dX6_pays_24 : decode cX6_pays 24 = .ok (.iconst 0, 1) := by decide +kernel
theorem dX6_pays_25 : decode cX6_pays 25 = .ok (.ireturn, 1) := by decide +kernel
theorem dX6_pays_26 : decode cX6_pays 26 = .ok (.iconst 1, 1) := by decide +kernel
theorem dX6_pays_27 : decode cX6_pays 27 = .ok (.aload_n 0, 1) := by decide +kernel
theorem dX6_pays_28 : decode cX6_pays 28 = .ok (.iload_n 1, 1) := by decide +kernel
theorem dX6_pays_29 : decode cX6_pays 29 = .ok (.invokevirtual 177, 3) := by decide +kernel
theorem dX6_pays_32 : decode cX6_pays 32 = .ok (.ishl, 1) := by decide +kernel
theorem dX6_pays_33 : decode cX6_pays 33 = .ok (.istore_n 2, 1) := by decide +kernel
theorem dX6_pays_34 : decode cX6_pays 34 = .ok (.aload_n 0, 1) := by decide +kernel
theorem dX6_pays_35 : decode cX6_pays 35 = .ok (.aload_n 0, 1) := by decide +kernel
theorem dX6_pays_36 : decode cX6_pays 36 = .ok (.iload_n 2, 1) := by decide +kernel
theorem dX6_pays_37 : decode cX6_pays 37 = .ok (.iconst 0, 1) := by decide +kernel
theorem dX6_pays_38 : decode cX6_pays 38 = .ok (.invokevirtual 227, 3) := by decide +kernel
theorem dX6_pays_41 : decode cX6_pays 41 = .ok (.invokevirtual 200, 3) := by decide +kernel
theorem dX6_pays_44 : decode cX6_pays 44 = .ok (.aload_n 0, 1) := by decide +kernel
theorem dX6_pays_45 : decode cX6_pays 45 = .ok (.aload_n 0, 1) := by decide +kernel
theorem dX6_pays_46 : decode cX6_pays 46 = .ok (.iconst 0, 1) := by decide +kernel
theorem dX6_pays_47 : decode cX6_pays 47 = .ok (.iload_n 2, 1) := by decide +kernel
theorem dX6_pays_48 : decode cX6_pays 48 = .ok (.invokevirtual 227, 3) := by decide +kernel
theorem dX6_pays_51 : decode cX6_pays 51 = .ok (.invokevirtual 200, 3) := by decide +kernel
theorem dX6_pays_54 : decode cX6_pays 54 = .ok (.isub, 1) := by decide +kernel
theorem dX6_pays_55 : decode cX6_pays 55 = .ok (.ireturn, 1) := by decide +kernel
set_option maxRecDepth 20000 in
theorem ggX6_dearest_X6_sumOf : GoodIn wsX6_dearest wsX6_sumOf := goodIn_r _ [6, 7, 8, 9, 10, 5, 11, 12, 13, 14, 26, 27, 28, 29, 30, 31, 32, 33, 34, 35, 36, 37, 38, 39, 40, 41, 42, 43, 44, 45, 46, 47] (by decide +kernel) (by decide +kernel)
set_option maxRecDepth 20000 in
theorem gX6_dearest_X6_sumOf : GoodIn wsX6_dearest (wsV RX6 206 RX6 yX6_sumOf wsX6_sumOf) := goodIn_app (goodIn_of _ (by decide +kernel)) ggX6_dearest_X6_sumOf
set_option maxRecDepth 20000 in
theorem ggX6_dearest_X6_in : GoodIn wsX6_dearest wsX6_in := goodIn_r _ [17] (by decide +kernel) (by decide +kernel)
set_option maxRecDepth 20000 in
theorem gX6_dearest_X6_in : GoodIn wsX6_dearest (va_wsS RX6 82 yX6_in wsX6_in) := goodIn_app (goodIn_of _ (by decide +kernel)) ggX6_dearest_X6_in
set_option maxRecDepth 20000 in
theorem ggX6_dearest_X6_fails : GoodIn wsX6_dearest wsX6_fails := goodIn_r _ [21, 1, 26, 27, 28, 29, 30, 31, 32, 33, 34, 35, 36, 37, 38, 39, 40, 41, 42, 43, 44, 45, 46, 47] (by decide +kernel) (by decide +kernel)
set_option maxRecDepth 20000 in
theorem gX6_dearest_X6_fails : GoodIn wsX6_dearest (wsV RX6 152 RX6 yX6_fails wsX6_fails) := goodIn_app (goodIn_of _ (by decide +kernel)) ggX6_dearest_X6_fails
set_option maxRecDepth 20000 in
theorem ggX6_dearest_X6_nextDearest : GoodIn wsX6_dearest wsX6_nextDearest := goodIn_r _ [25, 7, 8, 9, 10, 5, 11, 12, 13, 14, 26, 27, 28, 29, 30, 31, 32, 33, 34, 35, 36, 37, 38, 39, 40, 41, 42, 43, 44, 45, 46, 47] (by decide +kernel) (by decide +kernel)
set_option maxRecDepth 20000 in
theorem gX6_dearest_X6_nextDearest : GoodIn wsX6_dearest (wsV RX6 233 RX6 yX6_nextDearest wsX6_nextDearest) := goodIn_app (goodIn_of _ (by decide +kernel)) ggX6_dearest_X6_nextDearest
theorem dX6_dearest_0 : decode cX6_dearest 0 = .ok (.aload_n 0, 1) := by decide +kernel
theorem dX6_dearest_1 : decode cX6_dearest 1 = .ok (.iconst 0, 1) := by decide +kernel
theorem dX6_dearest_2 : decode cX6_dearest 2 = .ok (.putfield 53, 3) := by decide +kernel
theorem dX6_dearest_5 : decode cX6_dearest 5 = .ok (.aload_n 0, 1) := by decide +kernel
theorem dX6_dearest_6 : decode cX6_dearest 6 = .ok (.iload_n 1, 1) := by decide +kernel
theorem dX6_dearest_7 : decode cX6_dearest 7 = .ok (.iconst 0, 1) := by decide +kernel
theorem dX6_dearest_8 : decode cX6_dearest 8 = .ok (.aload_n 0, 1) := by decide +kernel
theorem dX6_dearest_9 : decode cX6_dearest 9 = .ok (.iconst 4, 1) := by decide +kernel
theorem dX6_dearest_10 : decode cX6_dearest 10 = .ok (.invokevirtual 206, 3) := by decide +kernel
theorem dX6_dearest_13 : decode cX6_dearest 13 = .ok (.iconst 1, 1) := by decide +kernel
theorem dX6_dearest_14 : decode cX6_dearest 14 = .ok (.isub, 1) := by decide +kernel
theorem dX6_dearest_15 : decode cX6_dearest 15 = .ok (.invokestatic 82, 3) := by decide +kernel
theorem dX6_dearest_18 : decode cX6_dearest 18 = .ok (.ifCond .ne 7, 3) := by decide +kernel
theorem dX6_dearest_21 : decode cX6_dearest 21 = .ok (.iconst 1, 1) := by decide +kernel
theorem dX6_dearest_22 : decode cX6_dearest 22 = .ok (.goto 4, 3) := by decide +kernel
theorem dX6_dearest_25 : decode cX6_dearest 25 = .ok (.iconst 0, 1) := by decide +kernel
theorem dX6_dearest_26 : decode cX6_dearest 26 = .ok (.iconst 1, 1) := by decide +kernel
theorem dX6_dearest_27 : decode cX6_dearest 27 = .ok (.invokevirtual 152, 3) := by decide +kernel
theorem dX6_dearest_30 : decode cX6_dearest 30 = .ok (.ifCond .eq 5, 3) := by decide +kernel
theorem dX6_dearest_33 : decode cX6_dearest 33 = .ok (.iconst 0, 1) := by decide +kernel
theorem dX6_dearest_34 : decode cX6_dearest 34 = .ok (.ireturn, 1) := by decide +kernel
theorem dX6_dearest_35 : decode cX6_dearest 35 = .ok (.iconst (-1), 1) := by decide +kernel
theorem dX6_dearest_36 : decode cX6_dearest 36 = .ok (.istore_n 2, 1) := by decide +kernel
theorem dX6_dearest_37 : decode cX6_dearest 37 = .ok (.iconst 0, 1) := by decide +kernel
theorem dX6_dearest_38 : decode cX6_dearest 38 = .ok (.istore_n 3, 1) := by decide +kernel
theorem dX6_dearest_39 : decode cX6_dearest 39 = .ok (.iload_n 3, 1) := by decide +kernel
theorem dX6_dearest_40 : decode cX6_dearest 40 = .ok (.iload_n 1, 1) := by decide +kernel
theorem dX6_dearest_41 : decode cX6_dearest 41 = .ok (.if_icmp .gt 15, 3) := by decide +kernel
theorem dX6_dearest_44 : decode cX6_dearest 44 = .ok (.aload_n 0, 1) := by decide +kernel
theorem dX6_dearest_45 : decode cX6_dearest 45 = .ok (.iload_n 2, 1) := by decide +kernel
theorem dX6_dearest_46 : decode cX6_dearest 46 = .ok (.invokevirtual 233, 3) := by decide +kernel
theorem dX6_dearest_49 : decode cX6_dearest 49 = .ok (.istore_n 2, 1) := by decide +kernel
theorem dX6_dearest_50 : decode cX6_dearest 50 = .ok (.iinc 3 1, 3) := by decide +kernel
theorem dX6_dearest_53 : decode cX6_dearest 53 = .ok (.goto (-14), 3) := by decide +kernel
theorem dX6_dearest_56 : decode cX6_dearest 56 = .ok (.iload_n 2, 1) := by decide +kernel
theorem dX6_dearest_57 : decode cX6_dearest 57 = .ok (.ireturn, 1) := by decide +kernel
set_option maxRecDepth 20000 in
theorem ggX6_nextDearest_X6_of : GoodIn wsX6_nextDearest wsX6_of := goodIn_r _ [6, 1, 7, 8, 5, 9, 10, 11, 12, 13, 14, 15, 16, 17, 18, 19, 20, 21, 22, 23, 24, 25, 26, 27, 28, 29, 30, 31] (by decide +kernel) (by decide +kernel)
set_option maxRecDepth 20000 in
theorem gX6_nextDearest_X6_of : GoodIn wsX6_nextDearest (wsV RX6 168 RX6 yX6_of wsX6_of) := goodIn_app (goodIn_of _ (by decide +kernel)) ggX6_nextDearest_X6_of
theorem dX6_nextDearest_0 : decode cX6_nextDearest 0 = .ok (.iconst (-1), 1) := by decide +kernel
theorem dX6_nextDearest_1 : decode cX6_nextDearest 1 = .ok (.istore_n 2, 1) := by decide +kernel
theorem dX6_nextDearest_2 : decode cX6_nextDearest 2 = .ok (.iconst 0, 1) := by decide +kernel
theorem dX6_nextDearest_3 : decode cX6_nextDearest 3 = .ok (.istore_n 3, 1) := by decide +kernel
theorem dX6_nextDearest_4 : decode cX6_nextDearest 4 = .ok (.iload_n 3, 1) := by decide +kernel
theorem dX6_nextDearest_5 : decode cX6_nextDearest 5 = .ok (.aload_n 0, 1) := by decide +kernel
theorem dX6_nextDearest_6 : decode cX6_nextDearest 6 = .ok (.getfield 17, 3) := by decide +kernel
theorem dX6_nextDearest_9 : decode cX6_nextDearest 9 = .ok (.iconst 1, 1) := by decide +kernel
theorem dX6_nextDearest_10 : decode cX6_nextDearest 10 = .ok (.iaload, 1) := by decide +kernel
theorem dX6_nextDearest_11 : decode cX6_nextDearest 11 = .ok (.if_icmp .ge 95, 3) := by decide +kernel
theorem dX6_nextDearest_14 : decode cX6_nextDearest 14 = .ok (.aload_n 0, 1) := by decide +kernel
theorem dX6_nextDearest_15 : decode cX6_nextDearest 15 = .ok (.iload_n 3, 1) := by decide +kernel
theorem dX6_nextDearest_16 : decode cX6_nextDearest 16 = .ok (.iconst 4, 1) := by decide +kernel
theorem dX6_nextDearest_17 : decode cX6_nextDearest 17 = .ok (.invokevirtual 168, 3) := by decide +kernel
theorem dX6_nextDearest_20 : decode cX6_nextDearest 20 = .ok (.ifCond .ne 6, 3) := by decide +kernel
theorem dX6_nextDearest_23 : decode cX6_nextDearest 23 = .ok (.goto 77, 3) := by decide +kernel
theorem dX6_nextDearest_26 : decode cX6_nextDearest 26 = .ok (.iload_n 1, 1) := by decide +kernel
theorem dX6_nextDearest_27 : decode cX6_nextDearest 27 = .ok (.iconst (-1), 1) := by decide +kernel
theorem dX6_nextDearest_28 : decode cX6_nextDearest 28 = .ok (.if_icmp .eq 38, 3) := by decide +kernel
theorem dX6_nextDearest_31 : decode cX6_nextDearest 31 = .ok (.aload_n 0, 1) := by decide +kernel
theorem dX6_nextDearest_32 : decode cX6_nextDearest 32 = .ok (.iload_n 3, 1) := by decide +kernel
theorem dX6_nextDearest_33 : decode cX6_nextDearest 33 = .ok (.iconst 1, 1) := by decide +kernel
theorem dX6_nextDearest_34 : decode cX6_nextDearest 34 = .ok (.invokevirtual 168, 3) := by decide +kernel
theorem dX6_nextDearest_37 : decode cX6_nextDearest 37 = .ok (.aload_n 0, 1) := by decide +kernel
theorem dX6_nextDearest_38 : decode cX6_nextDearest 38 = .ok (.iload_n 1, 1) := by decide +kernel
theorem dX6_nextDearest_39 : decode cX6_nextDearest 39 = .ok (.iconst 1, 1) := by decide +kernel
theorem dX6_nextDearest_40 : decode cX6_nextDearest 40 = .ok (.invokevirtual 168, 3) := by decide +kernel
theorem dX6_nextDearest_43 : decode cX6_nextDearest 43 = .ok (.if_icmp .lt 23, 3) := by decide +kernel
theorem dX6_nextDearest_46 : decode cX6_nextDearest 46 = .ok (.aload_n 0, 1) := by decide +kernel
theorem dX6_nextDearest_47 : decode cX6_nextDearest 47 = .ok (.iload_n 3, 1) := by decide +kernel
theorem dX6_nextDearest_48 : decode cX6_nextDearest 48 = .ok (.iconst 1, 1) := by decide +kernel
theorem dX6_nextDearest_49 : decode cX6_nextDearest 49 = .ok (.invokevirtual 168, 3) := by decide +kernel
theorem dX6_nextDearest_52 : decode cX6_nextDearest 52 = .ok (.aload_n 0, 1) := by decide +kernel
theorem dX6_nextDearest_53 : decode cX6_nextDearest 53 = .ok (.iload_n 1, 1) := by decide +kernel
theorem dX6_nextDearest_54 : decode cX6_nextDearest 54 = .ok (.iconst 1, 1) := by decide +kernel
theorem dX6_nextDearest_55 : decode cX6_nextDearest 55 = .ok (.invokevirtual 168, 3) := by decide +kernel
theorem dX6_nextDearest_58 : decode cX6_nextDearest 58 = .ok (.if_icmp .ne 12, 3) := by decide +kernel
theorem dX6_nextDearest_61 : decode cX6_nextDearest 61 = .ok (.iload_n 3, 1) := by decide +kernel
theorem dX6_nextDearest_62 : decode cX6_nextDearest 62 = .ok (.iload_n 1, 1) := by decide +kernel
theorem dX6_nextDearest_63 : decode cX6_nextDearest 63 = .ok (.if_icmp .le 7, 3) := by decide +kernel
theorem dX6_nextDearest_66 : decode cX6_nextDearest 66 = .ok (.iconst 1, 1) := by decide +kernel
theorem dX6_nextDearest_67 : decode cX6_nextDearest 67 = .ok (.goto 4, 3) := by decide +kernel
theorem dX6_nextDearest_70 : decode cX6_nextDearest 70 = .ok (.iconst 0, 1) := by decide +kernel
theorem dX6_nextDearest_71 : decode cX6_nextDearest 71 = .ok (.istore 4, 2) := by decide +kernel
theorem dX6_nextDearest_73 : decode cX6_nextDearest 73 = .ok (.iload 4, 2) := by decide +kernel
theorem dX6_nextDearest_75 : decode cX6_nextDearest 75 = .ok (.ifCond .eq 25, 3) := by decide +kernel
theorem dX6_nextDearest_78 : decode cX6_nextDearest 78 = .ok (.iload_n 2, 1) := by decide +kernel
theorem dX6_nextDearest_79 : decode cX6_nextDearest 79 = .ok (.iconst (-1), 1) := by decide +kernel
theorem dX6_nextDearest_80 : decode cX6_nextDearest 80 = .ok (.if_icmp .eq 18, 3) := by decide +kernel
theorem dX6_nextDearest_83 : decode cX6_nextDearest 83 = .ok (.aload_n 0, 1) := by decide +kernel
theorem dX6_nextDearest_84 : decode cX6_nextDearest 84 = .ok (.iload_n 3, 1) := by decide +kernel
theorem dX6_nextDearest_85 : decode cX6_nextDearest 85 = .ok (.iconst 1, 1) := by decide +kernel
theorem dX6_nextDearest_86 : decode cX6_nextDearest 86 = .ok (.invokevirtual 168, 3) := by decide +kernel
theorem dX6_nextDearest_89 : decode cX6_nextDearest 89 = .ok (.aload_n 0, 1) := by decide +kernel
theorem dX6_nextDearest_90 : decode cX6_nextDearest 90 = .ok (.iload_n 2, 1) := by decide +kernel
theorem dX6_nextDearest_91 : decode cX6_nextDearest 91 = .ok (.iconst 1, 1) := by decide +kernel
theorem dX6_nextDearest_92 : decode cX6_nextDearest 92 = .ok (.invokevirtual 168, 3) := by decide +kernel
theorem dX6_nextDearest_95 : decode cX6_nextDearest 95 = .ok (.if_icmp .le 5, 3) := by decide +kernel
theorem dX6_nextDearest_98 : decode cX6_nextDearest 98 = .ok (.iload_n 3, 1) := by decide +kernel
theorem dX6_nextDearest_99 : decode cX6_nextDearest 99 = .ok (.istore_n 2, 1) := by decide +kernel
theorem dX6_nextDearest_100 : decode cX6_nextDearest 100 = .ok (.iinc 3 1, 3) := by decide +kernel
theorem dX6_nextDearest_103 : decode cX6_nextDearest 103 = .ok (.goto (-99), 3) := by decide +kernel
theorem dX6_nextDearest_106 : decode cX6_nextDearest 106 = .ok (.iload_n 2, 1) := by decide +kernel
theorem dX6_nextDearest_107 : decode cX6_nextDearest 107 = .ok (.ireturn, 1) := by decide +kernel
set_option maxRecDepth 20000 in
theorem ggX6_seller_X6_in : GoodIn wsX6_seller wsX6_in := goodIn_r _ [6] (by decide +kernel) (by decide +kernel)
set_option maxRecDepth 20000 in
theorem gX6_seller_X6_in : GoodIn wsX6_seller (va_wsS RX6 82 yX6_in wsX6_in) := goodIn_app (goodIn_of _ (by decide +kernel)) ggX6_seller_X6_in
set_option maxRecDepth 20000 in
theorem ggX6_seller_X6_fails : GoodIn wsX6_seller wsX6_fails := goodIn_r _ [10, 1, 18, 19, 20, 21, 22, 23, 24, 25, 26, 27, 28, 29, 30, 31, 32, 33, 34, 35, 36, 37, 38, 39] (by decide +kernel) (by decide +kernel)
set_option maxRecDepth 20000 in
theorem gX6_seller_X6_fails : GoodIn wsX6_seller (wsV RX6 152 RX6 yX6_fails wsX6_fails) := goodIn_app (goodIn_of _ (by decide +kernel)) ggX6_seller_X6_fails
set_option maxRecDepth 20000 in
theorem ggX6_seller_X6_of : GoodIn wsX6_seller wsX6_of := goodIn_r _ [14, 2, 15, 16, 5, 17, 18, 19, 20, 21, 22, 23, 24, 25, 26, 27, 28, 29, 30, 31, 32, 33, 34, 35, 36, 37, 38, 39] (by decide +kernel) (by decide +kernel)
set_option maxRecDepth 20000 in
theorem gX6_seller_X6_of : GoodIn wsX6_seller (wsV RX6 168 RX6 yX6_of wsX6_of) := goodIn_app (goodIn_of _ (by decide +kernel)) ggX6_seller_X6_of
theorem dX6_seller_0 : decode cX6_seller 0 = .ok (.aload_n 0, 1) := by decide +kernel
theorem dX6_seller_1 : decode cX6_seller 1 = .ok (.iconst 0, 1) := by decide +kernel
theorem dX6_seller_2 : decode cX6_seller 2 = .ok (.putfield 53, 3) := by decide +kernel
theorem dX6_seller_5 : decode cX6_seller 5 = .ok (.aload_n 0, 1) := by decide +kernel
theorem dX6_seller_6 : decode cX6_seller 6 = .ok (.iload_n 1, 1) := by decide +kernel
theorem dX6_seller_7 : decode cX6_seller 7 = .ok (.iconst 0, 1) := by decide +kernel
theorem dX6_seller_8 : decode cX6_seller 8 = .ok (.bipush 9, 2) := by decide +kernel
theorem dX6_seller_10 : decode cX6_seller 10 = .ok (.invokestatic 82, 3) := by decide +kernel
theorem dX6_seller_13 : decode cX6_seller 13 = .ok (.ifCond .eq 12, 3) := by decide +kernel
theorem dX6_seller_16 : decode cX6_seller 16 = .ok (.iload_n 2, 1) := by decide +kernel
theorem dX6_seller_17 : decode cX6_seller 17 = .ok (.iconst 0, 1) := by decide +kernel
theorem dX6_seller_18 : decode cX6_seller 18 = .ok (.iconst 2, 1) := by decide +kernel
theorem dX6_seller_19 : decode cX6_seller 19 = .ok (.invokestatic 82, 3) := by decide +kernel
theorem dX6_seller_22 : decode cX6_seller 22 = .ok (.ifCond .ne 7, 3) := by decide +kernel
theorem dX6_seller_25 : decode cX6_seller 25 = .ok (.iconst 1, 1) := by decide +kernel
theorem dX6_seller_26 : decode cX6_seller 26 = .ok (.goto 4, 3) := by decide +kernel
theorem dX6_seller_29 : decode cX6_seller 29 = .ok (.iconst 0, 1) := by decide +kernel
theorem dX6_seller_30 : decode cX6_seller 30 = .ok (.iconst 1, 1) := by decide +kernel
theorem dX6_seller_31 : decode cX6_seller 31 = .ok (.invokevirtual 152, 3) := by decide +kernel
theorem dX6_seller_34 : decode cX6_seller 34 = .ok (.ifCond .eq 5, 3) := by decide +kernel
theorem dX6_seller_37 : decode cX6_seller 37 = .ok (.iconst 0, 1) := by decide +kernel
theorem dX6_seller_38 : decode cX6_seller 38 = .ok (.ireturn, 1) := by decide +kernel
theorem dX6_seller_39 : decode cX6_seller 39 = .ok (.iconst 0, 1) := by decide +kernel
theorem dX6_seller_40 : decode cX6_seller 40 = .ok (.istore_n 3, 1) := by decide +kernel
theorem dX6_seller_41 : decode cX6_seller 41 = .ok (.iconst 0, 1) := by decide +kernel
theorem dX6_seller_42 : decode cX6_seller 42 = .ok (.istore 4, 2) := by decide +kernel
theorem dX6_seller_44 : decode cX6_seller 44 = .ok (.iload 4, 2) := by decide +kernel
theorem dX6_seller_46 : decode cX6_seller 46 = .ok (.aload_n 0, 1) := by decide +kernel
theorem dX6_seller_47 : decode cX6_seller 47 = .ok (.getfield 17, 3) := by decide +kernel
theorem dX6_seller_50 : decode cX6_seller 50 = .ok (.iconst 1, 1) := by decide +kernel
theorem dX6_seller_51 : decode cX6_seller 51 = .ok (.iaload, 1) := by decide +kernel
theorem dX6_seller_52 : decode cX6_seller 52 = .ok (.if_icmp .ge 78, 3) := by decide +kernel
theorem dX6_seller_55 : decode cX6_seller 55 = .ok (.aload_n 0, 1) := by decide +kernel
theorem dX6_seller_56 : decode cX6_seller 56 = .ok (.iload 4, 2) := by decide +kernel
theorem dX6_seller_58 : decode cX6_seller 58 = .ok (.iconst 2, 1) := by decide +kernel
theorem dX6_seller_59 : decode cX6_seller 59 = .ok (.invokevirtual 168, 3) := by decide +kernel
theorem dX6_seller_62 : decode cX6_seller 62 = .ok (.iload_n 1, 1) := by decide +kernel
theorem dX6_seller_63 : decode cX6_seller 63 = .ok (.if_icmp .eq 6, 3) := by decide +kernel
theorem dX6_seller_66 : decode cX6_seller 66 = .ok (.goto 58, 3) := by decide +kernel
theorem dX6_seller_69 : decode cX6_seller 69 = .ok (.iload_n 3, 1) := by decide +kernel
theorem dX6_seller_70 : decode cX6_seller 70 = .ok (.iload_n 2, 1) := by decide +kernel
theorem dX6_seller_71 : decode cX6_seller 71 = .ok (.ifCond .ne 13, 3) := by decide +kernel
theorem dX6_seller_74 : decode cX6_seller 74 = .ok (.aload_n 0, 1) := by decide +kernel
theorem dX6_seller_75 : decode cX6_seller 75 = .ok (.iload 4, 2) := by decide +kernel
theorem dX6_seller_77 : decode cX6_seller 77 = .ok (.iconst 4, 1) := by decide +kernel
theorem dX6_seller_78 : decode cX6_seller 78 = .ok (.invokevirtual 168, 3) := by decide +kernel
theorem dX6_seller_81 : decode cX6_seller 81 = .ok (.goto 41, 3) := by decide +kernel
theorem dX6_seller_84 : decode cX6_seller 84 = .ok (.iload_n 2, 1) := by decide +kernel
theorem dX6_seller_85 : decode cX6_seller 85 = .ok (.iconst 1, 1) := by decide +kernel
theorem dX6_seller_86 : decode cX6_seller 86 = .ok (.if_icmp .ne 21, 3) := by decide +kernel
theorem dX6_seller_89 : decode cX6_seller 89 = .ok (.aload_n 0, 1) := by decide +kernel
theorem dX6_seller_90 : decode cX6_seller 90 = .ok (.iload 4, 2) := by decide +kernel
theorem dX6_seller_92 : decode cX6_seller 92 = .ok (.iconst 4, 1) := by decide +kernel
theorem dX6_seller_93 : decode cX6_seller 93 = .ok (.invokevirtual 168, 3) := by decide +kernel
theorem dX6_seller_96 : decode cX6_seller 96 = .ok (.aload_n 0, 1) := by decide +kernel
theorem dX6_seller_97 : decode cX6_seller 97 = .ok (.iload 4, 2) := by decide +kernel
theorem dX6_seller_99 : decode cX6_seller 99 = .ok (.iconst 1, 1) := by decide +kernel
theorem dX6_seller_100 : decode cX6_seller 100 = .ok (.invokevirtual 168, 3) := by decide +kernel
theorem dX6_seller_103 : decode cX6_seller 103 = .ok (.imul, 1) := by decide +kernel
theorem dX6_seller_104 : decode cX6_seller 104 = .ok (.goto 18, 3) := by decide +kernel
theorem dX6_seller_107 : decode cX6_seller 107 = .ok (.aload_n 0, 1) := by decide +kernel
theorem dX6_seller_108 : decode cX6_seller 108 = .ok (.iload 4, 2) := by decide +kernel
theorem dX6_seller_110 : decode cX6_seller 110 = .ok (.iconst 3, 1) := by decide +kernel
theorem dX6_seller_111 : decode cX6_seller 111 = .ok (.invokevirtual 168, 3) := by decide +kernel
theorem dX6_seller_114 : decode cX6_seller 114 = .ok (.aload_n 0, 1) := by decide +kernel
theorem dX6_seller_115 : decode cX6_seller 115 = .ok (.iload 4, 2) := by decide +kernel
theorem dX6_seller_117 : decode cX6_seller 117 = .ok (.iconst 0, 1) := by decide +kernel
theorem dX6_seller_118 : decode cX6_seller 118 = .ok (.invokevirtual 168, 3) := by decide +kernel
theorem dX6_seller_121 : decode cX6_seller 121 = .ok (.imul, 1) := by decide +kernel
theorem dX6_seller_122 : decode cX6_seller 122 = .ok (.iadd, 1) := by decide +kernel
theorem dX6_seller_123 : decode cX6_seller 123 = .ok (.istore_n 3, 1) := by decide +kernel
theorem dX6_seller_124 : decode cX6_seller 124 = .ok (.iinc 4 1, 3) := by decide +kernel
theorem dX6_seller_127 : decode cX6_seller 127 = .ok (.goto (-83), 3) := by decide +kernel
theorem dX6_seller_130 : decode cX6_seller 130 = .ok (.iload_n 3, 1) := by decide +kernel
theorem dX6_seller_131 : decode cX6_seller 131 = .ok (.ireturn, 1) := by decide +kernel
set_option maxRecDepth 20000 in
theorem ggX6_through_X6_printedLines : GoodIn wsX6_through wsX6_printedLines := goodIn_r _ [6, 7, 8, 9, 10, 5, 11, 12, 13, 14, 26, 27, 28, 29, 30, 31, 32, 33, 34, 35, 36, 37, 38, 39, 40, 41, 42, 43, 44, 45, 46, 47] (by decide +kernel) (by decide +kernel)
set_option maxRecDepth 20000 in
theorem gX6_through_X6_printedLines : GoodIn wsX6_through (wsV RX6 236 RX6 yX6_printedLines wsX6_printedLines) := goodIn_app (goodIn_of _ (by decide +kernel)) ggX6_through_X6_printedLines
set_option maxRecDepth 20000 in
theorem ggX6_through_X6_in : GoodIn wsX6_through wsX6_in := goodIn_r _ [17] (by decide +kernel) (by decide +kernel)
set_option maxRecDepth 20000 in
theorem gX6_through_X6_in : GoodIn wsX6_through (va_wsS RX6 82 yX6_in wsX6_in) := goodIn_app (goodIn_of _ (by decide +kernel)) ggX6_through_X6_in
set_option maxRecDepth 20000 in
theorem ggX6_through_X6_fails : GoodIn wsX6_through wsX6_fails := goodIn_r _ [21, 1, 26, 27, 28, 29, 30, 31, 32, 33, 34, 35, 36, 37, 38, 39, 40, 41, 42, 43, 44, 45, 46, 47] (by decide +kernel) (by decide +kernel)
set_option maxRecDepth 20000 in
theorem gX6_through_X6_fails : GoodIn wsX6_through (wsV RX6 152 RX6 yX6_fails wsX6_fails) := goodIn_app (goodIn_of _ (by decide +kernel)) ggX6_through_X6_fails
set_option maxRecDepth 20000 in
theorem ggX6_through_X6_isPrinted : GoodIn wsX6_through wsX6_isPrinted := goodIn_r _ [25, 8, 9, 10, 5, 11, 7, 12, 13, 14, 26, 27, 28, 29, 30, 31, 32, 33, 34, 35, 36, 37, 38, 39, 40, 41, 42, 43, 44, 45, 46, 47] (by decide +kernel) (by decide +kernel)
set_option maxRecDepth 20000 in
theorem gX6_through_X6_isPrinted : GoodIn wsX6_through (wsV RX6 174 RX6 yX6_isPrinted wsX6_isPrinted) := goodIn_app (goodIn_of _ (by decide +kernel)) ggX6_through_X6_isPrinted
set_option maxRecDepth 20000 in
theorem ggX6_through_X6_of : GoodIn wsX6_through wsX6_of := goodIn_r _ [11, 7, 12, 13, 5, 14, 26, 27, 28, 29, 30, 31, 32, 33, 34, 35, 36, 37, 38, 39, 40, 41, 42, 43, 44, 45, 46, 47] (by decide +kernel) (by decide +kernel)
set_option maxRecDepth 20000 in
theorem gX6_through_X6_of : GoodIn wsX6_through (wsV RX6 168 RX6 yX6_of wsX6_of) := goodIn_app (goodIn_of _ (by decide +kernel)) ggX6_through_X6_of
theorem dX6_through_0 : decode cX6_through 0 = .ok (.aload_n 0, 1) := by decide +kernel
theorem dX6_through_1 : decode cX6_through 1 = .ok (.iconst 0, 1) := by decide +kernel
theorem dX6_through_2 : decode cX6_through 2 = .ok (.putfield 53, 3) := by decide +kernel
theorem dX6_through_5 : decode cX6_through 5 = .ok (.aload_n 0, 1) := by decide +kernel
theorem dX6_through_6 : decode cX6_through 6 = .ok (.iload_n 1, 1) := by decide +kernel
theorem dX6_through_7 : decode cX6_through 7 = .ok (.iconst 0, 1) := by decide +kernel
theorem dX6_through_8 : decode cX6_through 8 = .ok (.aload_n 0, 1) := by decide +kernel
theorem dX6_through_9 : decode cX6_through 9 = .ok (.invokevirtual 236, 3) := by decide +kernel
theorem dX6_through_12 : decode cX6_through 12 = .ok (.iconst 1, 1) := by decide +kernel
theorem dX6_through_13 : decode cX6_through 13 = .ok (.isub, 1) := by decide +kernel
theorem dX6_through_14 : decode cX6_through 14 = .ok (.invokestatic 82, 3) := by decide +kernel
theorem dX6_through_17 : decode cX6_through 17 = .ok (.ifCond .ne 7, 3) := by decide +kernel
theorem dX6_through_20 : decode cX6_through 20 = .ok (.iconst 1, 1) := by decide +kernel
theorem dX6_through_21 : decode cX6_through 21 = .ok (.goto 4, 3) := by decide +kernel
theorem dX6_through_24 : decode cX6_through 24 = .ok (.iconst 0, 1) := by decide +kernel
theorem dX6_through_25 : decode cX6_through 25 = .ok (.iconst 1, 1) := by decide +kernel
theorem dX6_through_26 : decode cX6_through 26 = .ok (.invokevirtual 152, 3) := by decide +kernel
theorem dX6_through_29 : decode cX6_through 29 = .ok (.ifCond .eq 5, 3) := by decide +kernel
theorem dX6_through_32 : decode cX6_through 32 = .ok (.iconst 0, 1) := by decide +kernel
theorem dX6_through_33 : decode cX6_through 33 = .ok (.ireturn, 1) := by decide +kernel
theorem dX6_through_34 : decode cX6_through 34 = .ok (.iload_n 1, 1) := by decide +kernel
theorem dX6_through_35 : decode cX6_through 35 = .ok (.istore_n 2, 1) := by decide +kernel
theorem dX6_through_36 : decode cX6_through 36 = .ok (.iconst 0, 1) := by decide +kernel
theorem dX6_through_37 : decode cX6_through 37 = .ok (.istore_n 3, 1) := by decide +kernel
theorem dX6_through_38 : decode cX6_through 38 = .ok (.aload_n 0, 1) := by decide +kernel
theorem dX6_through_39 : decode cX6_through 39 = .ok (.iload_n 3, 1) := by decide +kernel
theorem dX6_through_40 : decode cX6_through 40 = .ok (.invokevirtual 174, 3) := by decide +kernel
theorem dX6_through_43 : decode cX6_through 43 = .ok (.ifCond .eq 13, 3) := by decide +kernel
theorem dX6_through_46 : decode cX6_through 46 = .ok (.iload_n 2, 1) := by decide +kernel
theorem dX6_through_47 : decode cX6_through 47 = .ok (.aload_n 0, 1) := by decide +kernel
theorem dX6_through_48 : decode cX6_through 48 = .ok (.iload_n 3, 1) := by decide +kernel
theorem dX6_through_49 : decode cX6_through 49 = .ok (.iconst 0, 1) := by decide +kernel
theorem dX6_through_50 : decode cX6_through 50 = .ok (.invokevirtual 168, 3) := by decide +kernel
theorem dX6_through_53 : decode cX6_through 53 = .ok (.if_icmp .lt 25, 3) := by decide +kernel
theorem dX6_through_56 : decode cX6_through 56 = .ok (.iload_n 2, 1) := by decide +kernel
theorem dX6_through_57 : decode cX6_through 57 = .ok (.aload_n 0, 1) := by decide +kernel
theorem dX6_through_58 : decode cX6_through 58 = .ok (.iload_n 3, 1) := by decide +kernel
theorem dX6_through_59 : decode cX6_through 59 = .ok (.iconst 3, 1) := by decide +kernel
theorem dX6_through_60 : decode cX6_through 60 = .ok (.invokevirtual 168, 3) := by decide +kernel
