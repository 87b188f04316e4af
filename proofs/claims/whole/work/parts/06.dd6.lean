set_option maxRecDepth 20000 in
theorem ggX6_init_X6_layBill : GoodIn wsX6_init wsX6_layBill := goodIn_r _ [21] (by decide +kernel) (by decide +kernel)
set_option maxRecDepth 20000 in
theorem gX6_init_X6_layBill : GoodIn wsX6_init (va_wsS RX6 49 yX6_layBill wsX6_layBill) := goodIn_app (goodIn_of _ (by decide +kernel)) ggX6_init_X6_layBill
theorem dX6_init_0 : decode cX6_init 0 = .ok (.aload_n 0, 1) := by decide +kernel
theorem dX6_init_1 : decode cX6_init 1 = .ok (.invokespecial 3, 3) := by decide +kernel
theorem dX6_init_4 : decode cX6_init 4 = .ok (.aload_n 0, 1) := by decide +kernel
theorem dX6_init_5 : decode cX6_init 5 = .ok (.sipush 500, 3) := by decide +kernel
theorem dX6_init_8 : decode cX6_init 8 = .ok (.newarray .int, 2) := by decide +kernel
theorem dX6_init_10 : decode cX6_init 10 = .ok (.putfield 9, 3) := by decide +kernel
theorem dX6_init_13 : decode cX6_init 13 = .ok (.aload_n 0, 1) := by decide +kernel
theorem dX6_init_14 : decode cX6_init 14 = .ok (.iconst (-1), 1) := by decide +kernel
theorem dX6_init_15 : decode cX6_init 15 = .ok (.putfield 13, 3) := by decide +kernel
theorem dX6_init_18 : decode cX6_init 18 = .ok (.aload_n 0, 1) := by decide +kernel
theorem dX6_init_19 : decode cX6_init 19 = .ok (.sipush 153, 3) := by decide +kernel
theorem dX6_init_22 : decode cX6_init 22 = .ok (.newarray .int, 2) := by decide +kernel
theorem dX6_init_24 : decode cX6_init 24 = .ok (.putfield 17, 3) := by decide +kernel
theorem dX6_init_27 : decode cX6_init 27 = .ok (.aload_n 0, 1) := by decide +kernel
theorem dX6_init_28 : decode cX6_init 28 = .ok (.sipush 153, 3) := by decide +kernel
theorem dX6_init_31 : decode cX6_init 31 = .ok (.newarray .int, 2) := by decide +kernel
theorem dX6_init_33 : decode cX6_init 33 = .ok (.putfield 20, 3) := by decide +kernel
theorem dX6_init_36 : decode cX6_init 36 = .ok (.aload_n 0, 1) := by decide +kernel
theorem dX6_init_37 : decode cX6_init 37 = .ok (.bipush 8, 2) := by decide +kernel
theorem dX6_init_39 : decode cX6_init 39 = .ok (.sipush 153, 3) := by decide +kernel
theorem dX6_init_42 : decode cX6_init 42 = .ok (.multianewarray 23 2, 4) := by decide +kernel
theorem dX6_init_46 : decode cX6_init 46 = .ok (.putfield 25, 3) := by decide +kernel
theorem dX6_init_49 : decode cX6_init 49 = .ok (.aload_n 0, 1) := by decide +kernel
theorem dX6_init_50 : decode cX6_init 50 = .ok (.bipush 24, 2) := by decide +kernel
theorem dX6_init_52 : decode cX6_init 52 = .ok (.newarray .int, 2) := by decide +kernel
theorem dX6_init_54 : decode cX6_init 54 = .ok (.putfield 28, 3) := by decide +kernel
theorem dX6_init_57 : decode cX6_init 57 = .ok (.aload_n 0, 1) := by decide +kernel
theorem dX6_init_58 : decode cX6_init 58 = .ok (.bipush 24, 2) := by decide +kernel
theorem dX6_init_60 : decode cX6_init 60 = .ok (.newarray .int, 2) := by decide +kernel
theorem dX6_init_62 : decode cX6_init 62 = .ok (.putfield 31, 3) := by decide +kernel
theorem dX6_init_65 : decode cX6_init 65 = .ok (.aload_n 0, 1) := by decide +kernel
theorem dX6_init_66 : decode cX6_init 66 = .ok (.bipush 24, 2) := by decide +kernel
theorem dX6_init_68 : decode cX6_init 68 = .ok (.newarray .int, 2) := by decide +kernel
theorem dX6_init_70 : decode cX6_init 70 = .ok (.putfield 34, 3) := by decide +kernel
theorem dX6_init_73 : decode cX6_init 73 = .ok (.aload_n 0, 1) := by decide +kernel
theorem dX6_init_74 : decode cX6_init 74 = .ok (.sipush 960, 3) := by decide +kernel
theorem dX6_init_77 : decode cX6_init 77 = .ok (.newarray .int, 2) := by decide +kernel
theorem dX6_init_79 : decode cX6_init 79 = .ok (.putfield 37, 3) := by decide +kernel
theorem dX6_init_82 : decode cX6_init 82 = .ok (.aload_n 0, 1) := by decide +kernel
theorem dX6_init_83 : decode cX6_init 83 = .ok (.sipush 960, 3) := by decide +kernel
theorem dX6_init_86 : decode cX6_init 86 = .ok (.newarray .int, 2) := by decide +kernel
theorem dX6_init_88 : decode cX6_init 88 = .ok (.putfield 40, 3) := by decide +kernel
theorem dX6_init_91 : decode cX6_init 91 = .ok (.aload_n 0, 1) := by decide +kernel
theorem dX6_init_92 : decode cX6_init 92 = .ok (.bipush 7, 2) := by decide +kernel
theorem dX6_init_94 : decode cX6_init 94 = .ok (.newarray .int, 2) := by decide +kernel
theorem dX6_init_96 : decode cX6_init 96 = .ok (.putfield 43, 3) := by decide +kernel
theorem dX6_init_99 : decode cX6_init 99 = .ok (.aload_n 0, 1) := by decide +kernel
theorem dX6_init_100 : decode cX6_init 100 = .ok (.bipush 24, 2) := by decide +kernel
theorem dX6_init_102 : decode cX6_init 102 = .ok (.newarray .int, 2) := by decide +kernel
theorem dX6_init_104 : decode cX6_init 104 = .ok (.putfield 46, 3) := by decide +kernel
theorem dX6_init_107 : decode cX6_init 107 = .ok (.aload_n 0, 1) := by decide +kernel
theorem dX6_init_108 : decode cX6_init 108 = .ok (.getfield 17, 3) := by decide +kernel
theorem dX6_init_111 : decode cX6_init 111 = .ok (.bipush 20, 2) := by decide +kernel
theorem dX6_init_113 : decode cX6_init 113 = .ok (.invokestatic 49, 3) := by decide +kernel
theorem dX6_init_116 : decode cX6_init 116 = .ok (.return_, 1) := by decide +kernel
theorem dX6_thrown_0 : decode cX6_thrown 0 = .ok (.aload_n 0, 1) := by decide +kernel
theorem dX6_thrown_1 : decode cX6_thrown 1 = .ok (.getfield 53, 3) := by decide +kernel
theorem dX6_thrown_4 : decode cX6_thrown 4 = .ok (.ireturn, 1) := by decide +kernel
theorem dX6_fails_0 : decode cX6_fails 0 = .ok (.iload_n 1, 1) := by decide +kernel
theorem dX6_fails_1 : decode cX6_fails 1 = .ok (.ifCond .eq 15, 3) := by decide +kernel
theorem dX6_fails_4 : decode cX6_fails 4 = .ok (.aload_n 0, 1) := by decide +kernel
theorem dX6_fails_5 : decode cX6_fails 5 = .ok (.getfield 53, 3) := by decide +kernel
theorem dX6_fails_8 : decode cX6_fails 8 = .ok (.ifCond .ne 8, 3) := by decide +kernel
theorem dX6_fails_11 : decode cX6_fails 11 = .ok (.aload_n 0, 1) := by decide +kernel
theorem dX6_fails_12 : decode cX6_fails 12 = .ok (.iload_n 2, 1) := by decide +kernel
theorem dX6_fails_13 : decode cX6_fails 13 = .ok (.putfield 53, 3) := by decide +kernel
theorem dX6_fails_16 : decode cX6_fails 16 = .ok (.aload_n 0, 1) := by decide +kernel
theorem dX6_fails_17 : decode cX6_fails 17 = .ok (.getfield 53, 3) := by decide +kernel
theorem dX6_fails_20 : decode cX6_fails 20 = .ok (.ifCond .eq 7, 3) := by decide +kernel
theorem dX6_fails_23 : decode cX6_fails 23 = .ok (.iconst 1, 1) := by decide +kernel
theorem dX6_fails_24 : decode cX6_fails 24 = .ok (.goto 4, 3) := by decide +kernel
theorem dX6_fails_27 : decode cX6_fails 27 = .ok (.iconst 0, 1) := by decide +kernel
theorem dX6_fails_28 : decode cX6_fails 28 = .ok (.ireturn, 1) := by decide +kernel
theorem dX6_in_0 : decode cX6_in 0 = .ok (.iload_n 0, 1) := by decide +kernel
theorem dX6_in_1 : decode cX6_in 1 = .ok (.iload_n 1, 1) := by decide +kernel
theorem dX6_in_2 : decode cX6_in 2 = .ok (.if_icmp .lt 12, 3) := by decide +kernel
theorem dX6_in_5 : decode cX6_in 5 = .ok (.iload_n 0, 1) := by decide +kernel
theorem dX6_in_6 : decode cX6_in 6 = .ok (.iload_n 2, 1) := by decide +kernel
theorem dX6_in_7 : decode cX6_in 7 = .ok (.if_icmp .gt 7, 3) := by decide +kernel
theorem dX6_in_10 : decode cX6_in 10 = .ok (.iconst 1, 1) := by decide +kernel
theorem dX6_in_11 : decode cX6_in 11 = .ok (.goto 4, 3) := by decide +kernel
theorem dX6_in_14 : decode cX6_in 14 = .ok (.iconst 0, 1) := by decide +kernel
theorem dX6_in_15 : decode cX6_in 15 = .ok (.ireturn, 1) := by decide +kernel
theorem dX6_min_0 : decode cX6_min 0 = .ok (.iload_n 0, 1) := by decide +kernel
theorem dX6_min_1 : decode cX6_min 1 = .ok (.iload_n 1, 1) := by decide +kernel
theorem dX6_min_2 : decode cX6_min 2 = .ok (.if_icmp .ge 7, 3) := by decide +kernel
theorem dX6_min_5 : decode cX6_min 5 = .ok (.iload_n 0, 1) := by decide +kernel
theorem dX6_min_6 : decode cX6_min 6 = .ok (.goto 4, 3) := by decide +kernel
theorem dX6_min_9 : decode cX6_min 9 = .ok (.iload_n 1, 1) := by decide +kernel
theorem dX6_min_10 : decode cX6_min 10 = .ok (.ireturn, 1) := by decide +kernel
theorem dX6_copy_0 : decode cX6_copy 0 = .ok (.iconst 0, 1) := by decide +kernel
theorem dX6_copy_1 : decode cX6_copy 1 = .ok (.istore_n 2, 1) := by decide +kernel
theorem dX6_copy_2 : decode cX6_copy 2 = .ok (.iload_n 2, 1) := by decide +kernel
theorem dX6_copy_3 : decode cX6_copy 3 = .ok (.sipush 153, 3) := by decide +kernel
theorem dX6_copy_6 : decode cX6_copy 6 = .ok (.if_icmp .ge 15, 3) := by decide +kernel
theorem dX6_copy_9 : decode cX6_copy 9 = .ok (.aload_n 1, 1) := by decide +kernel
theorem dX6_copy_10 : decode cX6_copy 10 = .ok (.iload_n 2, 1) := by decide +kernel
theorem dX6_copy_11 : decode cX6_copy 11 = .ok (.aload_n 0, 1) := by decide +kernel
theorem dX6_copy_12 : decode cX6_copy 12 = .ok (.iload_n 2, 1) := by decide +kernel
theorem dX6_copy_13 : decode cX6_copy 13 = .ok (.iaload, 1) := by decide +kernel
theorem dX6_copy_14 : decode cX6_copy 14 = .ok (.iastore, 1) := by decide +kernel
theorem dX6_copy_15 : decode cX6_copy 15 = .ok (.iinc 2 1, 3) := by decide +kernel
theorem dX6_copy_18 : decode cX6_copy 18 = .ok (.goto (-16), 3) := by decide +kernel
theorem dX6_copy_21 : decode cX6_copy 21 = .ok (.return_, 1) := by decide +kernel
theorem dX6_layBill_0 : decode cX6_layBill 0 = .ok (.iconst 0, 1) := by decide +kernel
theorem dX6_layBill_1 : decode cX6_layBill 1 = .ok (.istore_n 2, 1) := by decide +kernel
theorem dX6_layBill_2 : decode cX6_layBill 2 = .ok (.iload_n 2, 1) := by decide +kernel
theorem dX6_layBill_3 : decode cX6_layBill 3 = .ok (.sipush 153, 3) := by decide +kernel
theorem dX6_layBill_6 : decode cX6_layBill 6 = .ok (.if_icmp .ge 13, 3) := by decide +kernel
theorem dX6_layBill_9 : decode cX6_layBill 9 = .ok (.aload_n 0, 1) := by decide +kernel
theorem dX6_layBill_10 : decode cX6_layBill 10 = .ok (.iload_n 2, 1) := by decide +kernel
theorem dX6_layBill_11 : decode cX6_layBill 11 = .ok (.iconst 0, 1) := by decide +kernel
theorem dX6_layBill_12 : decode cX6_layBill 12 = .ok (.iastore, 1) := by decide +kernel
theorem dX6_layBill_13 : decode cX6_layBill 13 = .ok (.iinc 2 1, 3) := by decide +kernel
theorem dX6_layBill_16 : decode cX6_layBill 16 = .ok (.goto (-14), 3) := by decide +kernel
theorem dX6_layBill_19 : decode cX6_layBill 19 = .ok (.aload_n 0, 1) := by decide +kernel
theorem dX6_layBill_20 : decode cX6_layBill 20 = .ok (.iconst 0, 1) := by decide +kernel
theorem dX6_layBill_21 : decode cX6_layBill 21 = .ok (.iload_n 1, 1) := by decide +kernel
theorem dX6_layBill_22 : decode cX6_layBill 22 = .ok (.iastore, 1) := by decide +kernel
theorem dX6_layBill_23 : decode cX6_layBill 23 = .ok (.aload_n 0, 1) := by decide +kernel
theorem dX6_layBill_24 : decode cX6_layBill 24 = .ok (.iconst 3, 1) := by decide +kernel
theorem dX6_layBill_25 : decode cX6_layBill 25 = .ok (.iconst 3, 1) := by decide +kernel
theorem dX6_layBill_26 : decode cX6_layBill 26 = .ok (.iastore, 1) := by decide +kernel
theorem dX6_layBill_27 : decode cX6_layBill 27 = .ok (.aload_n 0, 1) := by decide +kernel
theorem dX6_layBill_28 : decode cX6_layBill 28 = .ok (.iconst 4, 1) := by decide +kernel
theorem dX6_layBill_29 : decode cX6_layBill 29 = .ok (.iconst 1, 1) := by decide +kernel
theorem dX6_layBill_30 : decode cX6_layBill 30 = .ok (.iastore, 1) := by decide +kernel
theorem dX6_layBill_31 : decode cX6_layBill 31 = .ok (.aload_n 0, 1) := by decide +kernel
theorem dX6_layBill_32 : decode cX6_layBill 32 = .ok (.iconst 5, 1) := by decide +kernel
theorem dX6_layBill_33 : decode cX6_layBill 33 = .ok (.iconst 5, 1) := by decide +kernel
theorem dX6_layBill_34 : decode cX6_layBill 34 = .ok (.iastore, 1) := by decide +kernel
theorem dX6_layBill_35 : decode cX6_layBill 35 = .ok (.aload_n 0, 1) := by decide +kernel
theorem dX6_layBill_36 : decode cX6_layBill 36 = .ok (.bipush 6, 2) := by decide +kernel
theorem dX6_layBill_38 : decode cX6_layBill 38 = .ok (.bipush 10, 2) := by decide +kernel
theorem dX6_layBill_40 : decode cX6_layBill 40 = .ok (.iastore, 1) := by decide +kernel
theorem dX6_layBill_41 : decode cX6_layBill 41 = .ok (.aload_n 0, 1) := by decide +kernel
theorem dX6_layBill_42 : decode cX6_layBill 42 = .ok (.bipush 7, 2) := by decide +kernel
theorem dX6_layBill_44 : decode cX6_layBill 44 = .ok (.bipush 8, 2) := by decide +kernel
theorem dX6_layBill_46 : decode cX6_layBill 46 = .ok (.iastore, 1) := by decide +kernel
theorem dX6_layBill_47 : decode cX6_layBill 47 = .ok (.aload_n 0, 1) := by decide +kernel
theorem dX6_layBill_48 : decode cX6_layBill 48 = .ok (.bipush 8, 2) := by decide +kernel
theorem dX6_layBill_50 : decode cX6_layBill 50 = .ok (.iconst 2, 1) := by decide +kernel
theorem dX6_layBill_51 : decode cX6_layBill 51 = .ok (.iastore, 1) := by decide +kernel
theorem dX6_layBill_52 : decode cX6_layBill 52 = .ok (.return_, 1) := by decide +kernel
theorem dX6_lotAt_0 : decode cX6_lotAt 0 = .ok (.bipush 9, 2) := by decide +kernel
theorem dX6_lotAt_2 : decode cX6_lotAt 2 = .ok (.bipush 6, 2) := by decide +kernel
theorem dX6_lotAt_4 : decode cX6_lotAt 4 = .ok (.iload_n 0, 1) := by decide +kernel
theorem dX6_lotAt_5 : decode cX6_lotAt 5 = .ok (.imul, 1) := by decide +kernel
theorem dX6_lotAt_6 : decode cX6_lotAt 6 = .ok (.iadd, 1) := by decide +kernel
theorem dX6_lotAt_7 : decode cX6_lotAt 7 = .ok (.ireturn, 1) := by decide +kernel
set_option maxRecDepth 20000 in
theorem ggX6_differs_X6_lotAt : GoodIn wsX6_differs wsX6_lotAt := goodIn_r _ [4] (by decide +kernel) (by decide +kernel)
set_option maxRecDepth 20000 in
theorem gX6_differs_X6_lotAt : GoodIn wsX6_differs (va_wsS RX6 56 yX6_lotAt wsX6_lotAt) := goodIn_app (goodIn_of _ (by decide +kernel)) ggX6_differs_X6_lotAt
theorem dX6_differs_0 : decode cX6_differs 0 = .ok (.aload_n 0, 1) := by decide +kernel
theorem dX6_differs_1 : decode cX6_differs 1 = .ok (.iload_n 1, 1) := by decide +kernel
theorem dX6_differs_2 : decode cX6_differs 2 = .ok (.invokestatic 56, 3) := by decide +kernel
theorem dX6_differs_5 : decode cX6_differs 5 = .ok (.iconst 3, 1) := by decide +kernel
theorem dX6_differs_6 : decode cX6_differs 6 = .ok (.iadd, 1) := by decide +kernel
theorem dX6_differs_7 : decode cX6_differs 7 = .ok (.iaload, 1) := by decide +kernel
theorem dX6_differs_8 : decode cX6_differs 8 = .ok (.aload_n 0, 1) := by decide +kernel
theorem dX6_differs_9 : decode cX6_differs 9 = .ok (.iload_n 1, 1) := by decide +kernel
theorem dX6_differs_10 : decode cX6_differs 10 = .ok (.invokestatic 56, 3) := by decide +kernel
theorem dX6_differs_13 : decode cX6_differs 13 = .ok (.iconst 4, 1) := by decide +kernel
theorem dX6_differs_14 : decode cX6_differs 14 = .ok (.iadd, 1) := by decide +kernel
theorem dX6_differs_15 : decode cX6_differs 15 = .ok (.iaload, 1) := by decide +kernel
theorem dX6_differs_16 : decode cX6_differs 16 = .ok (.if_icmp .eq 7, 3) := by decide +kernel
theorem dX6_differs_19 : decode cX6_differs 19 = .ok (.iconst 1, 1) := by decide +kernel
theorem dX6_differs_20 : decode cX6_differs 20 = .ok (.goto 4, 3) := by decide +kernel
theorem dX6_differs_23 : decode cX6_differs 23 = .ok (.iconst 0, 1) := by decide +kernel
theorem dX6_differs_24 : decode cX6_differs 24 = .ok (.ireturn, 1) := by decide +kernel
set_option maxRecDepth 20000 in
theorem ggX6_different_X6_differs : GoodIn wsX6_different wsX6_differs := goodIn_r _ [4, 5, 6, 3, 7] (by decide +kernel) (by decide +kernel)
set_option maxRecDepth 20000 in
theorem gX6_different_X6_differs : GoodIn wsX6_different (va_wsS RX6 60 yX6_differs wsX6_differs) := goodIn_app (goodIn_of _ (by decide +kernel)) ggX6_different_X6_differs
theorem dX6_different_0 : decode cX6_different 0 = .ok (.iconst 0, 1) := by decide +kernel
theorem dX6_different_1 : decode cX6_different 1 = .ok (.istore_n 1, 1) := by decide +kernel
theorem dX6_different_2 : decode cX6_different 2 = .ok (.iconst 0, 1) := by decide +kernel
theorem dX6_different_3 : decode cX6_different 3 = .ok (.istore_n 2, 1) := by decide +kernel
theorem dX6_different_4 : decode cX6_different 4 = .ok (.iload_n 2, 1) := by decide +kernel
theorem dX6_different_5 : decode cX6_different 5 = .ok (.aload_n 0, 1) := by decide +kernel
theorem dX6_different_6 : decode cX6_different 6 = .ok (.iconst 1, 1) := by decide +kernel
theorem dX6_different_7 : decode cX6_different 7 = .ok (.iaload, 1) := by decide +kernel
theorem dX6_different_8 : decode cX6_different 8 = .ok (.if_icmp .ge 25, 3) := by decide +kernel
theorem dX6_different_11 : decode cX6_different 11 = .ok (.iload_n 1, 1) := by decide +kernel
theorem dX6_different_12 : decode cX6_different 12 = .ok (.aload_n 0, 1) := by decide +kernel
theorem dX6_different_13 : decode cX6_different 13 = .ok (.iload_n 2, 1) := by decide +kernel
theorem dX6_different_14 : decode cX6_different 14 = .ok (.invokestatic 60, 3) := by decide +kernel
theorem dX6_different_17 : decode cX6_different 17 = .ok (.ifCond .eq 7, 3) := by decide +kernel
theorem dX6_different_20 : decode cX6_different 20 = .ok (.iconst 1, 1) := by decide +kernel
theorem dX6_different_21 : decode cX6_different 21 = .ok (.goto 4, 3) := by decide +kernel
theorem dX6_different_24 : decode cX6_different 24 = .ok (.iconst 0, 1) := by decide +kernel
theorem dX6_different_25 : decode cX6_different 25 = .ok (.iadd, 1) := by decide +kernel
theorem dX6_different_26 : decode cX6_different 26 = .ok (.istore_n 1, 1) := by decide +kernel
theorem dX6_different_27 : decode cX6_different 27 = .ok (.iinc 2 1, 3) := by decide +kernel
theorem dX6_different_30 : decode cX6_different 30 = .ok (.goto (-26), 3) := by decide +kernel
theorem dX6_different_33 : decode cX6_different 33 = .ok (.iload_n 1, 1) := by decide +kernel
theorem dX6_different_34 : decode cX6_different 34 = .ok (.ireturn, 1) := by decide +kernel
theorem dX6_append_0 : decode cX6_append 0 = .ok (.aload_n 0, 1) := by decide +kernel
theorem dX6_append_1 : decode cX6_append 1 = .ok (.iconst 0, 1) := by decide +kernel
theorem dX6_append_2 : decode cX6_append 2 = .ok (.putfield 53, 3) := by decide +kernel
theorem dX6_append_5 : decode cX6_append 5 = .ok (.aload_n 0, 1) := by decide +kernel
theorem dX6_append_6 : decode cX6_append 6 = .ok (.getfield 64, 3) := by decide +kernel
theorem dX6_append_9 : decode cX6_append 9 = .ok (.bipush 20, 2) := by decide +kernel
theorem dX6_append_11 : decode cX6_append 11 = .ok (.iadd, 1) := by decide +kernel
theorem dX6_append_12 : decode cX6_append 12 = .ok (.sipush 500, 3) := by decide +kernel
theorem dX6_append_15 : decode cX6_append 15 = .ok (.if_icmp .le 5, 3) := by decide +kernel
theorem dX6_append_18 : decode cX6_append 18 = .ok (.iconst (-1), 1) := by decide +kernel
theorem dX6_append_19 : decode cX6_append 19 = .ok (.ireturn, 1) := by decide +kernel
theorem dX6_append_20 : decode cX6_append 20 = .ok (.iconst 0, 1) := by decide +kernel
theorem dX6_append_21 : decode cX6_append 21 = .ok (.istore 6, 2) := by decide +kernel
theorem dX6_append_23 : decode cX6_append 23 = .ok (.iload 6, 2) := by decide +kernel
theorem dX6_append_25 : decode cX6_append 25 = .ok (.bipush 20, 2) := by decide +kernel
theorem dX6_append_27 : decode cX6_append 27 = .ok (.if_icmp .ge 93, 3) := by decide +kernel
theorem dX6_append_30 : decode cX6_append 30 = .ok (.iload 6, 2) := by decide +kernel
theorem dX6_append_32 : decode cX6_append 32 = .ok (.iconst 4, 1) := by decide +kernel
theorem dX6_append_33 : decode cX6_append 33 = .ok (.if_icmp .ge 7, 3) := by decide +kernel
theorem dX6_append_36 : decode cX6_append 36 = .ok (.iload_n 1, 1) := by decide +kernel
theorem dX6_append_37 : decode cX6_append 37 = .ok (.goto 39, 3) := by decide +kernel
theorem dX6_append_40 : decode cX6_append 40 = .ok (.iload 6, 2) := by decide +kernel
theorem dX6_append_42 : decode cX6_append 42 = .ok (.bipush 8, 2) := by decide +kernel
theorem dX6_append_44 : decode cX6_append 44 = .ok (.if_icmp .ge 7, 3) := by decide +kernel
theorem dX6_append_47 : decode cX6_append 47 = .ok (.iload_n 2, 1) := by decide +kernel
theorem dX6_append_48 : decode cX6_append 48 = .ok (.goto 28, 3) := by decide +kernel
theorem dX6_append_51 : decode cX6_append 51 = .ok (.iload 6, 2) := by decide +kernel
theorem dX6_append_53 : decode cX6_append 53 = .ok (.bipush 12, 2) := by decide +kernel
theorem dX6_append_55 : decode cX6_append 55 = .ok (.if_icmp .ge 7, 3) := by decide +kernel
theorem dX6_append_58 : decode cX6_append 58 = .ok (.iload_n 3, 1) := by decide +kernel
theorem dX6_append_59 : decode cX6_append 59 = .ok (.goto 17, 3) := by decide +kernel
theorem dX6_append_62 : decode cX6_append 62 = .ok (.iload 6, 2) := by decide +kernel
theorem dX6_append_64 : decode cX6_append 64 = .ok (.bipush 16, 2) := by decide +kernel
theorem dX6_append_66 : decode cX6_append 66 = .ok (.if_icmp .ge 8, 3) := by decide +kernel
theorem dX6_append_69 : decode cX6_append 69 = .ok (.iload 4, 2) := by decide +kernel
theorem dX6_append_71 : decode cX6_append 71 = .ok (.goto 5, 3) := by decide +kernel
theorem dX6_append_74 : decode cX6_append 74 = .ok (.iload 5, 2) := by decide +kernel
theorem dX6_append_76 : decode cX6_append 76 = .ok (.istore 7, 2) := by decide +kernel
theorem dX6_append_78 : decode cX6_append 78 = .ok (.aload_n 0, 1) := by decide +kernel
theorem dX6_append_79 : decode cX6_append 79 = .ok (.getfield 9, 3) := by decide +kernel
theorem dX6_append_82 : decode cX6_append 82 = .ok (.aload_n 0, 1) := by decide +kernel
theorem dX6_append_83 : decode cX6_append 83 = .ok (.getfield 64, 3) := by decide +kernel
theorem dX6_append_86 : decode cX6_append 86 = .ok (.iload 7, 2) := by decide +kernel
theorem dX6_append_88 : decode cX6_append 88 = .ok (.bipush 24, 2) := by decide +kernel
theorem dX6_append_90 : decode cX6_append 90 = .ok (.bipush 8, 2) := by decide +kernel
theorem dX6_append_92 : decode cX6_append 92 = .ok (.iload 6, 2) := by decide +kernel
theorem dX6_append_94 : decode cX6_append 94 = .ok (.iconst 4, 1) := by decide +kernel
theorem dX6_append_95 : decode cX6_append 95 = .ok (.irem, 1) := by decide +kernel
theorem dX6_append_96 : decode cX6_append 96 = .ok (.imul, 1) := by decide +kernel
theorem dX6_append_97 : decode cX6_append 97 = .ok (.isub, 1) := by decide +kernel
theorem dX6_append_98 : decode cX6_append 98 = .ok (.ishr, 1) := by decide +kernel
theorem dX6_append_99 : decode cX6_append 99 = .ok (.sipush 255, 3) := by decide +kernel
theorem dX6_append_102 : decode cX6_append 102 = .ok (.iand, 1) := by decide +kernel
theorem dX6_append_103 : decode cX6_append 103 = .ok (.iastore, 1) := by decide +kernel
theorem dX6_append_104 : decode cX6_append 104 = .ok (.aload_n 0, 1) := by decide +kernel
theorem dX6_append_105 : decode cX6_append 105 = .ok (.dup, 1) := by decide +kernel
theorem dX6_append_106 : decode cX6_append 106 = .ok (.getfield 64, 3) := by decide +kernel
theorem dX6_append_109 : decode cX6_append 109 = .ok (.iconst 1, 1) := by decide +kernel
theorem dX6_append_110 : decode cX6_append 110 = .ok (.iadd, 1) := by decide +kernel
theorem dX6_append_111 : decode cX6_append 111 = .ok (.putfield 64, 3) := by decide +kernel
theorem dX6_append_114 : decode cX6_append 114 = .ok (.iinc 6 1, 3) := by decide +kernel
theorem dX6_append_117 : decode cX6_append 117 = .ok (.goto (-94), 3) := by decide +kernel
theorem dX6_append_120 : decode cX6_append 120 = .ok (.aload_n 0, 1) := by decide +kernel
theorem dX6_append_121 : decode cX6_append 121 = .ok (.getfield 64, 3) := by decide +kernel
theorem dX6_append_124 : decode cX6_append 124 = .ok (.ireturn, 1) := by decide +kernel
theorem dX6_byteAt_0 : decode cX6_byteAt 0 = .ok (.iload_n 1, 1) := by decide +kernel
theorem dX6_byteAt_1 : decode cX6_byteAt 1 = .ok (.aload_n 0, 1) := by decide +kernel
theorem dX6_byteAt_2 : decode cX6_byteAt 2 = .ok (.getfield 67, 3) := by decide +kernel
theorem dX6_byteAt_5 : decode cX6_byteAt 5 = .ok (.if_icmp .ge 12, 3) := by decide +kernel
theorem dX6_byteAt_8 : decode cX6_byteAt 8 = .ok (.aload_n 0, 1) := by decide +kernel
theorem dX6_byteAt_9 : decode cX6_byteAt 9 = .ok (.getfield 9, 3) := by decide +kernel
theorem dX6_byteAt_12 : decode cX6_byteAt 12 = .ok (.iload_n 1, 1) := by decide +kernel
theorem dX6_byteAt_13 : decode cX6_byteAt 13 = .ok (.iaload, 1) := by decide +kernel
theorem dX6_byteAt_14 : decode cX6_byteAt 14 = .ok (.goto 4, 3) := by decide +kernel
theorem dX6_byteAt_17 : decode cX6_byteAt 17 = .ok (.iconst (-1), 1) := by decide +kernel
theorem dX6_byteAt_18 : decode cX6_byteAt 18 = .ok (.ireturn, 1) := by decide +kernel
set_option maxRecDepth 20000 in
theorem ggX6_ahead_X6_byteAt : GoodIn wsX6_ahead wsX6_byteAt := goodIn_r _ [6, 7, 8, 9, 10, 11, 12, 13, 14, 15, 16, 17, 18, 19, 20, 21, 22, 23, 24, 25, 26, 27, 28, 29, 30] (by decide +kernel) (by decide +kernel)
set_option maxRecDepth 20000 in
theorem gX6_ahead_X6_byteAt : GoodIn wsX6_ahead (wsV RX6 73 RX6 yX6_byteAt wsX6_byteAt) := goodIn_app (goodIn_of _ (by decide +kernel)) ggX6_ahead_X6_byteAt
theorem dX6_ahead_0 : decode cX6_ahead 0 = .ok (.aload_n 0, 1) := by decide +kernel
theorem dX6_ahead_1 : decode cX6_ahead 1 = .ok (.aload_n 0, 1) := by decide +kernel
theorem dX6_ahead_2 : decode cX6_ahead 2 = .ok (.getfield 70, 3) := by decide +kernel
theorem dX6_ahead_5 : decode cX6_ahead 5 = .ok (.invokevirtual 73, 3) := by decide +kernel
theorem dX6_ahead_8 : decode cX6_ahead 8 = .ok (.bipush 32, 2) := by decide +kernel
theorem dX6_ahead_10 : decode cX6_ahead 10 = .ok (.if_icmp .ne 16, 3) := by decide +kernel
theorem dX6_ahead_13 : decode cX6_ahead 13 = .ok (.aload_n 0, 1) := by decide +kernel
theorem dX6_ahead_14 : decode cX6_ahead 14 = .ok (.dup, 1) := by decide +kernel
theorem dX6_ahead_15 : decode cX6_ahead 15 = .ok (.getfield 70, 3) := by decide +kernel
theorem dX6_ahead_18 : decode cX6_ahead 18 = .ok (.iconst 1, 1) := by decide +kernel
theorem dX6_ahead_19 : decode cX6_ahead 19 = .ok (.iadd, 1) := by decide +kernel
theorem dX6_ahead_20 : decode cX6_ahead 20 = .ok (.putfield 70, 3) := by decide +kernel
theorem dX6_ahead_23 : decode cX6_ahead 23 = .ok (.goto (-23), 3) := by decide +kernel
theorem dX6_ahead_26 : decode cX6_ahead 26 = .ok (.aload_n 0, 1) := by decide +kernel
theorem dX6_ahead_27 : decode cX6_ahead 27 = .ok (.aload_n 0, 1) := by decide +kernel
theorem dX6_ahead_28 : decode cX6_ahead 28 = .ok (.getfield 70, 3) := by decide +kernel
theorem dX6_ahead_31 : decode cX6_ahead 31 = .ok (.invokevirtual 73, 3) := by decide +kernel
theorem dX6_ahead_34 : decode cX6_ahead 34 = .ok (.ireturn, 1) := by decide +kernel
theorem dX6_isGood_0 : decode cX6_isGood 0 = .ok (.aload_n 0, 1) := by decide +kernel
theorem dX6_isGood_1 : decode cX6_isGood 1 = .ok (.getfield 76, 3) := by decide +kernel
theorem dX6_isGood_4 : decode cX6_isGood 4 = .ok (.ifCond .ne 7, 3) := by decide +kernel
theorem dX6_isGood_7 : decode cX6_isGood 7 = .ok (.iconst 1, 1) := by decide +kernel
theorem dX6_isGood_8 : decode cX6_isGood 8 = .ok (.goto 4, 3) := by decide +kernel
theorem dX6_isGood_11 : decode cX6_isGood 11 = .ok (.iconst 0, 1) := by decide +kernel
theorem dX6_isGood_12 : decode cX6_isGood 12 = .ok (.ireturn, 1) := by decide +kernel
theorem dX6_report_0 : decode cX6_report 0 = .ok (.aload_n 0, 1) := by decide +kernel
theorem dX6_report_1 : decode cX6_report 1 = .ok (.getfield 76, 3) := by decide +kernel
theorem dX6_report_4 : decode cX6_report 4 = .ok (.ifCond .eq 4, 3) := by decide +kernel
theorem dX6_report_7 : decode cX6_report 7 = .ok (.return_, 1) := by decide +kernel
theorem dX6_report_8 : decode cX6_report 8 = .ok (.aload_n 0, 1) := by decide +kernel
theorem dX6_report_9 : decode cX6_report 9 = .ok (.iload_n 1, 1) := by decide +kernel
theorem dX6_report_10 : decode cX6_report 10 = .ok (.putfield 76, 3) := by decide +kernel
theorem dX6_report_13 : decode cX6_report 13 = .ok (.aload_n 0, 1) := by decide +kernel
theorem dX6_report_14 : decode cX6_report 14 = .ok (.iload_n 2, 1) := by decide +kernel
theorem dX6_report_15 : decode cX6_report 15 = .ok (.putfield 79, 3) := by decide +kernel
theorem dX6_report_18 : decode cX6_report 18 = .ok (.return_, 1) := by decide +kernel
set_option maxRecDepth 20000 in
theorem ggX6_isDigit_X6_in : GoodIn wsX6_isDigit wsX6_in := goodIn_r _ [4] (by decide +kernel) (by decide +kernel)
set_option maxRecDepth 20000 in
theorem gX6_isDigit_X6_in : GoodIn wsX6_isDigit (va_wsS RX6 82 yX6_in wsX6_in) := goodIn_app (goodIn_of _ (by decide +kernel)) ggX6_isDigit_X6_in
theorem dX6_isDigit_0 : decode cX6_isDigit 0 = .ok (.iload_n 0, 1) := by decide +kernel
theorem dX6_isDigit_1 : decode cX6_isDigit 1 = .ok (.bipush 48, 2) := by decide +kernel
theorem dX6_isDigit_3 : decode cX6_isDigit 3 = .ok (.bipush 57, 2) := by decide +kernel
theorem dX6_isDigit_5 : decode cX6_isDigit 5 = .ok (.invokestatic 82, 3) := by decide +kernel
theorem dX6_isDigit_8 : decode cX6_isDigit 8 = .ok (.ireturn, 1) := by decide +kernel
set_option maxRecDepth 20000 in
theorem ggX6_takeWord_X6_isGood : GoodIn wsX6_takeWord wsX6_isGood := goodIn_r _ [6, 7, 70, 71, 72, 73, 74, 75, 76, 77, 78, 79, 80, 81, 82, 83, 84, 85, 86, 87, 88, 89, 90, 91] (by decide +kernel) (by decide +kernel)
set_option maxRecDepth 20000 in
theorem gX6_takeWord_X6_isGood : GoodIn wsX6_takeWord (wsV RX6 86 RX6 yX6_isGood wsX6_isGood) := goodIn_app (goodIn_of _ (by decide +kernel)) ggX6_takeWord_X6_isGood
set_option maxRecDepth 20000 in
theorem ggX6_takeWord_X6_ahead : GoodIn wsX6_takeWord wsX6_ahead := goodIn_r _ [11, 1, 12, 13, 14, 5, 15, 16, 17, 70, 71, 72, 73, 74, 75, 76, 77, 78, 79, 80, 81, 82, 83, 84, 85, 86, 87, 88, 89, 90, 91] (by decide +kernel) (by decide +kernel)
set_option maxRecDepth 20000 in
theorem gX6_takeWord_X6_ahead : GoodIn wsX6_takeWord (wsV RX6 90 RX6 yX6_ahead wsX6_ahead) := goodIn_app (goodIn_of _ (by decide +kernel)) ggX6_takeWord_X6_ahead
set_option maxRecDepth 20000 in
theorem ggX6_takeWord_J0_length_8abf5 : GoodIn wsX6_takeWord wsJ0_length_8abf5 := goodIn_r _ [22, 23, 24, 25, 26, 21, 27, 28, 29] (by decide +kernel) (by decide +kernel)
set_option maxRecDepth 20000 in
theorem gX6_takeWord_J0_length_8abf5 : GoodIn wsX6_takeWord (wsV RX6 94 RJ0 yJ0_length_8abf5 wsJ0_length_8abf5) := goodIn_app (goodIn_of _ (by decide +kernel)) ggX6_takeWord_J0_length_8abf5
set_option maxRecDepth 20000 in
theorem ggX6_takeWord_X6_byteAt : GoodIn wsX6_takeWord wsX6_byteAt := goodIn_r _ [15, 16, 17, 70, 71, 72, 73, 74, 75, 76, 77, 78, 79, 80, 81, 82, 83, 84, 85, 86, 87, 88, 89, 90, 91] (by decide +kernel) (by decide +kernel)
set_option maxRecDepth 20000 in
theorem gX6_takeWord_X6_byteAt : GoodIn wsX6_takeWord (wsV RX6 73 RX6 yX6_byteAt wsX6_byteAt) := goodIn_app (goodIn_of _ (by decide +kernel)) ggX6_takeWord_X6_byteAt
set_option maxRecDepth 20000 in
theorem ggX6_takeWord_J0_charAt_5068e : GoodIn wsX6_takeWord wsJ0_charAt_5068e := goodIn_r _ [33, 23, 34, 35, 36, 21, 37, 28, 29, 38, 39, 40, 41, 42, 43, 44, 45, 46, 47, 48, 49, 50, 51, 52, 53, 54, 55, 56, 57, 58, 59, 60, 61, 62, 63, 64, 65, 66] (by decide +kernel) (by decide +kernel)
set_option maxRecDepth 20000 in
theorem gX6_takeWord_J0_charAt_5068e : GoodIn wsX6_takeWord (wsV RX6 99 RJ0 yJ0_charAt_5068e wsJ0_charAt_5068e) := goodIn_app (goodIn_of _ (by decide +kernel)) ggX6_takeWord_J0_charAt_5068e
set_option maxRecDepth 20000 in
theorem ggX6_takeWord_X6_in : GoodIn wsX6_takeWord wsX6_in := goodIn_r _ [69] (by decide +kernel) (by decide +kernel)
set_option maxRecDepth 20000 in
theorem gX6_takeWord_X6_in : GoodIn wsX6_takeWord (va_wsS RX6 82 yX6_in wsX6_in) := goodIn_app (goodIn_of _ (by decide +kernel)) ggX6_takeWord_X6_in
theorem dX6_takeWord_0 : decode cX6_takeWord 0 = .ok (.aload_n 0, 1) := by decide +kernel
theorem dX6_takeWord_1 : decode cX6_takeWord 1 = .ok (.invokevirtual 86, 3) := by decide +kernel
theorem dX6_takeWord_4 : decode cX6_takeWord 4 = .ok (.ifCond .ne 5, 3) := by decide +kernel
theorem dX6_takeWord_7 : decode cX6_takeWord 7 = .ok (.iconst 0, 1) := by decide +kernel
theorem dX6_takeWord_8 : decode cX6_takeWord 8 = .ok (.ireturn, 1) := by decide +kernel
theorem dX6_takeWord_9 : decode cX6_takeWord 9 = .ok (.aload_n 0, 1) := by decide +kernel
theorem dX6_takeWord_10 : decode cX6_takeWord 10 = .ok (.invokevirtual 90, 3) := by decide +kernel
theorem dX6_takeWord_13 : decode cX6_takeWord 13 = .ok (.pop, 1) := by decide +kernel
theorem dX6_takeWord_14 : decode cX6_takeWord 14 = .ok (.iconst 0, 1) := by decide +kernel
theorem dX6_takeWord_15 : decode cX6_takeWord 15 = .ok (.istore_n 2, 1) := by decide +kernel
theorem dX6_takeWord_16 : decode cX6_takeWord 16 = .ok (.iload_n 2, 1) := by decide +kernel
theorem dX6_takeWord_17 : decode cX6_takeWord 17 = .ok (.aload_n 1, 1) := by decide +kernel
theorem dX6_takeWord_18 : decode cX6_takeWord 18 = .ok (.invokevirtual 94, 3) := by decide +kernel
theorem dX6_takeWord_21 : decode cX6_takeWord 21 = .ok (.if_icmp .ge 27, 3) := by decide +kernel
theorem dX6_takeWord_24 : decode cX6_takeWord 24 = .ok (.aload_n 0, 1) := by decide +kernel
theorem dX6_takeWord_25 : decode cX6_takeWord 25 = .ok (.aload_n 0, 1) := by decide +kernel
theorem dX6_takeWord_26 : decode cX6_takeWord 26 = .ok (.getfield 70, 3) := by decide +kernel
theorem dX6_takeWord_29 : decode cX6_takeWord 29 = .ok (.iload_n 2, 1) := by decide +kernel
theorem dX6_takeWord_30 : decode cX6_takeWord 30 = .ok (.iadd, 1) := by decide +kernel
theorem dX6_takeWord_31 : decode cX6_takeWord 31 = .ok (.invokevirtual 73, 3) := by decide +kernel
theorem dX6_takeWord_34 : decode cX6_takeWord 34 = .ok (.aload_n 1, 1) := by decide +kernel
theorem dX6_takeWord_35 : decode cX6_takeWord 35 = .ok (.iload_n 2, 1) := by decide +kernel
theorem dX6_takeWord_36 : decode cX6_takeWord 36 = .ok (.invokevirtual 99, 3) := by decide +kernel
theorem dX6_takeWord_39 : decode cX6_takeWord 39 = .ok (.if_icmp .ne 9, 3) := by decide +kernel
theorem dX6_takeWord_42 : decode cX6_takeWord 42 = .ok (.iinc 2 1, 3) := by decide +kernel
theorem dX6_takeWord_45 : decode cX6_takeWord 45 = .ok (.goto (-29), 3) := by decide +kernel
theorem dX6_takeWord_48 : decode cX6_takeWord 48 = .ok (.iload_n 2, 1) := by decide +kernel
theorem dX6_takeWord_49 : decode cX6_takeWord 49 = .ok (.aload_n 1, 1) := by decide +kernel
theorem dX6_takeWord_50 : decode cX6_takeWord 50 = .ok (.invokevirtual 94, 3) := by decide +kernel
theorem dX6_takeWord_53 : decode cX6_takeWord 53 = .ok (.if_icmp .lt 23, 3) := by decide +kernel
theorem dX6_takeWord_56 : decode cX6_takeWord 56 = .ok (.aload_n 0, 1) := by decide +kernel
theorem dX6_takeWord_57 : decode cX6_takeWord 57 = .ok (.aload_n 0, 1) := by decide +kernel
theorem dX6_takeWord_58 : decode cX6_takeWord 58 = .ok (.getfield 70, 3) := by decide +kernel
theorem dX6_takeWord_61 : decode cX6_takeWord 61 = .ok (.iload_n 2, 1) := by decide +kernel
theorem dX6_takeWord_62 : decode cX6_takeWord 62 = .ok (.iadd, 1) := by decide +kernel
theorem dX6_takeWord_63 : decode cX6_takeWord 63 = .ok (.invokevirtual 73, 3) := by decide +kernel
theorem dX6_takeWord_66 : decode cX6_takeWord 66 = .ok (.bipush 97, 2) := by decide +kernel
theorem dX6_takeWord_68 : decode cX6_takeWord 68 = .ok (.bipush 122, 2) := by decide +kernel
theorem dX6_takeWord_70 : decode cX6_takeWord 70 = .ok (.invokestatic 82, 3) := by decide +kernel
theorem dX6_takeWord_73 : decode cX6_takeWord 73 = .ok (.ifCond .eq 5, 3) := by decide +kernel
theorem dX6_takeWord_76 : decode cX6_takeWord 76 = .ok (.iconst 0, 1) := by decide +kernel
theorem dX6_takeWord_77 : decode cX6_takeWord 77 = .ok (.ireturn, 1) := by decide +kernel
theorem dX6_takeWord_78 : decode cX6_takeWord 78 = .ok (.aload_n 0, 1) := by decide +kernel
theorem dX6_takeWord_79 : decode cX6_takeWord 79 = .ok (.dup, 1) := by decide +kernel
theorem dX6_takeWord_80 : decode cX6_takeWord 80 = .ok (.getfield 70, 3) := by decide +kernel
theorem dX6_takeWord_83 : decode cX6_takeWord 83 = .ok (.iload_n 2, 1) := by decide +kernel
theorem dX6_takeWord_84 : decode cX6_takeWord 84 = .ok (.iadd, 1) := by decide +kernel
theorem dX6_takeWord_85 : decode cX6_takeWord 85 = .ok (.putfield 70, 3) := by decide +kernel
theorem dX6_takeWord_88 : decode cX6_takeWord 88 = .ok (.iconst 1, 1) := by decide +kernel
theorem dX6_takeWord_89 : decode cX6_takeWord 89 = .ok (.ireturn, 1) := by decide +kernel
set_option maxRecDepth 20000 in
theorem ggX6_expect_X6_isGood : GoodIn wsX6_expect wsX6_isGood := goodIn_r _ [6, 7, 23, 24, 25, 26, 27, 28, 29, 30, 31, 32, 33, 34, 35, 36, 37, 38, 39, 40, 41, 42, 43, 44] (by decide +kernel) (by decide +kernel)
set_option maxRecDepth 20000 in
theorem gX6_expect_X6_isGood : GoodIn wsX6_expect (wsV RX6 86 RX6 yX6_isGood wsX6_isGood) := goodIn_app (goodIn_of _ (by decide +kernel)) ggX6_expect_X6_isGood
set_option maxRecDepth 20000 in
theorem ggX6_expect_X6_ahead : GoodIn wsX6_expect wsX6_ahead := goodIn_r _ [11, 1, 12, 13, 14, 5, 15, 16, 17, 23, 24, 25, 26, 27, 28, 29, 30, 31, 32, 33, 34, 35, 36, 37, 38, 39, 40, 41, 42, 43, 44] (by decide +kernel) (by decide +kernel)
set_option maxRecDepth 20000 in
theorem gX6_expect_X6_ahead : GoodIn wsX6_expect (wsV RX6 90 RX6 yX6_ahead wsX6_ahead) := goodIn_app (goodIn_of _ (by decide +kernel)) ggX6_expect_X6_ahead
set_option maxRecDepth 20000 in
theorem ggX6_expect_X6_report : GoodIn wsX6_expect wsX6_report := goodIn_r _ [21, 7, 22, 23, 24, 25, 26, 27, 28, 29, 30, 31, 32, 33, 34, 35, 36, 37, 38, 39, 40, 41, 42, 43, 44] (by decide +kernel) (by decide +kernel)
set_option maxRecDepth 20000 in
theorem gX6_expect_X6_report : GoodIn wsX6_expect (wsV RX6 103 RX6 yX6_report wsX6_report) := goodIn_app (goodIn_of _ (by decide +kernel)) ggX6_expect_X6_report
theorem dX6_expect_0 : decode cX6_expect 0 = .ok (.aload_n 0, 1) := by decide +kernel
theorem dX6_expect_1 : decode cX6_expect 1 = .ok (.invokevirtual 86, 3) := by decide +kernel
theorem dX6_expect_4 : decode cX6_expect 4 = .ok (.ifCond .ne 4, 3) := by decide +kernel
theorem dX6_expect_7 : decode cX6_expect 7 = .ok (.return_, 1) := by decide +kernel
theorem dX6_expect_8 : decode cX6_expect 8 = .ok (.aload_n 0, 1) := by decide +kernel
theorem dX6_expect_9 : decode cX6_expect 9 = .ok (.invokevirtual 90, 3) := by decide +kernel
theorem dX6_expect_12 : decode cX6_expect 12 = .ok (.iload_n 1, 1) := by decide +kernel
theorem dX6_expect_13 : decode cX6_expect 13 = .ok (.if_icmp .ne 16, 3) := by decide +kernel
theorem dX6_expect_16 : decode cX6_expect 16 = .ok (.aload_n 0, 1) := by decide +kernel
theorem dX6_expect_17 : decode cX6_expect 17 = .ok (.dup, 1) := by decide +kernel
theorem dX6_expect_18 : decode cX6_expect 18 = .ok (.getfield 70, 3) := by decide +kernel
theorem dX6_expect_21 : decode cX6_expect 21 = .ok (.iconst 1, 1) := by decide +kernel
theorem dX6_expect_22 : decode cX6_expect 22 = .ok (.iadd, 1) := by decide +kernel
theorem dX6_expect_23 : decode cX6_expect 23 = .ok (.putfield 70, 3) := by decide +kernel
theorem dX6_expect_26 : decode cX6_expect 26 = .ok (.goto 13, 3) := by decide +kernel
theorem dX6_expect_29 : decode cX6_expect 29 = .ok (.aload_n 0, 1) := by decide +kernel
theorem dX6_expect_30 : decode cX6_expect 30 = .ok (.bipush (-2), 2) := by decide +kernel
theorem dX6_expect_32 : decode cX6_expect 32 = .ok (.aload_n 0, 1) := by decide +kernel
theorem dX6_expect_33 : decode cX6_expect 33 = .ok (.getfield 70, 3) := by decide +kernel
theorem dX6_expect_36 : decode cX6_expect 36 = .ok (.invokevirtual 103, 3) := by decide +kernel
theorem dX6_expect_39 : decode cX6_expect 39 = .ok (.return_, 1) := by decide +kernel
set_option maxRecDepth 20000 in
theorem ggX6_number_X6_isGood : GoodIn wsX6_number wsX6_isGood := goodIn_r _ [8, 9, 34, 35, 36, 37, 38, 39, 40, 41, 42, 43, 44, 45, 46, 47, 48, 49, 50, 51, 52, 53, 54, 55] (by decide +kernel) (by decide +kernel)
set_option maxRecDepth 20000 in
theorem gX6_number_X6_isGood : GoodIn wsX6_number (wsV RX6 86 RX6 yX6_isGood wsX6_isGood) := goodIn_app (goodIn_of _ (by decide +kernel)) ggX6_number_X6_isGood
set_option maxRecDepth 20000 in
theorem ggX6_number_X6_ahead : GoodIn wsX6_number wsX6_ahead := goodIn_r _ [13, 1, 14, 15, 16, 7, 17, 18, 19, 34, 35, 36, 37, 38, 39, 40, 41, 42, 43, 44, 45, 46, 47, 48, 49, 50, 51, 52, 53, 54, 55] (by decide +kernel) (by decide +kernel)
set_option maxRecDepth 20000 in
theorem gX6_number_X6_ahead : GoodIn wsX6_number (wsV RX6 90 RX6 yX6_ahead wsX6_ahead) := goodIn_app (goodIn_of _ (by decide +kernel)) ggX6_number_X6_ahead
set_option maxRecDepth 20000 in
theorem ggX6_number_X6_isDigit : GoodIn wsX6_number wsX6_isDigit := goodIn_r _ [22, 23, 24, 7, 25] (by decide +kernel) (by decide +kernel)
set_option maxRecDepth 20000 in
theorem gX6_number_X6_isDigit : GoodIn wsX6_number (va_wsS RX6 107 yX6_isDigit wsX6_isDigit) := goodIn_app (goodIn_of _ (by decide +kernel)) ggX6_number_X6_isDigit
set_option maxRecDepth 20000 in
theorem ggX6_number_X6_report : GoodIn wsX6_number wsX6_report := goodIn_r _ [29, 9, 30, 34, 35, 36, 37, 38, 39, 40, 41, 42, 43, 44, 45, 46, 47, 48, 49, 50, 51, 52, 53, 54, 55] (by decide +kernel) (by decide +kernel)
set_option maxRecDepth 20000 in
theorem gX6_number_X6_report : GoodIn wsX6_number (wsV RX6 103 RX6 yX6_report wsX6_report) := goodIn_app (goodIn_of _ (by decide +kernel)) ggX6_number_X6_report
set_option maxRecDepth 20000 in
theorem ggX6_number_X6_byteAt : GoodIn wsX6_number wsX6_byteAt := goodIn_r _ [17, 18, 19, 34, 35, 36, 37, 38, 39, 40, 41, 42, 43, 44, 45, 46, 47, 48, 49, 50, 51, 52, 53, 54, 55] (by decide +kernel) (by decide +kernel)
set_option maxRecDepth 20000 in
theorem gX6_number_X6_byteAt : GoodIn wsX6_number (wsV RX6 73 RX6 yX6_byteAt wsX6_byteAt) := goodIn_app (goodIn_of _ (by decide +kernel)) ggX6_number_X6_byteAt
set_option maxRecDepth 20000 in
theorem ggX6_number_X6_min : GoodIn wsX6_number wsX6_min := goodIn_r _ [33] (by decide +kernel) (by decide +kernel)
set_option maxRecDepth 20000 in
theorem gX6_number_X6_min : GoodIn wsX6_number (va_wsS RX6 115 yX6_min wsX6_min) := goodIn_app (goodIn_of _ (by decide +kernel)) ggX6_number_X6_min
set_option maxRecDepth 20000 in
theorem ggX6_number_X6_in : GoodIn wsX6_number wsX6_in := goodIn_r _ [25] (by decide +kernel) (by decide +kernel)
set_option maxRecDepth 20000 in
theorem gX6_number_X6_in : GoodIn wsX6_number (va_wsS RX6 82 yX6_in wsX6_in) := goodIn_app (goodIn_of _ (by decide +kernel)) ggX6_number_X6_in
theorem dX6_number_0 : decode cX6_number 0 = .ok (.aload_n 0, 1) := by decide +kernel
theorem dX6_number_1 : decode cX6_number 1 = .ok (.invokevirtual 86, 3) := by decide +kernel
theorem dX6_number_4 : decode cX6_number 4 = .ok (.ifCond .ne 5, 3) := by decide +kernel
theorem dX6_number_7 : decode cX6_number 7 = .ok (.iconst 0, 1) := by decide +kernel
theorem dX6_number_8 : decode cX6_number 8 = .ok (.ireturn, 1) := by decide +kernel
theorem dX6_number_9 : decode cX6_number 9 = .ok (.aload_n 0, 1) := by decide +kernel
theorem dX6_number_10 : decode cX6_number 10 = .ok (.invokevirtual 90, 3) := by decide +kernel
theorem dX6_number_13 : decode cX6_number 13 = .ok (.invokestatic 107, 3) := by decide +kernel
theorem dX6_number_16 : decode cX6_number 16 = .ok (.ifCond .ne 15, 3) := by decide +kernel
theorem dX6_number_19 : decode cX6_number 19 = .ok (.aload_n 0, 1) := by decide +kernel
theorem dX6_number_20 : decode cX6_number 20 = .ok (.bipush (-2), 2) := by decide +kernel
theorem dX6_number_22 : decode cX6_number 22 = .ok (.aload_n 0, 1) := by decide +kernel
theorem dX6_number_23 : decode cX6_number 23 = .ok (.getfield 70, 3) := by decide +kernel
theorem dX6_number_26 : decode cX6_number 26 = .ok (.invokevirtual 103, 3) := by decide +kernel
theorem dX6_number_29 : decode cX6_number 29 = .ok (.iconst 0, 1) := by decide +kernel
theorem dX6_number_30 : decode cX6_number 30 = .ok (.ireturn, 1) := by decide +kernel
theorem dX6_number_31 : decode cX6_number 31 = .ok (.aload_n 0, 1) := by decide +kernel
theorem dX6_number_32 : decode cX6_number 32 = .ok (.aload_n 0, 1) := by decide +kernel
theorem dX6_number_33 : decode cX6_number 33 = .ok (.getfield 70, 3) := by decide +kernel
theorem dX6_number_36 : decode cX6_number 36 = .ok (.putfield 111, 3) := by decide +kernel
theorem dX6_number_39 : decode cX6_number 39 = .ok (.iconst 0, 1) := by decide +kernel
theorem dX6_number_40 : decode cX6_number 40 = .ok (.istore_n 3, 1) := by decide +kernel
theorem dX6_number_41 : decode cX6_number 41 = .ok (.aload_n 0, 1) := by decide +kernel
theorem dX6_number_42 : decode cX6_number 42 = .ok (.aload_n 0, 1) := by decide +kernel
theorem dX6_number_43 : decode cX6_number 43 = .ok (.getfield 70, 3) := by decide +kernel
theorem dX6_number_46 : decode cX6_number 46 = .ok (.invokevirtual 73, 3) := by decide +kernel
theorem dX6_number_49 : decode cX6_number 49 = .ok (.invokestatic 107, 3) := by decide +kernel
theorem dX6_number_52 : decode cX6_number 52 = .ok (.ifCond .eq 38, 3) := by decide +kernel
theorem dX6_number_55 : decode cX6_number 55 = .ok (.ldc 114, 2) := by decide +kernel
theorem dX6_number_57 : decode cX6_number 57 = .ok (.bipush 10, 2) := by decide +kernel
theorem dX6_number_59 : decode cX6_number 59 = .ok (.iload_n 3, 1) := by decide +kernel
theorem dX6_number_60 : decode cX6_number 60 = .ok (.imul, 1) := by decide +kernel
theorem dX6_number_61 : decode cX6_number 61 = .ok (.aload_n 0, 1) := by decide +kernel
theorem dX6_number_62 : decode cX6_number 62 = .ok (.aload_n 0, 1) := by decide +kernel
theorem dX6_number_63 : decode cX6_number 63 = .ok (.getfield 70, 3) := by decide +kernel
theorem dX6_number_66 : decode cX6_number 66 = .ok (.invokevirtual 73, 3) := by decide +kernel
theorem dX6_number_69 : decode cX6_number 69 = .ok (.iadd, 1) := by decide +kernel
theorem dX6_number_70 : decode cX6_number 70 = .ok (.bipush 48, 2) := by decide +kernel
theorem dX6_number_72 : decode cX6_number 72 = .ok (.isub, 1) := by decide +kernel
theorem dX6_number_73 : decode cX6_number 73 = .ok (.invokestatic 115, 3) := by decide +kernel
theorem dX6_number_76 : decode cX6_number 76 = .ok (.istore_n 3, 1) := by decide +kernel
theorem dX6_number_77 : decode cX6_number 77 = .ok (.aload_n 0, 1) := by decide +kernel
theorem dX6_number_78 : decode cX6_number 78 = .ok (.dup, 1) := by decide +kernel
theorem dX6_number_79 : decode cX6_number 79 = .ok (.getfield 70, 3) := by decide +kernel
theorem dX6_number_82 : decode cX6_number 82 = .ok (.iconst 1, 1) := by decide +kernel
theorem dX6_number_83 : decode cX6_number 83 = .ok (.iadd, 1) := by decide +kernel
theorem dX6_number_84 : decode cX6_number 84 = .ok (.putfield 70, 3) := by decide +kernel
theorem dX6_number_87 : decode cX6_number 87 = .ok (.goto (-46), 3) := by decide +kernel
theorem dX6_number_90 : decode cX6_number 90 = .ok (.iload_n 3, 1) := by decide +kernel
theorem dX6_number_91 : decode cX6_number 91 = .ok (.iload_n 1, 1) := by decide +kernel
theorem dX6_number_92 : decode cX6_number 92 = .ok (.iload_n 2, 1) := by decide +kernel
theorem dX6_number_93 : decode cX6_number 93 = .ok (.invokestatic 82, 3) := by decide +kernel
theorem dX6_number_96 : decode cX6_number 96 = .ok (.ifCond .ne 13, 3) := by decide +kernel
theorem dX6_number_99 : decode cX6_number 99 = .ok (.aload_n 0, 1) := by decide +kernel
theorem dX6_number_100 : decode cX6_number 100 = .ok (.bipush (-3), 2) := by decide +kernel
theorem dX6_number_102 : decode cX6_number 102 = .ok (.aload_n 0, 1) := by decide +kernel
theorem dX6_number_103 : decode cX6_number 103 = .ok (.getfield 111, 3) := by decide +kernel
theorem dX6_number_106 : decode cX6_number 106 = .ok (.invokevirtual 103, 3) := by decide +kernel
theorem dX6_number_109 : decode cX6_number 109 = .ok (.aload_n 0, 1) := by decide +kernel
theorem dX6_number_110 : decode cX6_number 110 = .ok (.invokevirtual 86, 3) := by decide +kernel
theorem dX6_number_113 : decode cX6_number 113 = .ok (.ifCond .eq 7, 3) := by decide +kernel
theorem dX6_number_116 : decode cX6_number 116 = .ok (.iload_n 3, 1) := by decide +kernel
theorem dX6_number_117 : decode cX6_number 117 = .ok (.goto 4, 3) := by decide +kernel
theorem dX6_number_120 : decode cX6_number 120 = .ok (.iconst 0, 1) := by decide +kernel
theorem dX6_number_121 : decode cX6_number 121 = .ok (.ireturn, 1) := by decide +kernel
set_option maxRecDepth 20000 in
theorem ggX6_once_X6_report : GoodIn wsX6_once wsX6_report := goodIn_r _ [6, 7, 8, 9, 10, 11, 12, 13, 14, 15, 16, 17, 18, 19, 20, 21, 22, 23, 24, 25, 26, 27, 28, 29, 30] (by decide +kernel) (by decide +kernel)
set_option maxRecDepth 20000 in
theorem gX6_once_X6_report : GoodIn wsX6_once (wsV RX6 103 RX6 yX6_report wsX6_report) := goodIn_app (goodIn_of _ (by decide +kernel)) ggX6_once_X6_report
theorem dX6_once_0 : decode cX6_once 0 = .ok (.aload_n 0, 1) := by decide +kernel
theorem dX6_once_1 : decode cX6_once 1 = .ok (.getfield 119, 3) := by decide +kernel
theorem dX6_once_4 : decode cX6_once 4 = .ok (.iload_n 1, 1) := by decide +kernel
theorem dX6_once_5 : decode cX6_once 5 = .ok (.ishr, 1) := by decide +kernel
theorem dX6_once_6 : decode cX6_once 6 = .ok (.iconst 1, 1) := by decide +kernel
theorem dX6_once_7 : decode cX6_once 7 = .ok (.iand, 1) := by decide +kernel
theorem dX6_once_8 : decode cX6_once 8 = .ok (.iconst 1, 1) := by decide +kernel
theorem dX6_once_9 : decode cX6_once 9 = .ok (.if_icmp .ne 10, 3) := by decide +kernel
theorem dX6_once_12 : decode cX6_once 12 = .ok (.aload_n 0, 1) := by decide +kernel
theorem dX6_once_13 : decode cX6_once 13 = .ok (.bipush (-2), 2) := by decide +kernel
theorem dX6_once_15 : decode cX6_once 15 = .ok (.iload_n 2, 1) := by decide +kernel
theorem dX6_once_16 : decode cX6_once 16 = .ok (.invokevirtual 103, 3) := by decide +kernel
theorem dX6_once_19 : decode cX6_once 19 = .ok (.aload_n 0, 1) := by decide +kernel
theorem dX6_once_20 : decode cX6_once 20 = .ok (.dup, 1) := by decide +kernel
theorem dX6_once_21 : decode cX6_once 21 = .ok (.getfield 119, 3) := by decide +kernel
theorem dX6_once_24 : decode cX6_once 24 = .ok (.iconst 1, 1) := by decide +kernel
theorem dX6_once_25 : decode cX6_once 25 = .ok (.iload_n 1, 1) := by decide +kernel
theorem dX6_once_26 : decode cX6_once 26 = .ok (.ishl, 1) := by decide +kernel
theorem dX6_once_27 : decode cX6_once 27 = .ok (.ior, 1) := by decide +kernel
theorem dX6_once_28 : decode cX6_once 28 = .ok (.putfield 119, 3) := by decide +kernel
theorem dX6_once_31 : decode cX6_once 31 = .ok (.return_, 1) := by decide +kernel
set_option maxRecDepth 20000 in
theorem ggX6_readLot_X6_report : GoodIn wsX6_readLot wsX6_report := goodIn_r _ [7, 8, 9, 101, 102, 103, 104, 105, 106, 107, 108, 109, 110, 111, 112, 113, 114, 115, 116, 117, 118, 119, 120, 121, 122] (by decide +kernel) (by decide +kernel)
set_option maxRecDepth 20000 in
theorem gX6_readLot_X6_report : GoodIn wsX6_readLot (wsV RX6 103 RX6 yX6_report wsX6_report) := goodIn_app (goodIn_of _ (by decide +kernel)) ggX6_readLot_X6_report
set_option maxRecDepth 20000 in
theorem ggX6_readLot_X6_isGood : GoodIn wsX6_readLot wsX6_isGood := goodIn_r _ [13, 8, 101, 102, 103, 104, 105, 106, 107, 108, 109, 110, 111, 112, 113, 114, 115, 116, 117, 118, 119, 120, 121, 122] (by decide +kernel) (by decide +kernel)
set_option maxRecDepth 20000 in
theorem gX6_readLot_X6_isGood : GoodIn wsX6_readLot (wsV RX6 86 RX6 yX6_isGood wsX6_isGood) := goodIn_app (goodIn_of _ (by decide +kernel)) ggX6_readLot_X6_isGood
set_option maxRecDepth 20000 in
theorem ggX6_readLot_X6_lotAt : GoodIn wsX6_readLot wsX6_lotAt := goodIn_r _ [16] (by decide +kernel) (by decide +kernel)
set_option maxRecDepth 20000 in
theorem gX6_readLot_X6_lotAt : GoodIn wsX6_readLot (va_wsS RX6 56 yX6_lotAt wsX6_lotAt) := goodIn_app (goodIn_of _ (by decide +kernel)) ggX6_readLot_X6_lotAt
set_option maxRecDepth 20000 in
theorem ggX6_readLot_X6_min : GoodIn wsX6_readLot wsX6_min := goodIn_r _ [19] (by decide +kernel) (by decide +kernel)
set_option maxRecDepth 20000 in
theorem gX6_readLot_X6_min : GoodIn wsX6_readLot (va_wsS RX6 115 yX6_min wsX6_min) := goodIn_app (goodIn_of _ (by decide +kernel)) ggX6_readLot_X6_min
set_option maxRecDepth 20000 in
theorem ggX6_readLot_X6_number : GoodIn wsX6_readLot wsX6_number := goodIn_r _ [23, 2, 24, 25, 10, 11, 12, 6, 13, 8, 26, 27, 28, 29, 30, 31, 32, 33, 34, 35, 36, 37, 38, 39, 40, 41, 3, 4, 5, 7, 9, 17, 18, 19, 101, 102, 103, 104, 105, 106, 107, 108, 109, 110, 111, 112, 113, 114, 115, 116, 117, 118, 119, 120, 121, 122] (by decide +kernel) (by decide +kernel)
set_option maxRecDepth 20000 in
theorem gX6_readLot_X6_number : GoodIn wsX6_readLot (wsV RX6 122 RX6 yX6_number wsX6_number) := goodIn_app (goodIn_of _ (by decide +kernel)) ggX6_readLot_X6_number
set_option maxRecDepth 20000 in
theorem ggX6_readLot_X6_ahead : GoodIn wsX6_readLot wsX6_ahead := goodIn_r _ [29, 2, 30, 31, 32, 6, 33, 34, 35, 101, 102, 103, 104, 105, 106, 107, 108, 109, 110, 111, 112, 113, 114, 115, 116, 117, 118, 119, 120, 121, 122] (by decide +kernel) (by decide +kernel)
set_option maxRecDepth 20000 in
theorem gX6_readLot_X6_ahead : GoodIn wsX6_readLot (wsV RX6 90 RX6 yX6_ahead wsX6_ahead) := goodIn_app (goodIn_of _ (by decide +kernel)) ggX6_readLot_X6_ahead
set_option maxRecDepth 20000 in
theorem ggX6_readLot_X6_takeWord : GoodIn wsX6_readLot wsX6_takeWord := goodIn_r _ [45, 2, 10, 11, 12, 6, 13, 8, 26, 27, 28, 29, 30, 31, 32, 33, 34, 35, 46, 47, 48, 49, 50, 51, 52, 53, 54, 55, 56, 57, 58, 59, 60, 61, 62, 63, 64, 65, 66, 67, 68, 69, 70, 71, 72, 73, 74, 75, 76, 77, 78, 79, 80, 81, 82, 83, 84, 85, 86, 87, 88, 89, 90, 91, 92, 93, 94, 39, 40, 41, 101, 102, 103, 104, 105, 106, 107, 108, 109, 110, 111, 112, 113, 114, 115, 116, 117, 118, 119, 120, 121, 122] (by decide +kernel) (by decide +kernel)
set_option maxRecDepth 20000 in
theorem gX6_readLot_X6_takeWord : GoodIn wsX6_readLot (wsV RX6 127 RX6 yX6_takeWord wsX6_takeWord) := goodIn_app (goodIn_of _ (by decide +kernel)) ggX6_readLot_X6_takeWord
set_option maxRecDepth 20000 in
theorem ggX6_readLot_X6_different : GoodIn wsX6_readLot wsX6_different := goodIn_r _ [97, 98, 99, 6, 100, 14, 15, 16] (by decide +kernel) (by decide +kernel)
set_option maxRecDepth 20000 in
theorem gX6_readLot_X6_different : GoodIn wsX6_readLot (va_wsS RX6 132 yX6_different wsX6_different) := goodIn_app (goodIn_of _ (by decide +kernel)) ggX6_readLot_X6_different
theorem dX6_readLot_0 : decode cX6_readLot 0 = .ok (.aload_n 0, 1) := by decide +kernel
theorem dX6_readLot_1 : decode cX6_readLot 1 = .ok (.getfield 20, 3) := by decide +kernel
theorem dX6_readLot_4 : decode cX6_readLot 4 = .ok (.iconst 1, 1) := by decide +kernel
theorem dX6_readLot_5 : decode cX6_readLot 5 = .ok (.iaload, 1) := by decide +kernel
theorem dX6_readLot_6 : decode cX6_readLot 6 = .ok (.bipush 24, 2) := by decide +kernel
theorem dX6_readLot_8 : decode cX6_readLot 8 = .ok (.if_icmp .ne 10, 3) := by decide +kernel
theorem dX6_readLot_11 : decode cX6_readLot 11 = .ok (.aload_n 0, 1) := by decide +kernel
theorem dX6_readLot_12 : decode cX6_readLot 12 = .ok (.bipush (-4), 2) := by decide +kernel
theorem dX6_readLot_14 : decode cX6_readLot 14 = .ok (.iload_n 1, 1) := by decide +kernel
theorem dX6_readLot_15 : decode cX6_readLot 15 = .ok (.invokevirtual 103, 3) := by decide +kernel
theorem dX6_readLot_18 : decode cX6_readLot 18 = .ok (.aload_n 0, 1) := by decide +kernel
theorem dX6_readLot_19 : decode cX6_readLot 19 = .ok (.invokevirtual 86, 3) := by decide +kernel
theorem dX6_readLot_22 : decode cX6_readLot 22 = .ok (.ifCond .ne 4, 3) := by decide +kernel
theorem dX6_readLot_25 : decode cX6_readLot 25 = .ok (.return_, 1) := by decide +kernel
theorem dX6_readLot_26 : decode cX6_readLot 26 = .ok (.aload_n 0, 1) := by decide +kernel
theorem dX6_readLot_27 : decode cX6_readLot 27 = .ok (.getfield 20, 3) := by decide +kernel
theorem dX6_readLot_30 : decode cX6_readLot 30 = .ok (.iconst 1, 1) := by decide +kernel
theorem dX6_readLot_31 : decode cX6_readLot 31 = .ok (.iaload, 1) := by decide +kernel
theorem dX6_readLot_32 : decode cX6_readLot 32 = .ok (.invokestatic 56, 3) := by decide +kernel
theorem dX6_readLot_35 : decode cX6_readLot 35 = .ok (.istore_n 2, 1) := by decide +kernel
theorem dX6_readLot_36 : decode cX6_readLot 36 = .ok (.aload_n 0, 1) := by decide +kernel
theorem dX6_readLot_37 : decode cX6_readLot 37 = .ok (.getfield 20, 3) := by decide +kernel
theorem dX6_readLot_40 : decode cX6_readLot 40 = .ok (.iload_n 2, 1) := by decide +kernel
theorem dX6_readLot_41 : decode cX6_readLot 41 = .ok (.iconst 0, 1) := by decide +kernel
theorem dX6_readLot_42 : decode cX6_readLot 42 = .ok (.iadd, 1) := by decide +kernel
theorem dX6_readLot_43 : decode cX6_readLot 43 = .ok (.aload_n 0, 1) := by decide +kernel
theorem dX6_readLot_44 : decode cX6_readLot 44 = .ok (.iconst 1, 1) := by decide +kernel
theorem dX6_readLot_45 : decode cX6_readLot 45 = .ok (.bipush 9, 2) := by decide +kernel
theorem dX6_readLot_47 : decode cX6_readLot 47 = .ok (.aload_n 0, 1) := by decide +kernel
theorem dX6_readLot_48 : decode cX6_readLot 48 = .ok (.getfield 20, 3) := by decide +kernel
theorem dX6_readLot_51 : decode cX6_readLot 51 = .ok (.iconst 0, 1) := by decide +kernel
theorem dX6_readLot_52 : decode cX6_readLot 52 = .ok (.iaload, 1) := by decide +kernel
theorem dX6_readLot_53 : decode cX6_readLot 53 = .ok (.invokestatic 115, 3) := by decide +kernel
theorem dX6_readLot_56 : decode cX6_readLot 56 = .ok (.invokevirtual 122, 3) := by decide +kernel
theorem dX6_readLot_59 : decode cX6_readLot 59 = .ok (.iastore, 1) := by decide +kernel
theorem dX6_readLot_60 : decode cX6_readLot 60 = .ok (.aload_n 0, 1) := by decide +kernel
theorem dX6_readLot_61 : decode cX6_readLot 61 = .ok (.getfield 20, 3) := by decide +kernel
theorem dX6_readLot_64 : decode cX6_readLot 64 = .ok (.iload_n 2, 1) := by decide +kernel
theorem dX6_readLot_65 : decode cX6_readLot 65 = .ok (.iconst 1, 1) := by decide +kernel
theorem dX6_readLot_66 : decode cX6_readLot 66 = .ok (.iadd, 1) := by decide +kernel
theorem dX6_readLot_67 : decode cX6_readLot 67 = .ok (.aload_n 0, 1) := by decide +kernel
theorem dX6_readLot_68 : decode cX6_readLot 68 = .ok (.iconst 0, 1) := by decide +kernel
theorem dX6_readLot_69 : decode cX6_readLot 69 = .ok (.sipush 9999, 3) := by decide +kernel
theorem dX6_readLot_72 : decode cX6_readLot 72 = .ok (.invokevirtual 122, 3) := by decide +kernel
theorem dX6_readLot_75 : decode cX6_readLot 75 = .ok (.iastore, 1) := by decide +kernel
theorem dX6_readLot_76 : decode cX6_readLot 76 = .ok (.aload_n 0, 1) := by decide +kernel
theorem dX6_readLot_77 : decode cX6_readLot 77 = .ok (.getfield 20, 3) := by decide +kernel
theorem dX6_readLot_80 : decode cX6_readLot 80 = .ok (.iload_n 2, 1) := by decide +kernel
theorem dX6_readLot_81 : decode cX6_readLot 81 = .ok (.iconst 2, 1) := by decide +kernel
theorem dX6_readLot_82 : decode cX6_readLot 82 = .ok (.iadd, 1) := by decide +kernel
theorem dX6_readLot_83 : decode cX6_readLot 83 = .ok (.aload_n 0, 1) := by decide +kernel
theorem dX6_readLot_84 : decode cX6_readLot 84 = .ok (.iconst 0, 1) := by decide +kernel
theorem dX6_readLot_85 : decode cX6_readLot 85 = .ok (.bipush 9, 2) := by decide +kernel
theorem dX6_readLot_87 : decode cX6_readLot 87 = .ok (.invokevirtual 122, 3) := by decide +kernel
theorem dX6_readLot_90 : decode cX6_readLot 90 = .ok (.iastore, 1) := by decide +kernel
theorem dX6_readLot_91 : decode cX6_readLot 91 = .ok (.aload_n 0, 1) := by decide +kernel
theorem dX6_readLot_92 : decode cX6_readLot 92 = .ok (.invokevirtual 86, 3) := by decide +kernel
theorem dX6_readLot_95 : decode cX6_readLot 95 = .ok (.ifCond .ne 4, 3) := by decide +kernel
theorem dX6_readLot_98 : decode cX6_readLot 98 = .ok (.return_, 1) := by decide +kernel
theorem dX6_readLot_99 : decode cX6_readLot 99 = .ok (.aload_n 0, 1) := by decide +kernel
theorem dX6_readLot_100 : decode cX6_readLot 100 = .ok (.invokevirtual 90, 3) := by decide +kernel
theorem dX6_readLot_103 : decode cX6_readLot 103 = .ok (.pop, 1) := by decide +kernel
theorem dX6_readLot_104 : decode cX6_readLot 104 = .ok (.aload_n 0, 1) := by decide +kernel
theorem dX6_readLot_105 : decode cX6_readLot 105 = .ok (.getfield 70, 3) := by decide +kernel
theorem dX6_readLot_108 : decode cX6_readLot 108 = .ok (.istore_n 3, 1) := by decide +kernel
theorem dX6_readLot_109 : decode cX6_readLot 109 = .ok (.aload_n 0, 1) := by decide +kernel
theorem dX6_readLot_110 : decode cX6_readLot 110 = .ok (.getfield 20, 3) := by decide +kernel
theorem dX6_readLot_113 : decode cX6_readLot 113 = .ok (.iload_n 2, 1) := by decide +kernel
theorem dX6_readLot_114 : decode cX6_readLot 114 = .ok (.iconst 3, 1) := by decide +kernel
theorem dX6_readLot_115 : decode cX6_readLot 115 = .ok (.iadd, 1) := by decide +kernel
theorem dX6_readLot_116 : decode cX6_readLot 116 = .ok (.iconst 1, 1) := by decide +kernel
theorem dX6_readLot_117 : decode cX6_readLot 117 = .ok (.iastore, 1) := by decide +kernel
theorem dX6_readLot_118 : decode cX6_readLot 118 = .ok (.aload_n 0, 1) := by decide +kernel
theorem dX6_readLot_119 : decode cX6_readLot 119 = .ok (.getfield 20, 3) := by decide +kernel
theorem dX6_readLot_122 : decode cX6_readLot 122 = .ok (.iload_n 2, 1) := by decide +kernel
theorem dX6_readLot_123 : decode cX6_readLot 123 = .ok (.iconst 4, 1) := by decide +kernel
theorem dX6_readLot_124 : decode cX6_readLot 124 = .ok (.iadd, 1) := by decide +kernel
theorem dX6_readLot_125 : decode cX6_readLot 125 = .ok (.iconst 1, 1) := by decide +kernel
theorem dX6_readLot_126 : decode cX6_readLot 126 = .ok (.iastore, 1) := by decide +kernel
theorem dX6_readLot_127 : decode cX6_readLot 127 = .ok (.aload_n 0, 1) := by decide +kernel
theorem dX6_readLot_128 : decode cX6_readLot 128 = .ok (.ldc 125, 2) := by decide +kernel
theorem dX6_readLot_130 : decode cX6_readLot 130 = .ok (.invokevirtual 127, 3) := by decide +kernel
theorem dX6_readLot_133 : decode cX6_readLot 133 = .ok (.ifCond .eq 15, 3) := by decide +kernel
theorem dX6_readLot_136 : decode cX6_readLot 136 = .ok (.aload_n 0, 1) := by decide +kernel
theorem dX6_readLot_137 : decode cX6_readLot 137 = .ok (.getfield 20, 3) := by decide +kernel
theorem dX6_readLot_140 : decode cX6_readLot 140 = .ok (.iload_n 2, 1) := by decide +kernel
theorem dX6_readLot_141 : decode cX6_readLot 141 = .ok (.iconst 4, 1) := by decide +kernel
theorem dX6_readLot_142 : decode cX6_readLot 142 = .ok (.iadd, 1) := by decide +kernel
theorem dX6_readLot_143 : decode cX6_readLot 143 = .ok (.iconst 0, 1) := by decide +kernel
theorem dX6_readLot_144 : decode cX6_readLot 144 = .ok (.iastore, 1) := by decide +kernel
theorem dX6_readLot_145 : decode cX6_readLot 145 = .ok (.goto 21, 3) := by decide +kernel
theorem dX6_readLot_148 : decode cX6_readLot 148 = .ok (.aload_n 0, 1) := by decide +kernel
theorem dX6_readLot_149 : decode cX6_readLot 149 = .ok (.ldc 131, 2) := by decide +kernel
theorem dX6_readLot_151 : decode cX6_readLot 151 = .ok (.invokevirtual 127, 3) := by decide +kernel
theorem dX6_readLot_154 : decode cX6_readLot 154 = .ok (.ifCond .eq 12, 3) := by decide +kernel
theorem dX6_readLot_157 : decode cX6_readLot 157 = .ok (.aload_n 0, 1) := by decide +kernel
theorem dX6_readLot_158 : decode cX6_readLot 158 = .ok (.getfield 20, 3) := by decide +kernel
theorem dX6_readLot_161 : decode cX6_readLot 161 = .ok (.iload_n 2, 1) := by decide +kernel
theorem dX6_readLot_162 : decode cX6_readLot 162 = .ok (.iconst 3, 1) := by decide +kernel
theorem dX6_readLot_163 : decode cX6_readLot 163 = .ok (.iadd, 1) := by decide +kernel
theorem dX6_readLot_164 : decode cX6_readLot 164 = .ok (.iconst 0, 1) := by decide +kernel
theorem dX6_readLot_165 : decode cX6_readLot 165 = .ok (.iastore, 1) := by decide +kernel
theorem dX6_readLot_166 : decode cX6_readLot 166 = .ok (.aload_n 0, 1) := by decide +kernel
theorem dX6_readLot_167 : decode cX6_readLot 167 = .ok (.getfield 20, 3) := by decide +kernel
theorem dX6_readLot_170 : decode cX6_readLot 170 = .ok (.iconst 1, 1) := by decide +kernel
theorem dX6_readLot_171 : decode cX6_readLot 171 = .ok (.dup2, 1) := by decide +kernel
theorem dX6_readLot_172 : decode cX6_readLot 172 = .ok (.iaload, 1) := by decide +kernel
theorem dX6_readLot_173 : decode cX6_readLot 173 = .ok (.iconst 1, 1) := by decide +kernel
theorem dX6_readLot_174 : decode cX6_readLot 174 = .ok (.iadd, 1) := by decide +kernel
theorem dX6_readLot_175 : decode cX6_readLot 175 = .ok (.iastore, 1) := by decide +kernel
theorem dX6_readLot_176 : decode cX6_readLot 176 = .ok (.aload_n 0, 1) := by decide +kernel
theorem dX6_readLot_177 : decode cX6_readLot 177 = .ok (.getfield 20, 3) := by decide +kernel
theorem dX6_readLot_180 : decode cX6_readLot 180 = .ok (.invokestatic 132, 3) := by decide +kernel
theorem dX6_readLot_183 : decode cX6_readLot 183 = .ok (.bipush 8, 2) := by decide +kernel
theorem dX6_readLot_185 : decode cX6_readLot 185 = .ok (.if_icmp .le 10, 3) := by decide +kernel
theorem dX6_readLot_188 : decode cX6_readLot 188 = .ok (.aload_n 0, 1) := by decide +kernel
theorem dX6_readLot_189 : decode cX6_readLot 189 = .ok (.bipush (-4), 2) := by decide +kernel
theorem dX6_readLot_191 : decode cX6_readLot 191 = .ok (.iload_n 3, 1) := by decide +kernel
theorem dX6_readLot_192 : decode cX6_readLot 192 = .ok (.invokevirtual 103, 3) := by decide +kernel
theorem dX6_readLot_195 : decode cX6_readLot 195 = .ok (.return_, 1) := by decide +kernel
set_option maxRecDepth 20000 in
theorem ggX6_statement_X6_ahead : GoodIn wsX6_statement wsX6_ahead := goodIn_r _ [7, 1, 8, 9, 10, 6, 11, 12, 13, 114, 115, 116, 117, 118, 119, 120, 121, 122, 123, 124, 125, 126, 127, 128, 129, 130, 131, 132, 133, 134, 135] (by decide +kernel) (by decide +kernel)
set_option maxRecDepth 20000 in
theorem gX6_statement_X6_ahead : GoodIn wsX6_statement (wsV RX6 90 RX6 yX6_ahead wsX6_ahead) := goodIn_app (goodIn_of _ (by decide +kernel)) ggX6_statement_X6_ahead
set_option maxRecDepth 20000 in
theorem ggX6_statement_X6_takeWord : GoodIn wsX6_statement wsX6_takeWord := goodIn_r _ [17, 1, 18, 19, 20, 6, 21, 22, 3, 4, 5, 7, 8, 9, 10, 11, 12, 13, 23, 24, 25, 26, 27, 28, 29, 30, 31, 32, 33, 34, 35, 36, 37, 38, 39, 40, 41, 42, 43, 44, 45, 46, 47, 48, 49, 50, 51, 52, 53, 54, 55, 56, 57, 58, 59, 60, 61, 62, 63, 64, 65, 66, 67, 68, 69, 70, 71, 72, 73, 74, 114, 115, 116, 117, 118, 119, 120, 121, 122, 123, 124, 125, 126, 127, 128, 129, 130, 131, 132, 133, 134, 135] (by decide +kernel) (by decide +kernel)
set_option maxRecDepth 20000 in
theorem gX6_statement_X6_takeWord : GoodIn wsX6_statement (wsV RX6 127 RX6 yX6_takeWord wsX6_takeWord) := goodIn_app (goodIn_of _ (by decide +kernel)) ggX6_statement_X6_takeWord
set_option maxRecDepth 20000 in
theorem ggX6_statement_X6_readLot : GoodIn wsX6_statement wsX6_readLot := goodIn_r _ [78, 2, 1, 79, 80, 81, 6, 82, 22, 83, 18, 19, 20, 21, 84, 85, 86, 87, 88, 89, 90, 91, 92, 93, 94, 95, 3, 4, 5, 7, 8, 9, 10, 11, 12, 13, 96, 97, 98, 72, 73, 74, 14, 15, 16, 17, 23, 24, 25, 26, 27, 28, 29, 30, 31, 32, 33, 34, 35, 36, 37, 38, 39, 40, 41, 42, 43, 44, 45, 46, 47, 48, 49, 50, 51, 52, 53, 54, 55, 56, 57, 58, 59, 60, 61, 62, 63, 64, 65, 66, 67, 68, 69, 70, 71, 99, 100, 101, 102, 103, 104, 114, 115, 116, 117, 118, 119, 120, 121, 122, 123, 124, 125, 126, 127, 128, 129, 130, 131, 132, 133, 134, 135] (by decide +kernel) (by decide +kernel)
set_option maxRecDepth 20000 in
theorem gX6_statement_X6_readLot : GoodIn wsX6_statement (wsV RX6 138 RX6 yX6_readLot wsX6_readLot) := goodIn_app (goodIn_of _ (by decide +kernel)) ggX6_statement_X6_readLot
set_option maxRecDepth 20000 in
theorem ggX6_statement_X6_once : GoodIn wsX6_statement wsX6_once := goodIn_r _ [108, 109, 79, 80, 81, 6, 82, 22, 83, 114, 115, 116, 117, 118, 119, 120, 121, 122, 123, 124, 125, 126, 127, 128, 129, 130, 131, 132, 133, 134, 135] (by decide +kernel) (by decide +kernel)
set_option maxRecDepth 20000 in
theorem gX6_statement_X6_once : GoodIn wsX6_statement (wsV RX6 144 RX6 yX6_once wsX6_once) := goodIn_app (goodIn_of _ (by decide +kernel)) ggX6_statement_X6_once
set_option maxRecDepth 20000 in
theorem ggX6_statement_X6_number : GoodIn wsX6_statement wsX6_number := goodIn_r _ [93, 1, 94, 95, 18, 19, 20, 6, 21, 22, 3, 4, 5, 7, 8, 9, 10, 11, 12, 13, 96, 97, 98, 72, 73, 74, 79, 80, 81, 82, 83, 87, 88, 89, 114, 115, 116, 117, 118, 119, 120, 121, 122, 123, 124, 125, 126, 127, 128, 129, 130, 131, 132, 133, 134, 135] (by decide +kernel) (by decide +kernel)
set_option maxRecDepth 20000 in
theorem gX6_statement_X6_number : GoodIn wsX6_statement (wsV RX6 122 RX6 yX6_number wsX6_number) := goodIn_app (goodIn_of _ (by decide +kernel)) ggX6_statement_X6_number
set_option maxRecDepth 20000 in
theorem ggX6_statement_X6_report : GoodIn wsX6_statement wsX6_report := goodIn_r _ [82, 22, 83, 114, 115, 116, 117, 118, 119, 120, 121, 122, 123, 124, 125, 126, 127, 128, 129, 130, 131, 132, 133, 134, 135] (by decide +kernel) (by decide +kernel)
set_option maxRecDepth 20000 in
theorem gX6_statement_X6_report : GoodIn wsX6_statement (wsV RX6 103 RX6 yX6_report wsX6_report) := goodIn_app (goodIn_of _ (by decide +kernel)) ggX6_statement_X6_report
set_option maxRecDepth 20000 in
theorem ggX6_statement_X6_expect : GoodIn wsX6_statement wsX6_expect := goodIn_r _ [113, 1, 18, 19, 20, 6, 21, 22, 3, 4, 5, 7, 8, 9, 10, 11, 12, 13, 79, 80, 81, 82, 83, 114, 115, 116, 117, 118, 119, 120, 121, 122, 123, 124, 125, 126, 127, 128, 129, 130, 131, 132, 133, 134, 135] (by decide +kernel) (by decide +kernel)
set_option maxRecDepth 20000 in
theorem gX6_statement_X6_expect : GoodIn wsX6_statement (wsV RX6 149 RX6 yX6_expect wsX6_expect) := goodIn_app (goodIn_of _ (by decide +kernel)) ggX6_statement_X6_expect
theorem dX6_statement_0 : decode cX6_statement 0 = .ok (.aload_n 0, 1) := by decide +kernel
theorem dX6_statement_1 : decode cX6_statement 1 = .ok (.invokevirtual 90, 3) := by decide +kernel
theorem dX6_statement_4 : decode cX6_statement 4 = .ok (.pop, 1) := by decide +kernel
theorem dX6_statement_5 : decode cX6_statement 5 = .ok (.aload_n 0, 1) := by decide +kernel
theorem dX6_statement_6 : decode cX6_statement 6 = .ok (.getfield 70, 3) := by decide +kernel
theorem dX6_statement_9 : decode cX6_statement 9 = .ok (.istore_n 1, 1) := by decide +kernel
theorem dX6_statement_10 : decode cX6_statement 10 = .ok (.aload_n 0, 1) := by decide +kernel
theorem dX6_statement_11 : decode cX6_statement 11 = .ok (.ldc 136, 2) := by decide +kernel
theorem dX6_statement_13 : decode cX6_statement 13 = .ok (.invokevirtual 127, 3) := by decide +kernel
theorem dX6_statement_16 : decode cX6_statement 16 = .ok (.ifCond .eq 11, 3) := by decide +kernel
theorem dX6_statement_19 : decode cX6_statement 19 = .ok (.aload_n 0, 1) := by decide +kernel
theorem dX6_statement_20 : decode cX6_statement 20 = .ok (.iload_n 1, 1) := by decide +kernel
theorem dX6_statement_21 : decode cX6_statement 21 = .ok (.invokevirtual 138, 3) := by decide +kernel
theorem dX6_statement_24 : decode cX6_statement 24 = .ok (.goto 87, 3) := by decide +kernel
theorem dX6_statement_27 : decode cX6_statement 27 = .ok (.aload_n 0, 1) := by decide +kernel
theorem dX6_statement_28 : decode cX6_statement 28 = .ok (.ldc 142, 2) := by decide +kernel
theorem dX6_statement_30 : decode cX6_statement 30 = .ok (.invokevirtual 127, 3) := by decide +kernel
theorem dX6_statement_33 : decode cX6_statement 33 = .ok (.ifCond .eq 40, 3) := by decide +kernel
theorem dX6_statement_36 : decode cX6_statement 36 = .ok (.aload_n 0, 1) := by decide +kernel
theorem dX6_statement_37 : decode cX6_statement 37 = .ok (.iconst 0, 1) := by decide +kernel
theorem dX6_statement_38 : decode cX6_statement 38 = .ok (.iload_n 1, 1) := by decide +kernel
theorem dX6_statement_39 : decode cX6_statement 39 = .ok (.invokevirtual 144, 3) := by decide +kernel
theorem dX6_statement_42 : decode cX6_statement 42 = .ok (.iconst 0, 1) := by decide +kernel
theorem dX6_statement_43 : decode cX6_statement 43 = .ok (.istore_n 2, 1) := by decide +kernel
theorem dX6_statement_44 : decode cX6_statement 44 = .ok (.iload_n 2, 1) := by decide +kernel
theorem dX6_statement_45 : decode cX6_statement 45 = .ok (.iconst 5, 1) := by decide +kernel
theorem dX6_statement_46 : decode cX6_statement 46 = .ok (.if_icmp .ge 24, 3) := by decide +kernel
theorem dX6_statement_49 : decode cX6_statement 49 = .ok (.aload_n 0, 1) := by decide +kernel
theorem dX6_statement_50 : decode cX6_statement 50 = .ok (.getfield 20, 3) := by decide +kernel
theorem dX6_statement_53 : decode cX6_statement 53 = .ok (.iconst 4, 1) := by decide +kernel
theorem dX6_statement_54 : decode cX6_statement 54 = .ok (.iload_n 2, 1) := by decide +kernel
theorem dX6_statement_55 : decode cX6_statement 55 = .ok (.iadd, 1) := by decide +kernel
theorem dX6_statement_56 : decode cX6_statement 56 = .ok (.aload_n 0, 1) := by decide +kernel
theorem dX6_statement_57 : decode cX6_statement 57 = .ok (.iconst 0, 1) := by decide +kernel
theorem dX6_statement_58 : decode cX6_statement 58 = .ok (.bipush 99, 2) := by decide +kernel
theorem dX6_statement_60 : decode cX6_statement 60 = .ok (.invokevirtual 122, 3) := by decide +kernel
theorem dX6_statement_63 : decode cX6_statement 63 = .ok (.iastore, 1) := by decide +kernel
theorem dX6_statement_64 : decode cX6_statement 64 = .ok (.iinc 2 1, 3) := by decide +kernel
theorem dX6_statement_67 : decode cX6_statement 67 = .ok (.goto (-23), 3) := by decide +kernel
theorem dX6_statement_70 : decode cX6_statement 70 = .ok (.goto 41, 3) := by decide +kernel
theorem dX6_statement_73 : decode cX6_statement 73 = .ok (.aload_n 0, 1) := by decide +kernel
theorem dX6_statement_74 : decode cX6_statement 74 = .ok (.ldc 147, 2) := by decide +kernel
theorem dX6_statement_76 : decode cX6_statement 76 = .ok (.invokevirtual 127, 3) := by decide +kernel
theorem dX6_statement_79 : decode cX6_statement 79 = .ok (.ifCond .eq 25, 3) := by decide +kernel
theorem dX6_statement_82 : decode cX6_statement 82 = .ok (.aload_n 0, 1) := by decide +kernel
theorem dX6_statement_83 : decode cX6_statement 83 = .ok (.iconst 1, 1) := by decide +kernel
theorem dX6_statement_84 : decode cX6_statement 84 = .ok (.iload_n 1, 1) := by decide +kernel
theorem dX6_statement_85 : decode cX6_statement 85 = .ok (.invokevirtual 144, 3) := by decide +kernel
theorem dX6_statement_88 : decode cX6_statement 88 = .ok (.aload_n 0, 1) := by decide +kernel
theorem dX6_statement_89 : decode cX6_statement 89 = .ok (.getfield 20, 3) := by decide +kernel
theorem dX6_statement_92 : decode cX6_statement 92 = .ok (.iconst 3, 1) := by decide +kernel
theorem dX6_statement_93 : decode cX6_statement 93 = .ok (.aload_n 0, 1) := by decide +kernel
theorem dX6_statement_94 : decode cX6_statement 94 = .ok (.iconst 1, 1) := by decide +kernel
theorem dX6_statement_95 : decode cX6_statement 95 = .ok (.bipush 9, 2) := by decide +kernel
theorem dX6_statement_97 : decode cX6_statement 97 = .ok (.invokevirtual 122, 3) := by decide +kernel
theorem dX6_statement_100 : decode cX6_statement 100 = .ok (.iastore, 1) := by decide +kernel
theorem dX6_statement_101 : decode cX6_statement 101 = .ok (.goto 10, 3) := by decide +kernel
theorem dX6_statement_104 : decode cX6_statement 104 = .ok (.aload_n 0, 1) := by decide +kernel
theorem dX6_statement_105 : decode cX6_statement 105 = .ok (.bipush (-2), 2) := by decide +kernel
theorem dX6_statement_107 : decode cX6_statement 107 = .ok (.iload_n 1, 1) := by decide +kernel
theorem dX6_statement_108 : decode cX6_statement 108 = .ok (.invokevirtual 103, 3) := by decide +kernel
theorem dX6_statement_111 : decode cX6_statement 111 = .ok (.aload_n 0, 1) := by decide +kernel
theorem dX6_statement_112 : decode cX6_statement 112 = .ok (.bipush 59, 2) := by decide +kernel
theorem dX6_statement_114 : decode cX6_statement 114 = .ok (.invokevirtual 149, 3) := by decide +kernel
theorem dX6_statement_117 : decode cX6_statement 117 = .ok (.return_, 1) := by decide +kernel
set_option maxRecDepth 20000 in
theorem ggX6_load_X6_in : GoodIn wsX6_load wsX6_in := goodIn_r _ [14] (by decide +kernel) (by decide +kernel)
set_option maxRecDepth 20000 in
theorem gX6_load_X6_in : GoodIn wsX6_load (va_wsS RX6 82 yX6_in wsX6_in) := goodIn_app (goodIn_of _ (by decide +kernel)) ggX6_load_X6_in
set_option maxRecDepth 20000 in
theorem ggX6_load_X6_fails : GoodIn wsX6_load wsX6_fails := goodIn_r _ [18, 1, 138, 139, 140, 141, 142, 143, 144, 145, 146, 147, 148, 149, 150, 151, 152, 153, 154, 155, 156, 157, 158, 159] (by decide +kernel) (by decide +kernel)
set_option maxRecDepth 20000 in
theorem gX6_load_X6_fails : GoodIn wsX6_load (wsV RX6 152 RX6 yX6_fails wsX6_fails) := goodIn_app (goodIn_of _ (by decide +kernel)) ggX6_load_X6_fails
set_option maxRecDepth 20000 in
theorem ggX6_load_X6_takeWord : GoodIn wsX6_load wsX6_takeWord := goodIn_r _ [22, 4, 23, 24, 25, 13, 26, 5, 27, 28, 29, 30, 31, 32, 33, 34, 3, 35, 36, 37, 38, 39, 40, 41, 42, 43, 44, 45, 46, 47, 48, 49, 50, 51, 52, 53, 54, 55, 56, 57, 58, 59, 60, 61, 62, 63, 64, 65, 66, 67, 68, 69, 70, 71, 72, 73, 74, 75, 76, 77, 78, 79, 80, 81, 82, 83, 84, 11, 12, 14, 138, 139, 140, 141, 142, 143, 144, 145, 146, 147, 148, 149, 150, 151, 152, 153, 154, 155, 156, 157, 158, 159] (by decide +kernel) (by decide +kernel)
set_option maxRecDepth 20000 in
theorem gX6_load_X6_takeWord : GoodIn wsX6_load (wsV RX6 127 RX6 yX6_takeWord wsX6_takeWord) := goodIn_app (goodIn_of _ (by decide +kernel)) ggX6_load_X6_takeWord
set_option maxRecDepth 20000 in
theorem ggX6_load_X6_report : GoodIn wsX6_load wsX6_report := goodIn_r _ [88, 5, 6, 138, 139, 140, 141, 142, 143, 144, 145, 146, 147, 148, 149, 150, 151, 152, 153, 154, 155, 156, 157, 158, 159] (by decide +kernel) (by decide +kernel)
set_option maxRecDepth 20000 in
theorem gX6_load_X6_report : GoodIn wsX6_load (wsV RX6 103 RX6 yX6_report wsX6_report) := goodIn_app (goodIn_of _ (by decide +kernel)) ggX6_load_X6_report
set_option maxRecDepth 20000 in
theorem ggX6_load_X6_number : GoodIn wsX6_load wsX6_number := goodIn_r _ [92, 4, 93, 94, 23, 24, 25, 13, 26, 5, 27, 28, 29, 30, 31, 32, 33, 34, 3, 35, 95, 96, 97, 11, 12, 14, 85, 86, 87, 88, 6, 98, 99, 100, 138, 139, 140, 141, 142, 143, 144, 145, 146, 147, 148, 149, 150, 151, 152, 153, 154, 155, 156, 157, 158, 159] (by decide +kernel) (by decide +kernel)
set_option maxRecDepth 20000 in
theorem gX6_load_X6_number : GoodIn wsX6_load (wsV RX6 122 RX6 yX6_number wsX6_number) := goodIn_app (goodIn_of _ (by decide +kernel)) ggX6_load_X6_number
set_option maxRecDepth 20000 in
theorem ggX6_load_X6_layBill : GoodIn wsX6_load wsX6_layBill := goodIn_r _ [103] (by decide +kernel) (by decide +kernel)
set_option maxRecDepth 20000 in
theorem gX6_load_X6_layBill : GoodIn wsX6_load (va_wsS RX6 49 yX6_layBill wsX6_layBill) := goodIn_app (goodIn_of _ (by decide +kernel)) ggX6_load_X6_layBill
set_option maxRecDepth 20000 in
theorem ggX6_load_X6_expect : GoodIn wsX6_load wsX6_expect := goodIn_r _ [107, 4, 23, 24, 25, 13, 26, 5, 27, 28, 29, 30, 31, 32, 33, 34, 3, 35, 85, 86, 87, 88, 6, 138, 139, 140, 141, 142, 143, 144, 145, 146, 147, 148, 149, 150, 151, 152, 153, 154, 155, 156, 157, 158, 159] (by decide +kernel) (by decide +kernel)
set_option maxRecDepth 20000 in
theorem gX6_load_X6_expect : GoodIn wsX6_load (wsV RX6 149 RX6 yX6_expect wsX6_expect) := goodIn_app (goodIn_of _ (by decide +kernel)) ggX6_load_X6_expect
set_option maxRecDepth 20000 in
theorem ggX6_load_X6_isGood : GoodIn wsX6_load wsX6_isGood := goodIn_r _ [26, 5, 138, 139, 140, 141, 142, 143, 144, 145, 146, 147, 148, 149, 150, 151, 152, 153, 154, 155, 156, 157, 158, 159] (by decide +kernel) (by decide +kernel)
set_option maxRecDepth 20000 in
theorem gX6_load_X6_isGood : GoodIn wsX6_load (wsV RX6 86 RX6 yX6_isGood wsX6_isGood) := goodIn_app (goodIn_of _ (by decide +kernel)) ggX6_load_X6_isGood
set_option maxRecDepth 20000 in
theorem ggX6_load_X6_ahead : GoodIn wsX6_load wsX6_ahead := goodIn_r _ [30, 4, 31, 32, 33, 13, 34, 3, 35, 138, 139, 140, 141, 142, 143, 144, 145, 146, 147, 148, 149, 150, 151, 152, 153, 154, 155, 156, 157, 158, 159] (by decide +kernel) (by decide +kernel)
set_option maxRecDepth 20000 in
theorem gX6_load_X6_ahead : GoodIn wsX6_load (wsV RX6 90 RX6 yX6_ahead wsX6_ahead) := goodIn_app (goodIn_of _ (by decide +kernel)) ggX6_load_X6_ahead
set_option maxRecDepth 20000 in
theorem ggX6_load_X6_statement : GoodIn wsX6_load wsX6_statement := goodIn_r _ [111, 4, 8, 27, 28, 29, 13, 30, 31, 32, 33, 34, 3, 35, 19, 20, 21, 22, 23, 24, 25, 26, 5, 36, 37, 38, 39, 40, 41, 42, 43, 44, 45, 46, 47, 48, 49, 50, 51, 52, 53, 54, 55, 56, 57, 58, 59, 60, 61, 62, 63, 64, 65, 66, 67, 68, 69, 70, 71, 72, 73, 74, 75, 76, 77, 78, 79, 80, 81, 82, 83, 84, 11, 12, 14, 112, 113, 114, 115, 85, 86, 87, 88, 6, 116, 117, 118, 98, 99, 100, 89, 90, 91, 92, 93, 94, 95, 96, 97, 119, 120, 121, 122, 123, 124, 125, 126, 127, 128, 7, 104, 105, 106, 107, 138, 139, 140, 141, 142, 143, 144, 145, 146, 147, 148, 149, 150, 151, 152, 153, 154, 155, 156, 157, 158, 159] (by decide +kernel) (by decide +kernel)
set_option maxRecDepth 20000 in
theorem gX6_load_X6_statement : GoodIn wsX6_load (wsV RX6 158 RX6 yX6_statement wsX6_statement) := goodIn_app (goodIn_of _ (by decide +kernel)) ggX6_load_X6_statement
set_option maxRecDepth 20000 in
theorem ggX6_load_X6_remember : GoodIn wsX6_load wsX6_remember := goodIn_r _ [132, 133, 134, 10, 135, 136, 13, 137, 138, 139, 140, 141, 142, 143, 144, 145, 146, 147, 148, 149, 150, 151, 152, 153, 154, 155, 156, 157, 158, 159] (by decide +kernel) (by decide +kernel)
set_option maxRecDepth 20000 in
theorem gX6_load_X6_remember : GoodIn wsX6_load (wsV RX6 161 RX6 yX6_remember wsX6_remember) := goodIn_app (goodIn_of _ (by decide +kernel)) ggX6_load_X6_remember
set_option maxRecDepth 20000 in
theorem ggX6_load_X6_copy : GoodIn wsX6_load wsX6_copy := goodIn_r _ [137] (by decide +kernel) (by decide +kernel)
set_option maxRecDepth 20000 in
theorem gX6_load_X6_copy : GoodIn wsX6_load (va_wsS RX6 164 yX6_copy wsX6_copy) := goodIn_app (goodIn_of _ (by decide +kernel)) ggX6_load_X6_copy
theorem dX6_load_0 : decode cX6_load 0 = .ok (.aload_n 0, 1) := by decide +kernel
theorem dX6_load_1 : decode cX6_load 1 = .ok (.iconst 0, 1) := by decide +kernel
theorem dX6_load_2 : decode cX6_load 2 = .ok (.putfield 53, 3) := by decide +kernel
theorem dX6_load_5 : decode cX6_load 5 = .ok (.aload_n 0, 1) := by decide +kernel
theorem dX6_load_6 : decode cX6_load 6 = .ok (.iload_n 1, 1) := by decide +kernel
theorem dX6_load_7 : decode cX6_load 7 = .ok (.iconst 0, 1) := by decide +kernel
theorem dX6_load_8 : decode cX6_load 8 = .ok (.aload_n 0, 1) := by decide +kernel
theorem dX6_load_9 : decode cX6_load 9 = .ok (.getfield 64, 3) := by decide +kernel
theorem dX6_load_12 : decode cX6_load 12 = .ok (.invokestatic 82, 3) := by decide +kernel
theorem dX6_load_15 : decode cX6_load 15 = .ok (.ifCond .ne 7, 3) := by decide +kernel
theorem dX6_load_18 : decode cX6_load 18 = .ok (.iconst 1, 1) := by decide +kernel
theorem dX6_load_19 : decode cX6_load 19 = .ok (.goto 4, 3) := by decide +kernel
theorem dX6_load_22 : decode cX6_load 22 = .ok (.iconst 0, 1) := by decide +kernel
theorem dX6_load_23 : decode cX6_load 23 = .ok (.iconst 1, 1) := by decide +kernel
theorem dX6_load_24 : decode cX6_load 24 = .ok (.invokevirtual 152, 3) := by decide +kernel
theorem dX6_load_27 : decode cX6_load 27 = .ok (.ifCond .eq 5, 3) := by decide +kernel
theorem dX6_load_30 : decode cX6_load 30 = .ok (.iconst 0, 1) := by decide +kernel
theorem dX6_load_31 : decode cX6_load 31 = .ok (.ireturn, 1) := by decide +kernel
theorem dX6_load_32 : decode cX6_load 32 = .ok (.aload_n 0, 1) := by decide +kernel
theorem dX6_load_33 : decode cX6_load 33 = .ok (.iconst 0, 1) := by decide +kernel
theorem dX6_load_34 : decode cX6_load 34 = .ok (.putfield 64, 3) := by decide +kernel
theorem dX6_load_37 : decode cX6_load 37 = .ok (.aload_n 0, 1) := by decide +kernel
theorem dX6_load_38 : decode cX6_load 38 = .ok (.iload_n 1, 1) := by decide +kernel
theorem dX6_load_39 : decode cX6_load 39 = .ok (.putfield 67, 3) := by decide +kernel
theorem dX6_load_42 : decode cX6_load 42 = .ok (.aload_n 0, 1) := by decide +kernel
theorem dX6_load_43 : decode cX6_load 43 = .ok (.iconst 0, 1) := by decide +kernel
theorem dX6_load_44 : decode cX6_load 44 = .ok (.putfield 70, 3) := by decide +kernel
theorem dX6_load_47 : decode cX6_load 47 = .ok (.aload_n 0, 1) := by decide +kernel
theorem dX6_load_48 : decode cX6_load 48 = .ok (.iconst 0, 1) := by decide +kernel
theorem dX6_load_49 : decode cX6_load 49 = .ok (.putfield 76, 3) := by decide +kernel
theorem dX6_load_52 : decode cX6_load 52 = .ok (.aload_n 0, 1) := by decide +kernel
theorem dX6_load_53 : decode cX6_load 53 = .ok (.iconst (-1), 1) := by decide +kernel
theorem dX6_load_54 : decode cX6_load 54 = .ok (.putfield 79, 3) := by decide +kernel
theorem dX6_load_57 : decode cX6_load 57 = .ok (.aload_n 0, 1) := by decide +kernel
theorem dX6_load_58 : decode cX6_load 58 = .ok (.iconst 0, 1) := by decide +kernel
theorem dX6_load_59 : decode cX6_load 59 = .ok (.putfield 119, 3) := by decide +kernel
theorem dX6_load_62 : decode cX6_load 62 = .ok (.aload_n 0, 1) := by decide +kernel
theorem dX6_load_63 : decode cX6_load 63 = .ok (.ldc 156, 2) := by decide +kernel
theorem dX6_load_65 : decode cX6_load 65 = .ok (.invokevirtual 127, 3) := by decide +kernel
theorem dX6_load_68 : decode cX6_load 68 = .ok (.ifCond .ne 13, 3) := by decide +kernel
theorem dX6_load_71 : decode cX6_load 71 = .ok (.aload_n 0, 1) := by decide +kernel
theorem dX6_load_72 : decode cX6_load 72 = .ok (.bipush (-2), 2) := by decide +kernel
theorem dX6_load_74 : decode cX6_load 74 = .ok (.aload_n 0, 1) := by decide +kernel
theorem dX6_load_75 : decode cX6_load 75 = .ok (.getfield 70, 3) := by decide +kernel
theorem dX6_load_78 : decode cX6_load 78 = .ok (.invokevirtual 103, 3) := by decide +kernel
theorem dX6_load_81 : decode cX6_load 81 = .ok (.aload_n 0, 1) := by decide +kernel
theorem dX6_load_82 : decode cX6_load 82 = .ok (.iconst 4, 1) := by decide +kernel
theorem dX6_load_83 : decode cX6_load 83 = .ok (.bipush 40, 2) := by decide +kernel
theorem dX6_load_85 : decode cX6_load 85 = .ok (.invokevirtual 122, 3) := by decide +kernel
theorem dX6_load_88 : decode cX6_load 88 = .ok (.istore_n 2, 1) := by decide +kernel
theorem dX6_load_89 : decode cX6_load 89 = .ok (.aload_n 0, 1) := by decide +kernel
theorem dX6_load_90 : decode cX6_load 90 = .ok (.getfield 20, 3) := by decide +kernel
theorem dX6_load_93 : decode cX6_load 93 = .ok (.iload_n 2, 1) := by decide +kernel
theorem dX6_load_94 : decode cX6_load 94 = .ok (.invokestatic 49, 3) := by decide +kernel
theorem dX6_load_97 : decode cX6_load 97 = .ok (.aload_n 0, 1) := by decide +kernel
theorem dX6_load_98 : decode cX6_load 98 = .ok (.bipush 59, 2) := by decide +kernel
theorem dX6_load_100 : decode cX6_load 100 = .ok (.invokevirtual 149, 3) := by decide +kernel
theorem dX6_load_103 : decode cX6_load 103 = .ok (.aload_n 0, 1) := by decide +kernel
theorem dX6_load_104 : decode cX6_load 104 = .ok (.invokevirtual 86, 3) := by decide +kernel
theorem dX6_load_107 : decode cX6_load 107 = .ok (.ifCond .eq 18, 3) := by decide +kernel
theorem dX6_load_110 : decode cX6_load 110 = .ok (.aload_n 0, 1) := by decide +kernel
theorem dX6_load_111 : decode cX6_load 111 = .ok (.invokevirtual 90, 3) := by decide +kernel
theorem dX6_load_114 : decode cX6_load 114 = .ok (.iconst (-1), 1) := by decide +kernel
theorem dX6_load_115 : decode cX6_load 115 = .ok (.if_icmp .eq 10, 3) := by decide +kernel
theorem dX6_load_118 : decode cX6_load 118 = .ok (.aload_n 0, 1) := by decide +kernel
theorem dX6_load_119 : decode cX6_load 119 = .ok (.invokevirtual 158, 3) := by decide +kernel
theorem dX6_load_122 : decode cX6_load 122 = .ok (.goto (-19), 3) := by decide +kernel
theorem dX6_load_125 : decode cX6_load 125 = .ok (.aload_n 0, 1) := by decide +kernel
theorem dX6_load_126 : decode cX6_load 126 = .ok (.aload_n 0, 1) := by decide +kernel
theorem dX6_load_127 : decode cX6_load 127 = .ok (.getfield 79, 3) := by decide +kernel
theorem dX6_load_130 : decode cX6_load 130 = .ok (.putfield 13, 3) := by decide +kernel
theorem dX6_load_133 : decode cX6_load 133 = .ok (.aload_n 0, 1) := by decide +kernel
theorem dX6_load_134 : decode cX6_load 134 = .ok (.invokevirtual 86, 3) := by decide +kernel
theorem dX6_load_137 : decode cX6_load 137 = .ok (.ifCond .ne 8, 3) := by decide +kernel
theorem dX6_load_140 : decode cX6_load 140 = .ok (.aload_n 0, 1) := by decide +kernel
theorem dX6_load_141 : decode cX6_load 141 = .ok (.getfield 76, 3) := by decide +kernel
theorem dX6_load_144 : decode cX6_load 144 = .ok (.ireturn, 1) := by decide +kernel
theorem dX6_load_145 : decode cX6_load 145 = .ok (.aload_n 0, 1) := by decide +kernel
theorem dX6_load_146 : decode cX6_load 146 = .ok (.invokevirtual 161, 3) := by decide +kernel
theorem dX6_load_149 : decode cX6_load 149 = .ok (.aload_n 0, 1) := by decide +kernel
theorem dX6_load_150 : decode cX6_load 150 = .ok (.getfield 20, 3) := by decide +kernel
theorem dX6_load_153 : decode cX6_load 153 = .ok (.aload_n 0, 1) := by decide +kernel
theorem dX6_load_154 : decode cX6_load 154 = .ok (.getfield 17, 3) := by decide +kernel
theorem dX6_load_157 : decode cX6_load 157 = .ok (.invokestatic 164, 3) := by decide +kernel
theorem dX6_load_160 : decode cX6_load 160 = .ok (.aload_n 0, 1) := by decide +kernel
theorem dX6_load_161 : decode cX6_load 161 = .ok (.getfield 17, 3) := by decide +kernel
theorem dX6_load_164 : decode cX6_load 164 = .ok (.iconst 1, 1) := by decide +kernel
theorem dX6_load_165 : decode cX6_load 165 = .ok (.iaload, 1) := by decide +kernel
theorem dX6_load_166 : decode cX6_load 166 = .ok (.ireturn, 1) := by decide +kernel
theorem dX6_errorOffset_0 : decode cX6_errorOffset 0 = .ok (.aload_n 0, 1) := by decide +kernel
theorem dX6_errorOffset_1 : decode cX6_errorOffset 1 = .ok (.iconst 0, 1) := by decide +kernel
theorem dX6_errorOffset_2 : decode cX6_errorOffset 2 = .ok (.putfield 53, 3) := by decide +kernel
theorem dX6_errorOffset_5 : decode cX6_errorOffset 5 = .ok (.aload_n 0, 1) := by decide +kernel
theorem dX6_errorOffset_6 : decode cX6_errorOffset 6 = .ok (.getfield 13, 3) := by decide +kernel
theorem dX6_errorOffset_9 : decode cX6_errorOffset 9 = .ok (.ireturn, 1) := by decide +kernel
set_option maxRecDepth 20000 in
theorem ggX6_of_X6_lotAt : GoodIn wsX6_of wsX6_lotAt := goodIn_r _ [5] (by decide +kernel) (by decide +kernel)
set_option maxRecDepth 20000 in
theorem gX6_of_X6_lotAt : GoodIn wsX6_of (va_wsS RX6 56 yX6_lotAt wsX6_lotAt) := goodIn_app (goodIn_of _ (by decide +kernel)) ggX6_of_X6_lotAt
theorem dX6_of_0 : decode cX6_of 0 = .ok (.aload_n 0, 1) := by decide +kernel
theorem dX6_of_1 : decode cX6_of 1 = .ok (.getfield 17, 3) := by decide +kernel
theorem dX6_of_4 : decode cX6_of 4 = .ok (.iload_n 1, 1) := by decide +kernel
theorem dX6_of_5 : decode cX6_of 5 = .ok (.invokestatic 56, 3) := by decide +kernel
theorem dX6_of_8 : decode cX6_of 8 = .ok (.iload_n 2, 1) := by decide +kernel
theorem dX6_of_9 : decode cX6_of 9 = .ok (.iadd, 1) := by decide +kernel
theorem dX6_of_10 : decode cX6_of 10 = .ok (.iaload, 1) := by decide +kernel
theorem dX6_of_11 : decode cX6_of 11 = .ok (.ireturn, 1) := by decide +kernel
set_option maxRecDepth 20000 in
theorem ggX6_set_X6_lotAt : GoodIn wsX6_set wsX6_lotAt := goodIn_r _ [5] (by decide +kernel) (by decide +kernel)
set_option maxRecDepth 20000 in
theorem gX6_set_X6_lotAt : GoodIn wsX6_set (va_wsS RX6 56 yX6_lotAt wsX6_lotAt) := goodIn_app (goodIn_of _ (by decide +kernel)) ggX6_set_X6_lotAt
theorem dX6_set_0 : decode cX6_set 0 = .ok (.aload_n 0, 1) := by decide +kernel
theorem dX6_set_1 : decode cX6_set 1 = .ok (.getfield 17, 3) := by decide +kernel
theorem dX6_set_4 : decode cX6_set 4 = .ok (.iload_n 1, 1) := by decide +kernel
theorem dX6_set_5 : decode cX6_set 5 = .ok (.invokestatic 56, 3) := by decide +kernel
theorem dX6_set_8 : decode cX6_set 8 = .ok (.iload_n 2, 1) := by decide +kernel
theorem dX6_set_9 : decode cX6_set 9 = .ok (.iadd, 1) := by decide +kernel
theorem dX6_set_10 : decode cX6_set 10 = .ok (.iload_n 3, 1) := by decide +kernel
theorem dX6_set_11 : decode cX6_set 11 = .ok (.iastore, 1) := by decide +kernel
theorem dX6_set_12 : decode cX6_set 12 = .ok (.return_, 1) := by decide +kernel
set_option maxRecDepth 20000 in
theorem ggX6_isPrinted_X6_of : GoodIn wsX6_isPrinted wsX6_of := goodIn_r _ [5, 6, 7, 8, 4, 9, 10, 11, 12, 13, 14, 15, 16, 17, 18, 19, 20, 21, 22, 23, 24, 25, 26, 27, 28, 29, 30, 31] (by decide +kernel) (by decide +kernel)
set_option maxRecDepth 20000 in
theorem gX6_isPrinted_X6_of : GoodIn wsX6_isPrinted (wsV RX6 168 RX6 yX6_of wsX6_of) := goodIn_app (goodIn_of _ (by decide +kernel)) ggX6_isPrinted_X6_of
theorem dX6_isPrinted_0 : decode cX6_isPrinted 0 = .ok (.aload_n 0, 1) := by decide +kernel
theorem dX6_isPrinted_1 : decode cX6_isPrinted 1 = .ok (.iload_n 1, 1) := by decide +kernel
theorem dX6_isPrinted_2 : decode cX6_isPrinted 2 = .ok (.iconst 3, 1) := by decide +kernel
theorem dX6_isPrinted_3 : decode cX6_isPrinted 3 = .ok (.invokevirtual 168, 3) := by decide +kernel
theorem dX6_isPrinted_6 : decode cX6_isPrinted 6 = .ok (.iconst 1, 1) := by decide +kernel
theorem dX6_isPrinted_7 : decode cX6_isPrinted 7 = .ok (.if_icmp .ne 7, 3) := by decide +kernel
theorem dX6_isPrinted_10 : decode cX6_isPrinted 10 = .ok (.iconst 1, 1) := by decide +kernel
theorem dX6_isPrinted_11 : decode cX6_isPrinted 11 = .ok (.goto 4, 3) := by decide +kernel
theorem dX6_isPrinted_14 : decode cX6_isPrinted 14 = .ok (.iconst 0, 1) := by decide +kernel
theorem dX6_isPrinted_15 : decode cX6_isPrinted 15 = .ok (.ireturn, 1) := by decide +kernel
set_option maxRecDepth 20000 in
theorem ggX6_lay_X6_isPrinted : GoodIn wsX6_lay wsX6_isPrinted := goodIn_r _ [11, 12, 13, 14, 10, 15, 1, 16, 17, 18, 19, 20, 21, 22, 23, 24, 25, 26, 27, 28, 29, 30, 31, 32, 33, 34, 35, 36, 37, 38, 39, 40] (by decide +kernel) (by decide +kernel)
set_option maxRecDepth 20000 in
theorem gX6_lay_X6_isPrinted : GoodIn wsX6_lay (wsV RX6 174 RX6 yX6_isPrinted wsX6_isPrinted) := goodIn_app (goodIn_of _ (by decide +kernel)) ggX6_lay_X6_isPrinted
set_option maxRecDepth 20000 in
theorem ggX6_lay_X6_of : GoodIn wsX6_lay wsX6_of := goodIn_r _ [15, 1, 16, 17, 10, 18, 19, 20, 21, 22, 23, 24, 25, 26, 27, 28, 29, 30, 31, 32, 33, 34, 35, 36, 37, 38, 39, 40] (by decide +kernel) (by decide +kernel)
set_option maxRecDepth 20000 in
theorem gX6_lay_X6_of : GoodIn wsX6_lay (wsV RX6 168 RX6 yX6_of wsX6_of) := goodIn_app (goodIn_of _ (by decide +kernel)) ggX6_lay_X6_of
theorem dX6_lay_0 : decode cX6_lay 0 = .ok (.aload_n 0, 1) := by decide +kernel
theorem dX6_lay_1 : decode cX6_lay 1 = .ok (.getfield 17, 3) := by decide +kernel
theorem dX6_lay_4 : decode cX6_lay 4 = .ok (.iconst 0, 1) := by decide +kernel
theorem dX6_lay_5 : decode cX6_lay 5 = .ok (.iaload, 1) := by decide +kernel
theorem dX6_lay_6 : decode cX6_lay 6 = .ok (.istore_n 1, 1) := by decide +kernel
theorem dX6_lay_7 : decode cX6_lay 7 = .ok (.iconst 0, 1) := by decide +kernel
theorem dX6_lay_8 : decode cX6_lay 8 = .ok (.istore_n 2, 1) := by decide +kernel
theorem dX6_lay_9 : decode cX6_lay 9 = .ok (.iconst 0, 1) := by decide +kernel
theorem dX6_lay_10 : decode cX6_lay 10 = .ok (.istore_n 3, 1) := by decide +kernel
theorem dX6_lay_11 : decode cX6_lay 11 = .ok (.aload_n 0, 1) := by decide +kernel
theorem dX6_lay_12 : decode cX6_lay 12 = .ok (.iconst 0, 1) := by decide +kernel
theorem dX6_lay_13 : decode cX6_lay 13 = .ok (.putfield 171, 3) := by decide +kernel
theorem dX6_lay_16 : decode cX6_lay 16 = .ok (.iconst 0, 1) := by decide +kernel
theorem dX6_lay_17 : decode cX6_lay 17 = .ok (.istore 4, 2) := by decide +kernel
theorem dX6_lay_19 : decode cX6_lay 19 = .ok (.iload 4, 2) := by decide +kernel
theorem dX6_lay_21 : decode cX6_lay 21 = .ok (.sipush 960, 3) := by decide +kernel
theorem dX6_lay_24 : decode cX6_lay 24 = .ok (.if_icmp .ge 17, 3) := by decide +kernel
theorem dX6_lay_27 : decode cX6_lay 27 = .ok (.aload_n 0, 1) := by decide +kernel
theorem dX6_lay_28 : decode cX6_lay 28 = .ok (.getfield 37, 3) := by decide +kernel
theorem dX6_lay_31 : decode cX6_lay 31 = .ok (.iload 4, 2) := by decide +kernel
theorem dX6_lay_33 : decode cX6_lay 33 = .ok (.iconst (-1), 1) := by decide +kernel
theorem dX6_lay_34 : decode cX6_lay 34 = .ok (.iastore, 1) := by decide +kernel
theorem dX6_lay_35 : decode cX6_lay 35 = .ok (.iinc 4 1, 3) := by decide +kernel
theorem dX6_lay_38 : decode cX6_lay 38 = .ok (.goto (-19), 3) := by decide +kernel
theorem dX6_lay_41 : decode cX6_lay 41 = .ok (.iconst 0, 1) := by decide +kernel
theorem dX6_lay_42 : decode cX6_lay 42 = .ok (.istore 4, 2) := by decide +kernel
theorem dX6_lay_44 : decode cX6_lay 44 = .ok (.iload 4, 2) := by decide +kernel
theorem dX6_lay_46 : decode cX6_lay 46 = .ok (.aload_n 0, 1) := by decide +kernel
theorem dX6_lay_47 : decode cX6_lay 47 = .ok (.getfield 17, 3) := by decide +kernel
theorem dX6_lay_50 : decode cX6_lay 50 = .ok (.iconst 1, 1) := by decide +kernel
theorem dX6_lay_51 : decode cX6_lay 51 = .ok (.iaload, 1) := by decide +kernel
theorem dX6_lay_52 : decode cX6_lay 52 = .ok (.if_icmp .ge 166, 3) := by decide +kernel
theorem dX6_lay_55 : decode cX6_lay 55 = .ok (.aload_n 0, 1) := by decide +kernel
theorem dX6_lay_56 : decode cX6_lay 56 = .ok (.getfield 28, 3) := by decide +kernel
theorem dX6_lay_59 : decode cX6_lay 59 = .ok (.iload 4, 2) := by decide +kernel
theorem dX6_lay_61 : decode cX6_lay 61 = .ok (.iconst 0, 1) := by decide +kernel
theorem dX6_lay_62 : decode cX6_lay 62 = .ok (.iastore, 1) := by decide +kernel
theorem dX6_lay_63 : decode cX6_lay 63 = .ok (.aload_n 0, 1) := by decide +kernel
theorem dX6_lay_64 : decode cX6_lay 64 = .ok (.getfield 31, 3) := by decide +kernel
theorem dX6_lay_67 : decode cX6_lay 67 = .ok (.iload 4, 2) := by decide +kernel
theorem dX6_lay_69 : decode cX6_lay 69 = .ok (.iconst (-1), 1) := by decide +kernel
theorem dX6_lay_70 : decode cX6_lay 70 = .ok (.iastore, 1) := by decide +kernel
theorem dX6_lay_71 : decode cX6_lay 71 = .ok (.aload_n 0, 1) := by decide +kernel
theorem dX6_lay_72 : decode cX6_lay 72 = .ok (.getfield 34, 3) := by decide +kernel
theorem dX6_lay_75 : decode cX6_lay 75 = .ok (.iload 4, 2) := by decide +kernel
theorem dX6_lay_77 : decode cX6_lay 77 = .ok (.iconst (-1), 1) := by decide +kernel
theorem dX6_lay_78 : decode cX6_lay 78 = .ok (.iastore, 1) := by decide +kernel
theorem dX6_lay_79 : decode cX6_lay 79 = .ok (.aload_n 0, 1) := by decide +kernel
theorem dX6_lay_80 : decode cX6_lay 80 = .ok (.iload 4, 2) := by decide +kernel
theorem dX6_lay_82 : decode cX6_lay 82 = .ok (.invokevirtual 174, 3) := by decide +kernel
theorem dX6_lay_85 : decode cX6_lay 85 = .ok (.ifCond .ne 6, 3) := by decide +kernel
theorem dX6_lay_88 : decode cX6_lay 88 = .ok (.goto 124, 3) := by decide +kernel
theorem dX6_lay_91 : decode cX6_lay 91 = .ok (.aload_n 0, 1) := by decide +kernel
theorem dX6_lay_92 : decode cX6_lay 92 = .ok (.getfield 171, 3) := by decide +kernel
theorem dX6_lay_95 : decode cX6_lay 95 = .ok (.ifCond .eq 16, 3) := by decide +kernel
theorem dX6_lay_98 : decode cX6_lay 98 = .ok (.iload_n 2, 1) := by decide +kernel
theorem dX6_lay_99 : decode cX6_lay 99 = .ok (.aload_n 0, 1) := by decide +kernel
theorem dX6_lay_100 : decode cX6_lay 100 = .ok (.iload 4, 2) := by decide +kernel
theorem dX6_lay_102 : decode cX6_lay 102 = .ok (.iconst 0, 1) := by decide +kernel
theorem dX6_lay_103 : decode cX6_lay 103 = .ok (.invokevirtual 168, 3) := by decide +kernel
theorem dX6_lay_106 : decode cX6_lay 106 = .ok (.iadd, 1) := by decide +kernel
theorem dX6_lay_107 : decode cX6_lay 107 = .ok (.iload_n 1, 1) := by decide +kernel
theorem dX6_lay_108 : decode cX6_lay 108 = .ok (.if_icmp .le 15, 3) := by decide +kernel
theorem dX6_lay_111 : decode cX6_lay 111 = .ok (.aload_n 0, 1) := by decide +kernel
theorem dX6_lay_112 : decode cX6_lay 112 = .ok (.dup, 1) := by decide +kernel
theorem dX6_lay_113 : decode cX6_lay 113 = .ok (.getfield 171, 3) := by decide +kernel
theorem dX6_lay_116 : decode cX6_lay 116 = .ok (.iconst 1, 1) := by decide +kernel
theorem dX6_lay_117 : decode cX6_lay 117 = .ok (.iadd, 1) := by decide +kernel
theorem dX6_lay_118 : decode cX6_lay 118 = .ok (.putfield 171, 3) := by decide +kernel
theorem dX6_lay_121 : decode cX6_lay 121 = .ok (.iconst 0, 1) := by decide +kernel
theorem dX6_lay_122 : decode cX6_lay 122 = .ok (.istore_n 2, 1) := by decide +kernel
theorem dX6_lay_123 : decode cX6_lay 123 = .ok (.iinc 3 1, 3) := by decide +kernel
theorem dX6_lay_126 : decode cX6_lay 126 = .ok (.aload_n 0, 1) := by decide +kernel
theorem dX6_lay_127 : decode cX6_lay 127 = .ok (.getfield 28, 3) := by decide +kernel
theorem dX6_lay_130 : decode cX6_lay 130 = .ok (.iload 4, 2) := by decide +kernel
theorem dX6_lay_132 : decode cX6_lay 132 = .ok (.iload_n 3, 1) := by decide +kernel
theorem dX6_lay_133 : decode cX6_lay 133 = .ok (.iastore, 1) := by decide +kernel
theorem dX6_lay_134 : decode cX6_lay 134 = .ok (.aload_n 0, 1) := by decide +kernel
theorem dX6_lay_135 : decode cX6_lay 135 = .ok (.getfield 31, 3) := by decide +kernel
theorem dX6_lay_138 : decode cX6_lay 138 = .ok (.iload 4, 2) := by decide +kernel
theorem dX6_lay_140 : decode cX6_lay 140 = .ok (.aload_n 0, 1) := by decide +kernel
theorem dX6_lay_141 : decode cX6_lay 141 = .ok (.getfield 171, 3) := by decide +kernel
theorem dX6_lay_144 : decode cX6_lay 144 = .ok (.iconst 1, 1) := by decide +kernel
theorem dX6_lay_145 : decode cX6_lay 145 = .ok (.isub, 1) := by decide +kernel
theorem dX6_lay_146 : decode cX6_lay 146 = .ok (.iastore, 1) := by decide +kernel
theorem dX6_lay_147 : decode cX6_lay 147 = .ok (.aload_n 0, 1) := by decide +kernel
theorem dX6_lay_148 : decode cX6_lay 148 = .ok (.getfield 34, 3) := by decide +kernel
theorem dX6_lay_151 : decode cX6_lay 151 = .ok (.iload 4, 2) := by decide +kernel
theorem dX6_lay_153 : decode cX6_lay 153 = .ok (.iload_n 2, 1) := by decide +kernel
theorem dX6_lay_154 : decode cX6_lay 154 = .ok (.iastore, 1) := by decide +kernel
theorem dX6_lay_155 : decode cX6_lay 155 = .ok (.iconst 0, 1) := by decide +kernel
theorem dX6_lay_156 : decode cX6_lay 156 = .ok (.istore 5, 2) := by decide +kernel
theorem dX6_lay_158 : decode cX6_lay 158 = .ok (.iload 5, 2) := by decide +kernel
theorem dX6_lay_160 : decode cX6_lay 160 = .ok (.aload_n 0, 1) := by decide +kernel
theorem dX6_lay_161 : decode cX6_lay 161 = .ok (.iload 4, 2) := by decide +kernel
theorem dX6_lay_163 : decode cX6_lay 163 = .ok (.iconst 0, 1) := by decide +kernel
theorem dX6_lay_164 : decode cX6_lay 164 = .ok (.invokevirtual 168, 3) := by decide +kernel
theorem dX6_lay_167 : decode cX6_lay 167 = .ok (.if_icmp .ge 35, 3) := by decide +kernel
theorem dX6_lay_170 : decode cX6_lay 170 = .ok (.aload_n 0, 1) := by decide +kernel
theorem dX6_lay_171 : decode cX6_lay 171 = .ok (.getfield 37, 3) := by decide +kernel
theorem dX6_lay_174 : decode cX6_lay 174 = .ok (.iload_n 1, 1) := by decide +kernel
theorem dX6_lay_175 : decode cX6_lay 175 = .ok (.aload_n 0, 1) := by decide +kernel
theorem dX6_lay_176 : decode cX6_lay 176 = .ok (.getfield 171, 3) := by decide +kernel
theorem dX6_lay_179 : decode cX6_lay 179 = .ok (.iconst 1, 1) := by decide +kernel
theorem dX6_lay_180 : decode cX6_lay 180 = .ok (.isub, 1) := by decide +kernel
theorem dX6_lay_181 : decode cX6_lay 181 = .ok (.imul, 1) := by decide +kernel
theorem dX6_lay_182 : decode cX6_lay 182 = .ok (.iload_n 2, 1) := by decide +kernel
theorem dX6_lay_183 : decode cX6_lay 183 = .ok (.iadd, 1) := by decide +kernel
theorem dX6_lay_184 : decode cX6_lay 184 = .ok (.iload 5, 2) := by decide +kernel
theorem dX6_lay_186 : decode cX6_lay 186 = .ok (.iadd, 1) := by decide +kernel
theorem dX6_lay_187 : decode cX6_lay 187 = .ok (.bipush 10, 2) := by decide +kernel
theorem dX6_lay_189 : decode cX6_lay 189 = .ok (.iload 4, 2) := by decide +kernel
theorem dX6_lay_191 : decode cX6_lay 191 = .ok (.imul, 1) := by decide +kernel
theorem dX6_lay_192 : decode cX6_lay 192 = .ok (.iload 5, 2) := by decide +kernel
theorem dX6_lay_194 : decode cX6_lay 194 = .ok (.iadd, 1) := by decide +kernel
theorem dX6_lay_195 : decode cX6_lay 195 = .ok (.iastore, 1) := by decide +kernel
theorem dX6_lay_196 : decode cX6_lay 196 = .ok (.iinc 5 1, 3) := by decide +kernel
theorem dX6_lay_199 : decode cX6_lay 199 = .ok (.goto (-41), 3) := by decide +kernel
theorem dX6_lay_202 : decode cX6_lay 202 = .ok (.iload_n 2, 1) := by decide +kernel
theorem dX6_lay_203 : decode cX6_lay 203 = .ok (.aload_n 0, 1) := by decide +kernel
theorem dX6_lay_204 : decode cX6_lay 204 = .ok (.iload 4, 2) := by decide +kernel
theorem dX6_lay_206 : decode cX6_lay 206 = .ok (.iconst 0, 1) := by decide +kernel
theorem dX6_lay_207 : decode cX6_lay 207 = .ok (.invokevirtual 168, 3) := by decide +kernel
theorem dX6_lay_210 : decode cX6_lay 210 = .ok (.iadd, 1) := by decide +kernel
theorem dX6_lay_211 : decode cX6_lay 211 = .ok (.istore_n 2, 1) := by decide +kernel
theorem dX6_lay_212 : decode cX6_lay 212 = .ok (.iinc 4 1, 3) := by decide +kernel
theorem dX6_lay_215 : decode cX6_lay 215 = .ok (.goto (-171), 3) := by decide +kernel
theorem dX6_lay_218 : decode cX6_lay 218 = .ok (.return_, 1) := by decide +kernel
theorem dX6_signOf_0 : decode cX6_signOf 0 = .ok (.aload_n 0, 1) := by decide +kernel
theorem dX6_signOf_1 : decode cX6_signOf 1 = .ok (.getfield 37, 3) := by decide +kernel
theorem dX6_signOf_4 : decode cX6_signOf 4 = .ok (.iload_n 1, 1) := by decide +kernel
theorem dX6_signOf_5 : decode cX6_signOf 5 = .ok (.iaload, 1) := by decide +kernel
theorem dX6_signOf_6 : decode cX6_signOf 6 = .ok (.iconst (-1), 1) := by decide +kernel
theorem dX6_signOf_7 : decode cX6_signOf 7 = .ok (.if_icmp .ne 7, 3) := by decide +kernel
theorem dX6_signOf_10 : decode cX6_signOf 10 = .ok (.iconst (-1), 1) := by decide +kernel
theorem dX6_signOf_11 : decode cX6_signOf 11 = .ok (.goto 44, 3) := by decide +kernel
theorem dX6_signOf_14 : decode cX6_signOf 14 = .ok (.aload_n 0, 1) := by decide +kernel
theorem dX6_signOf_15 : decode cX6_signOf 15 = .ok (.getfield 37, 3) := by decide +kernel
theorem dX6_signOf_18 : decode cX6_signOf 18 = .ok (.iload_n 1, 1) := by decide +kernel
theorem dX6_signOf_19 : decode cX6_signOf 19 = .ok (.iaload, 1) := by decide +kernel
theorem dX6_signOf_20 : decode cX6_signOf 20 = .ok (.aload_n 0, 1) := by decide +kernel
theorem dX6_signOf_21 : decode cX6_signOf 21 = .ok (.getfield 37, 3) := by decide +kernel
theorem dX6_signOf_24 : decode cX6_signOf 24 = .ok (.iload_n 1, 1) := by decide +kernel
theorem dX6_signOf_25 : decode cX6_signOf 25 = .ok (.iaload, 1) := by decide +kernel
theorem dX6_signOf_26 : decode cX6_signOf 26 = .ok (.bipush 10, 2) := by decide +kernel
theorem dX6_signOf_28 : decode cX6_signOf 28 = .ok (.irem, 1) := by decide +kernel
theorem dX6_signOf_29 : decode cX6_signOf 29 = .ok (.ifCond .ne 24, 3) := by decide +kernel
theorem dX6_signOf_32 : decode cX6_signOf 32 = .ok (.sipush 1000, 3) := by decide +kernel
theorem dX6_signOf_35 : decode cX6_signOf 35 = .ok (.aload_n 0, 1) := by decide +kernel
theorem dX6_signOf_36 : decode cX6_signOf 36 = .ok (.getfield 28, 3) := by decide +kernel
theorem dX6_signOf_39 : decode cX6_signOf 39 = .ok (.aload_n 0, 1) := by decide +kernel
theorem dX6_signOf_40 : decode cX6_signOf 40 = .ok (.getfield 37, 3) := by decide +kernel
theorem dX6_signOf_43 : decode cX6_signOf 43 = .ok (.iload_n 1, 1) := by decide +kernel
theorem dX6_signOf_44 : decode cX6_signOf 44 = .ok (.iaload, 1) := by decide +kernel
theorem dX6_signOf_45 : decode cX6_signOf 45 = .ok (.bipush 10, 2) := by decide +kernel
theorem dX6_signOf_47 : decode cX6_signOf 47 = .ok (.idiv, 1) := by decide +kernel
theorem dX6_signOf_48 : decode cX6_signOf 48 = .ok (.iaload, 1) := by decide +kernel
theorem dX6_signOf_49 : decode cX6_signOf 49 = .ok (.imul, 1) := by decide +kernel
theorem dX6_signOf_50 : decode cX6_signOf 50 = .ok (.goto 4, 3) := by decide +kernel
theorem dX6_signOf_53 : decode cX6_signOf 53 = .ok (.iconst 0, 1) := by decide +kernel
theorem dX6_signOf_54 : decode cX6_signOf 54 = .ok (.iadd, 1) := by decide +kernel
theorem dX6_signOf_55 : decode cX6_signOf 55 = .ok (.ireturn, 1) := by decide +kernel
set_option maxRecDepth 20000 in
theorem ggX6_placeOf_X6_differs : GoodIn wsX6_placeOf wsX6_differs := goodIn_r _ [5, 6, 7, 4, 8] (by decide +kernel) (by decide +kernel)
set_option maxRecDepth 20000 in
theorem gX6_placeOf_X6_differs : GoodIn wsX6_placeOf (va_wsS RX6 60 yX6_differs wsX6_differs) := goodIn_app (goodIn_of _ (by decide +kernel)) ggX6_placeOf_X6_differs
theorem dX6_placeOf_0 : decode cX6_placeOf 0 = .ok (.iconst 0, 1) := by decide +kernel
theorem dX6_placeOf_1 : decode cX6_placeOf 1 = .ok (.istore_n 2, 1) := by decide +kernel
theorem dX6_placeOf_2 : decode cX6_placeOf 2 = .ok (.iconst 0, 1) := by decide +kernel
theorem dX6_placeOf_3 : decode cX6_placeOf 3 = .ok (.istore_n 3, 1) := by decide +kernel
theorem dX6_placeOf_4 : decode cX6_placeOf 4 = .ok (.iload_n 3, 1) := by decide +kernel
theorem dX6_placeOf_5 : decode cX6_placeOf 5 = .ok (.iload_n 1, 1) := by decide +kernel
theorem dX6_placeOf_6 : decode cX6_placeOf 6 = .ok (.if_icmp .ge 28, 3) := by decide +kernel
theorem dX6_placeOf_9 : decode cX6_placeOf 9 = .ok (.iload_n 2, 1) := by decide +kernel
theorem dX6_placeOf_10 : decode cX6_placeOf 10 = .ok (.aload_n 0, 1) := by decide +kernel
theorem dX6_placeOf_11 : decode cX6_placeOf 11 = .ok (.getfield 17, 3) := by decide +kernel
theorem dX6_placeOf_14 : decode cX6_placeOf 14 = .ok (.iload_n 3, 1) := by decide +kernel
theorem dX6_placeOf_15 : decode cX6_placeOf 15 = .ok (.invokestatic 60, 3) := by decide +kernel
theorem dX6_placeOf_18 : decode cX6_placeOf 18 = .ok (.ifCond .eq 7, 3) := by decide +kernel
theorem dX6_placeOf_21 : decode cX6_placeOf 21 = .ok (.iconst 1, 1) := by decide +kernel
theorem dX6_placeOf_22 : decode cX6_placeOf 22 = .ok (.goto 4, 3) := by decide +kernel
theorem dX6_placeOf_25 : decode cX6_placeOf 25 = .ok (.iconst 0, 1) := by decide +kernel
theorem dX6_placeOf_26 : decode cX6_placeOf 26 = .ok (.iadd, 1) := by decide +kernel
theorem dX6_placeOf_27 : decode cX6_placeOf 27 = .ok (.istore_n 2, 1) := by decide +kernel
theorem dX6_placeOf_28 : decode cX6_placeOf 28 = .ok (.iinc 3 1, 3) := by decide +kernel
theorem dX6_placeOf_31 : decode cX6_placeOf 31 = .ok (.goto (-27), 3) := by decide +kernel
theorem dX6_placeOf_34 : decode cX6_placeOf 34 = .ok (.iload_n 2, 1) := by decide +kernel
theorem dX6_placeOf_35 : decode cX6_placeOf 35 = .ok (.ireturn, 1) := by decide +kernel
set_option maxRecDepth 20000 in
theorem ggX6_isChosen_X6_differs : GoodIn wsX6_isChosen wsX6_differs := goodIn_r _ [5, 6, 7, 4, 8] (by decide +kernel) (by decide +kernel)
set_option maxRecDepth 20000 in
theorem gX6_isChosen_X6_differs : GoodIn wsX6_isChosen (va_wsS RX6 60 yX6_differs wsX6_differs) := goodIn_app (goodIn_of _ (by decide +kernel)) ggX6_isChosen_X6_differs
set_option maxRecDepth 20000 in
theorem ggX6_isChosen_X6_placeOf : GoodIn wsX6_isChosen wsX6_placeOf := goodIn_r _ [12, 1, 2, 3, 4, 5, 6, 7, 8, 13, 14, 15, 16, 17, 18, 19, 20, 21, 22, 23, 24, 25, 26, 27, 28, 29, 30, 31, 32, 33, 34] (by decide +kernel) (by decide +kernel)
set_option maxRecDepth 20000 in
theorem gX6_isChosen_X6_placeOf : GoodIn wsX6_isChosen (wsV RX6 177 RX6 yX6_placeOf wsX6_placeOf) := goodIn_app (goodIn_of _ (by decide +kernel)) ggX6_isChosen_X6_placeOf
theorem dX6_isChosen_0 : decode cX6_isChosen 0 = .ok (.aload_n 0, 1) := by decide +kernel
theorem dX6_isChosen_1 : decode cX6_isChosen 1 = .ok (.getfield 17, 3) := by decide +kernel
theorem dX6_isChosen_4 : decode cX6_isChosen 4 = .ok (.iload_n 2, 1) := by decide +kernel
theorem dX6_isChosen_5 : decode cX6_isChosen 5 = .ok (.invokestatic 60, 3) := by decide +kernel
theorem dX6_isChosen_8 : decode cX6_isChosen 8 = .ok (.ifCond .eq 20, 3) := by decide +kernel
theorem dX6_isChosen_11 : decode cX6_isChosen 11 = .ok (.iload_n 1, 1) := by decide +kernel
theorem dX6_isChosen_12 : decode cX6_isChosen 12 = .ok (.aload_n 0, 1) := by decide +kernel
theorem dX6_isChosen_13 : decode cX6_isChosen 13 = .ok (.iload_n 2, 1) := by decide +kernel
theorem dX6_isChosen_14 : decode cX6_isChosen 14 = .ok (.invokevirtual 177, 3) := by decide +kernel
theorem dX6_isChosen_17 : decode cX6_isChosen 17 = .ok (.ishr, 1) := by decide +kernel
theorem dX6_isChosen_18 : decode cX6_isChosen 18 = .ok (.iconst 1, 1) := by decide +kernel
theorem dX6_isChosen_19 : decode cX6_isChosen 19 = .ok (.iand, 1) := by decide +kernel
theorem dX6_isChosen_20 : decode cX6_isChosen 20 = .ok (.iconst 1, 1) := by decide +kernel
theorem dX6_isChosen_21 : decode cX6_isChosen 21 = .ok (.if_icmp .ne 7, 3) := by decide +kernel
theorem dX6_isChosen_24 : decode cX6_isChosen 24 = .ok (.iconst 1, 1) := by decide +kernel
theorem dX6_isChosen_25 : decode cX6_isChosen 25 = .ok (.goto 4, 3) := by decide +kernel
theorem dX6_isChosen_28 : decode cX6_isChosen 28 = .ok (.iconst 0, 1) := by decide +kernel
theorem dX6_isChosen_29 : decode cX6_isChosen 29 = .ok (.ireturn, 1) := by decide +kernel
set_option maxRecDepth 20000 in
theorem ggX6_entries_X6_differs : GoodIn wsX6_entries wsX6_differs := goodIn_r _ [5, 6, 7, 4, 8] (by decide +kernel) (by decide +kernel)
set_option maxRecDepth 20000 in
theorem gX6_entries_X6_differs : GoodIn wsX6_entries (va_wsS RX6 60 yX6_differs wsX6_differs) := goodIn_app (goodIn_of _ (by decide +kernel)) ggX6_entries_X6_differs
set_option maxRecDepth 20000 in
theorem ggX6_entries_X6_isChosen : GoodIn wsX6_entries wsX6_isChosen := goodIn_r _ [12, 1, 2, 3, 4, 5, 6, 7, 8, 13, 14, 15, 16, 21, 22, 23, 24, 25, 26, 27, 28, 29, 30, 31, 32, 33, 34, 35, 36, 37, 38, 39, 40, 41, 42] (by decide +kernel) (by decide +kernel)
set_option maxRecDepth 20000 in
theorem gX6_entries_X6_isChosen : GoodIn wsX6_entries (wsV RX6 180 RX6 yX6_isChosen wsX6_isChosen) := goodIn_app (goodIn_of _ (by decide +kernel)) ggX6_entries_X6_isChosen
set_option maxRecDepth 20000 in
theorem ggX6_entries_X6_of : GoodIn wsX6_entries wsX6_of := goodIn_r _ [20, 1, 6, 7, 4, 8, 21, 22, 23, 24, 25, 26, 27, 28, 29, 30, 31, 32, 33, 34, 35, 36, 37, 38, 39, 40, 41, 42] (by decide +kernel) (by decide +kernel)
set_option maxRecDepth 20000 in
theorem gX6_entries_X6_of : GoodIn wsX6_entries (wsV RX6 168 RX6 yX6_of wsX6_of) := goodIn_app (goodIn_of _ (by decide +kernel)) ggX6_entries_X6_of
theorem dX6_entries_0 : decode cX6_entries 0 = .ok (.iconst 0, 1) := by decide +kernel
theorem dX6_entries_1 : decode cX6_entries 1 = .ok (.istore_n 2, 1) := by decide +kernel
theorem dX6_entries_2 : decode cX6_entries 2 = .ok (.iconst 0, 1) := by decide +kernel
theorem dX6_entries_3 : decode cX6_entries 3 = .ok (.istore_n 3, 1) := by decide +kernel
theorem dX6_entries_4 : decode cX6_entries 4 = .ok (.iload_n 3, 1) := by decide +kernel
theorem dX6_entries_5 : decode cX6_entries 5 = .ok (.aload_n 0, 1) := by decide +kernel
theorem dX6_entries_6 : decode cX6_entries 6 = .ok (.getfield 17, 3) := by decide +kernel
theorem dX6_entries_9 : decode cX6_entries 9 = .ok (.iconst 1, 1) := by decide +kernel
theorem dX6_entries_10 : decode cX6_entries 10 = .ok (.iaload, 1) := by decide +kernel
theorem dX6_entries_11 : decode cX6_entries 11 = .ok (.if_icmp .ge 46, 3) := by decide +kernel
theorem dX6_entries_14 : decode cX6_entries 14 = .ok (.iload_n 2, 1) := by decide +kernel
theorem dX6_entries_15 : decode cX6_entries 15 = .ok (.aload_n 0, 1) := by decide +kernel
theorem dX6_entries_16 : decode cX6_entries 16 = .ok (.getfield 17, 3) := by decide +kernel
theorem dX6_entries_19 : decode cX6_entries 19 = .ok (.iload_n 3, 1) := by decide +kernel
theorem dX6_entries_20 : decode cX6_entries 20 = .ok (.invokestatic 60, 3) := by decide +kernel
theorem dX6_entries_23 : decode cX6_entries 23 = .ok (.ifCond .eq 25, 3) := by decide +kernel
theorem dX6_entries_26 : decode cX6_entries 26 = .ok (.aload_n 0, 1) := by decide +kernel
theorem dX6_entries_27 : decode cX6_entries 27 = .ok (.iload_n 1, 1) := by decide +kernel
theorem dX6_entries_28 : decode cX6_entries 28 = .ok (.iload_n 3, 1) := by decide +kernel
theorem dX6_entries_29 : decode cX6_entries 29 = .ok (.invokevirtual 180, 3) := by decide +kernel
theorem dX6_entries_32 : decode cX6_entries 32 = .ok (.ifCond .ne 16, 3) := by decide +kernel
theorem dX6_entries_35 : decode cX6_entries 35 = .ok (.aload_n 0, 1) := by decide +kernel
theorem dX6_entries_36 : decode cX6_entries 36 = .ok (.iload_n 3, 1) := by decide +kernel
theorem dX6_entries_37 : decode cX6_entries 37 = .ok (.iconst 5, 1) := by decide +kernel
theorem dX6_entries_38 : decode cX6_entries 38 = .ok (.invokevirtual 168, 3) := by decide +kernel
theorem dX6_entries_41 : decode cX6_entries 41 = .ok (.ifCond .ne 7, 3) := by decide +kernel
theorem dX6_entries_44 : decode cX6_entries 44 = .ok (.iconst 1, 1) := by decide +kernel
theorem dX6_entries_45 : decode cX6_entries 45 = .ok (.goto 4, 3) := by decide +kernel
theorem dX6_entries_48 : decode cX6_entries 48 = .ok (.iconst 0, 1) := by decide +kernel
theorem dX6_entries_49 : decode cX6_entries 49 = .ok (.iadd, 1) := by decide +kernel
theorem dX6_entries_50 : decode cX6_entries 50 = .ok (.istore_n 2, 1) := by decide +kernel
theorem dX6_entries_51 : decode cX6_entries 51 = .ok (.iinc 3 1, 3) := by decide +kernel
theorem dX6_entries_54 : decode cX6_entries 54 = .ok (.goto (-50), 3) := by decide +kernel
theorem dX6_entries_57 : decode cX6_entries 57 = .ok (.iload_n 2, 1) := by decide +kernel
theorem dX6_entries_58 : decode cX6_entries 58 = .ok (.ireturn, 1) := by decide +kernel
set_option maxRecDepth 20000 in
theorem ggX6_layChoice_X6_entries : GoodIn wsX6_layChoice wsX6_entries := goodIn_r _ [10, 1, 11, 12, 9, 13, 14, 15, 16, 17, 18, 19, 20, 21, 22, 23, 24, 25, 26, 27, 28, 49, 50, 51, 52, 53, 54, 55, 56, 57, 58, 59, 60, 61, 62, 63, 64, 65, 66, 67, 68, 69, 70] (by decide +kernel) (by decide +kernel)
set_option maxRecDepth 20000 in
theorem gX6_layChoice_X6_entries : GoodIn wsX6_layChoice (wsV RX6 184 RX6 yX6_entries wsX6_entries) := goodIn_app (goodIn_of _ (by decide +kernel)) ggX6_layChoice_X6_entries
set_option maxRecDepth 20000 in
theorem ggX6_layChoice_X6_lay : GoodIn wsX6_layChoice wsX6_lay := goodIn_r _ [32, 1, 5, 33, 34, 35, 36, 37, 38, 39, 9, 40, 25, 26, 27, 28, 14, 15, 16, 49, 50, 51, 52, 53, 54, 55, 56, 57, 58, 59, 60, 61, 62, 63, 64, 65, 66, 67, 68, 69, 70] (by decide +kernel) (by decide +kernel)
set_option maxRecDepth 20000 in
theorem gX6_layChoice_X6_lay : GoodIn wsX6_layChoice (wsV RX6 187 RX6 yX6_lay wsX6_lay) := goodIn_app (goodIn_of _ (by decide +kernel)) ggX6_layChoice_X6_lay
set_option maxRecDepth 20000 in
theorem ggX6_layChoice_X6_signOf : GoodIn wsX6_layChoice wsX6_signOf := goodIn_r _ [44, 33, 34, 49, 50, 51, 52, 53, 54, 55, 56, 57, 58, 59, 60, 61, 62, 63, 64, 65, 66, 67, 68, 69, 70] (by decide +kernel) (by decide +kernel)
set_option maxRecDepth 20000 in
theorem gX6_layChoice_X6_signOf : GoodIn wsX6_layChoice (wsV RX6 190 RX6 yX6_signOf wsX6_signOf) := goodIn_app (goodIn_of _ (by decide +kernel)) ggX6_layChoice_X6_signOf
set_option maxRecDepth 20000 in
theorem ggX6_layChoice_X6_isChosen : GoodIn wsX6_layChoice wsX6_isChosen := goodIn_r _ [20, 1, 11, 12, 9, 13, 14, 15, 16, 21, 22, 23, 24, 49, 50, 51, 52, 53, 54, 55, 56, 57, 58, 59, 60, 61, 62, 63, 64, 65, 66, 67, 68, 69, 70] (by decide +kernel) (by decide +kernel)
set_option maxRecDepth 20000 in
theorem gX6_layChoice_X6_isChosen : GoodIn wsX6_layChoice (wsV RX6 180 RX6 yX6_isChosen wsX6_isChosen) := goodIn_app (goodIn_of _ (by decide +kernel)) ggX6_layChoice_X6_isChosen
set_option maxRecDepth 20000 in
theorem ggX6_layChoice_X6_of : GoodIn wsX6_layChoice wsX6_of := goodIn_r _ [28, 1, 14, 15, 9, 16, 49, 50, 51, 52, 53, 54, 55, 56, 57, 58, 59, 60, 61, 62, 63, 64, 65, 66, 67, 68, 69, 70] (by decide +kernel) (by decide +kernel)
set_option maxRecDepth 20000 in
theorem gX6_layChoice_X6_of : GoodIn wsX6_layChoice (wsV RX6 168 RX6 yX6_of wsX6_of) := goodIn_app (goodIn_of _ (by decide +kernel)) ggX6_layChoice_X6_of
set_option maxRecDepth 20000 in
theorem ggX6_layChoice_X6_set : GoodIn wsX6_layChoice wsX6_set := goodIn_r _ [48, 1, 14, 15, 9, 16, 49, 50, 51, 52, 53, 54, 55, 56, 57, 58, 59, 60, 61, 62, 63, 64, 65, 66, 67, 68, 69, 70] (by decide +kernel) (by decide +kernel)
set_option maxRecDepth 20000 in
theorem gX6_layChoice_X6_set : GoodIn wsX6_layChoice (wsV RX6 193 RX6 yX6_set wsX6_set) := goodIn_app (goodIn_of _ (by decide +kernel)) ggX6_layChoice_X6_set
theorem dX6_layChoice_0 : decode cX6_layChoice 0 = .ok (.aload_n 0, 1) := by decide +kernel
theorem dX6_layChoice_1 : decode cX6_layChoice 1 = .ok (.getfield 17, 3) := by decide +kernel
theorem dX6_layChoice_4 : decode cX6_layChoice 4 = .ok (.iconst 0, 1) := by decide +kernel
theorem dX6_layChoice_5 : decode cX6_layChoice 5 = .ok (.iaload, 1) := by decide +kernel
theorem dX6_layChoice_6 : decode cX6_layChoice 6 = .ok (.istore_n 2, 1) := by decide +kernel
theorem dX6_layChoice_7 : decode cX6_layChoice 7 = .ok (.iconst 0, 1) := by decide +kernel
theorem dX6_layChoice_8 : decode cX6_layChoice 8 = .ok (.istore_n 3, 1) := by decide +kernel
theorem dX6_layChoice_9 : decode cX6_layChoice 9 = .ok (.iconst 0, 1) := by decide +kernel
theorem dX6_layChoice_10 : decode cX6_layChoice 10 = .ok (.istore 4, 2) := by decide +kernel
theorem dX6_layChoice_12 : decode cX6_layChoice 12 = .ok (.iconst 0, 1) := by decide +kernel
theorem dX6_layChoice_13 : decode cX6_layChoice 13 = .ok (.istore 5, 2) := by decide +kernel
theorem dX6_layChoice_15 : decode cX6_layChoice 15 = .ok (.iconst (-1), 1) := by decide +kernel
theorem dX6_layChoice_16 : decode cX6_layChoice 16 = .ok (.istore 6, 2) := by decide +kernel
theorem dX6_layChoice_18 : decode cX6_layChoice 18 = .ok (.iconst (-1), 1) := by decide +kernel
theorem dX6_layChoice_19 : decode cX6_layChoice 19 = .ok (.istore 7, 2) := by decide +kernel
theorem dX6_layChoice_21 : decode cX6_layChoice 21 = .ok (.aload_n 0, 1) := by decide +kernel
theorem dX6_layChoice_22 : decode cX6_layChoice 22 = .ok (.iload_n 1, 1) := by decide +kernel
theorem dX6_layChoice_23 : decode cX6_layChoice 23 = .ok (.invokevirtual 184, 3) := by decide +kernel
theorem dX6_layChoice_26 : decode cX6_layChoice 26 = .ok (.istore 8, 2) := by decide +kernel
theorem dX6_layChoice_28 : decode cX6_layChoice 28 = .ok (.iconst 0, 1) := by decide +kernel
theorem dX6_layChoice_29 : decode cX6_layChoice 29 = .ok (.istore 9, 2) := by decide +kernel
theorem dX6_layChoice_31 : decode cX6_layChoice 31 = .ok (.aload_n 0, 1) := by decide +kernel
theorem dX6_layChoice_32 : decode cX6_layChoice 32 = .ok (.invokevirtual 187, 3) := by decide +kernel
theorem dX6_layChoice_35 : decode cX6_layChoice 35 = .ok (.iconst 0, 1) := by decide +kernel
theorem dX6_layChoice_36 : decode cX6_layChoice 36 = .ok (.istore 10, 2) := by decide +kernel
theorem dX6_layChoice_38 : decode cX6_layChoice 38 = .ok (.iload 10, 2) := by decide +kernel
theorem dX6_layChoice_40 : decode cX6_layChoice 40 = .ok (.sipush 960, 3) := by decide +kernel
theorem dX6_layChoice_43 : decode cX6_layChoice 43 = .ok (.if_icmp .ge 22, 3) := by decide +kernel
theorem dX6_layChoice_46 : decode cX6_layChoice 46 = .ok (.aload_n 0, 1) := by decide +kernel
theorem dX6_layChoice_47 : decode cX6_layChoice 47 = .ok (.getfield 40, 3) := by decide +kernel
theorem dX6_layChoice_50 : decode cX6_layChoice 50 = .ok (.iload 10, 2) := by decide +kernel
theorem dX6_layChoice_52 : decode cX6_layChoice 52 = .ok (.aload_n 0, 1) := by decide +kernel
theorem dX6_layChoice_53 : decode cX6_layChoice 53 = .ok (.iload 10, 2) := by decide +kernel
theorem dX6_layChoice_55 : decode cX6_layChoice 55 = .ok (.invokevirtual 190, 3) := by decide +kernel
theorem dX6_layChoice_58 : decode cX6_layChoice 58 = .ok (.iastore, 1) := by decide +kernel
theorem dX6_layChoice_59 : decode cX6_layChoice 59 = .ok (.iinc 10 1, 3) := by decide +kernel
theorem dX6_layChoice_62 : decode cX6_layChoice 62 = .ok (.goto (-24), 3) := by decide +kernel
theorem dX6_layChoice_65 : decode cX6_layChoice 65 = .ok (.iconst 0, 1) := by decide +kernel
theorem dX6_layChoice_66 : decode cX6_layChoice 66 = .ok (.istore 10, 2) := by decide +kernel
theorem dX6_layChoice_68 : decode cX6_layChoice 68 = .ok (.iload 10, 2) := by decide +kernel
theorem dX6_layChoice_70 : decode cX6_layChoice 70 = .ok (.aload_n 0, 1) := by decide +kernel
theorem dX6_layChoice_71 : decode cX6_layChoice 71 = .ok (.getfield 17, 3) := by decide +kernel
theorem dX6_layChoice_74 : decode cX6_layChoice 74 = .ok (.iconst 1, 1) := by decide +kernel
theorem dX6_layChoice_75 : decode cX6_layChoice 75 = .ok (.iaload, 1) := by decide +kernel
theorem dX6_layChoice_76 : decode cX6_layChoice 76 = .ok (.if_icmp .ge 28, 3) := by decide +kernel
theorem dX6_layChoice_79 : decode cX6_layChoice 79 = .ok (.aload_n 0, 1) := by decide +kernel
theorem dX6_layChoice_80 : decode cX6_layChoice 80 = .ok (.iload_n 1, 1) := by decide +kernel
theorem dX6_layChoice_81 : decode cX6_layChoice 81 = .ok (.iload 10, 2) := by decide +kernel
theorem dX6_layChoice_83 : decode cX6_layChoice 83 = .ok (.invokevirtual 180, 3) := by decide +kernel
theorem dX6_layChoice_86 : decode cX6_layChoice 86 = .ok (.ifCond .eq 12, 3) := by decide +kernel
theorem dX6_layChoice_89 : decode cX6_layChoice 89 = .ok (.iload 9, 2) := by decide +kernel
theorem dX6_layChoice_91 : decode cX6_layChoice 91 = .ok (.iconst 1, 1) := by decide +kernel
theorem dX6_layChoice_92 : decode cX6_layChoice 92 = .ok (.iload 10, 2) := by decide +kernel
theorem dX6_layChoice_94 : decode cX6_layChoice 94 = .ok (.ishl, 1) := by decide +kernel
theorem dX6_layChoice_95 : decode cX6_layChoice 95 = .ok (.ior, 1) := by decide +kernel
theorem dX6_layChoice_96 : decode cX6_layChoice 96 = .ok (.istore 9, 2) := by decide +kernel
theorem dX6_layChoice_98 : decode cX6_layChoice 98 = .ok (.iinc 10 1, 3) := by decide +kernel
theorem dX6_layChoice_101 : decode cX6_layChoice 101 = .ok (.goto (-33), 3) := by decide +kernel
theorem dX6_layChoice_104 : decode cX6_layChoice 104 = .ok (.iconst 0, 1) := by decide +kernel
theorem dX6_layChoice_105 : decode cX6_layChoice 105 = .ok (.istore 10, 2) := by decide +kernel
theorem dX6_layChoice_107 : decode cX6_layChoice 107 = .ok (.iload 10, 2) := by decide +kernel
theorem dX6_layChoice_109 : decode cX6_layChoice 109 = .ok (.aload_n 0, 1) := by decide +kernel
theorem dX6_layChoice_110 : decode cX6_layChoice 110 = .ok (.getfield 17, 3) := by decide +kernel
theorem dX6_layChoice_113 : decode cX6_layChoice 113 = .ok (.iconst 1, 1) := by decide +kernel
theorem dX6_layChoice_114 : decode cX6_layChoice 114 = .ok (.iaload, 1) := by decide +kernel
theorem dX6_layChoice_115 : decode cX6_layChoice 115 = .ok (.if_icmp .ge 48, 3) := by decide +kernel
theorem dX6_layChoice_118 : decode cX6_layChoice 118 = .ok (.aload_n 0, 1) := by decide +kernel
theorem dX6_layChoice_119 : decode cX6_layChoice 119 = .ok (.getfield 46, 3) := by decide +kernel
theorem dX6_layChoice_122 : decode cX6_layChoice 122 = .ok (.iload 10, 2) := by decide +kernel
theorem dX6_layChoice_124 : decode cX6_layChoice 124 = .ok (.aload_n 0, 1) := by decide +kernel
theorem dX6_layChoice_125 : decode cX6_layChoice 125 = .ok (.iload 10, 2) := by decide +kernel
theorem dX6_layChoice_127 : decode cX6_layChoice 127 = .ok (.iconst 3, 1) := by decide +kernel
theorem dX6_layChoice_128 : decode cX6_layChoice 128 = .ok (.invokevirtual 168, 3) := by decide +kernel
theorem dX6_layChoice_131 : decode cX6_layChoice 131 = .ok (.iastore, 1) := by decide +kernel
theorem dX6_layChoice_132 : decode cX6_layChoice 132 = .ok (.iload 9, 2) := by decide +kernel
theorem dX6_layChoice_134 : decode cX6_layChoice 134 = .ok (.iload 10, 2) := by decide +kernel
theorem dX6_layChoice_136 : decode cX6_layChoice 136 = .ok (.ishr, 1) := by decide +kernel
theorem dX6_layChoice_137 : decode cX6_layChoice 137 = .ok (.iconst 1, 1) := by decide +kernel
theorem dX6_layChoice_138 : decode cX6_layChoice 138 = .ok (.iand, 1) := by decide +kernel
theorem dX6_layChoice_139 : decode cX6_layChoice 139 = .ok (.iconst 1, 1) := by decide +kernel
theorem dX6_layChoice_140 : decode cX6_layChoice 140 = .ok (.if_icmp .ne 17, 3) := by decide +kernel
theorem dX6_layChoice_143 : decode cX6_layChoice 143 = .ok (.aload_n 0, 1) := by decide +kernel
theorem dX6_layChoice_144 : decode cX6_layChoice 144 = .ok (.iload 10, 2) := by decide +kernel
theorem dX6_layChoice_146 : decode cX6_layChoice 146 = .ok (.iconst 3, 1) := by decide +kernel
theorem dX6_layChoice_147 : decode cX6_layChoice 147 = .ok (.aload_n 0, 1) := by decide +kernel
theorem dX6_layChoice_148 : decode cX6_layChoice 148 = .ok (.iload 10, 2) := by decide +kernel
theorem dX6_layChoice_150 : decode cX6_layChoice 150 = .ok (.iconst 4, 1) := by decide +kernel
theorem dX6_layChoice_151 : decode cX6_layChoice 151 = .ok (.invokevirtual 168, 3) := by decide +kernel
theorem dX6_layChoice_154 : decode cX6_layChoice 154 = .ok (.invokevirtual 193, 3) := by decide +kernel
theorem dX6_layChoice_157 : decode cX6_layChoice 157 = .ok (.iinc 10 1, 3) := by decide +kernel
theorem dX6_layChoice_160 : decode cX6_layChoice 160 = .ok (.goto (-53), 3) := by decide +kernel
theorem dX6_layChoice_163 : decode cX6_layChoice 163 = .ok (.aload_n 0, 1) := by decide +kernel
theorem dX6_layChoice_164 : decode cX6_layChoice 164 = .ok (.invokevirtual 187, 3) := by decide +kernel
theorem dX6_layChoice_167 : decode cX6_layChoice 167 = .ok (.iconst 0, 1) := by decide +kernel
theorem dX6_layChoice_168 : decode cX6_layChoice 168 = .ok (.istore 10, 2) := by decide +kernel
theorem dX6_layChoice_170 : decode cX6_layChoice 170 = .ok (.iload 10, 2) := by decide +kernel
theorem dX6_layChoice_172 : decode cX6_layChoice 172 = .ok (.aload_n 0, 1) := by decide +kernel
theorem dX6_layChoice_173 : decode cX6_layChoice 173 = .ok (.getfield 17, 3) := by decide +kernel
theorem dX6_layChoice_176 : decode cX6_layChoice 176 = .ok (.iconst 1, 1) := by decide +kernel
theorem dX6_layChoice_177 : decode cX6_layChoice 177 = .ok (.iaload, 1) := by decide +kernel
theorem dX6_layChoice_178 : decode cX6_layChoice 178 = .ok (.if_icmp .ge 23, 3) := by decide +kernel
theorem dX6_layChoice_181 : decode cX6_layChoice 181 = .ok (.aload_n 0, 1) := by decide +kernel
theorem dX6_layChoice_182 : decode cX6_layChoice 182 = .ok (.iload 10, 2) := by decide +kernel
theorem dX6_layChoice_184 : decode cX6_layChoice 184 = .ok (.iconst 3, 1) := by decide +kernel
theorem dX6_layChoice_185 : decode cX6_layChoice 185 = .ok (.aload_n 0, 1) := by decide +kernel
theorem dX6_layChoice_186 : decode cX6_layChoice 186 = .ok (.getfield 46, 3) := by decide +kernel
theorem dX6_layChoice_189 : decode cX6_layChoice 189 = .ok (.iload 10, 2) := by decide +kernel
theorem dX6_layChoice_191 : decode cX6_layChoice 191 = .ok (.iaload, 1) := by decide +kernel
theorem dX6_layChoice_192 : decode cX6_layChoice 192 = .ok (.invokevirtual 193, 3) := by decide +kernel
theorem dX6_layChoice_195 : decode cX6_layChoice 195 = .ok (.iinc 10 1, 3) := by decide +kernel
theorem dX6_layChoice_198 : decode cX6_layChoice 198 = .ok (.goto (-28), 3) := by decide +kernel
theorem dX6_layChoice_201 : decode cX6_layChoice 201 = .ok (.iconst 0, 1) := by decide +kernel
theorem dX6_layChoice_202 : decode cX6_layChoice 202 = .ok (.istore 10, 2) := by decide +kernel
theorem dX6_layChoice_204 : decode cX6_layChoice 204 = .ok (.iload 10, 2) := by decide +kernel
theorem dX6_layChoice_206 : decode cX6_layChoice 206 = .ok (.sipush 960, 3) := by decide +kernel
theorem dX6_layChoice_209 : decode cX6_layChoice 209 = .ok (.if_icmp .ge 83, 3) := by decide +kernel
theorem dX6_layChoice_212 : decode cX6_layChoice 212 = .ok (.aload_n 0, 1) := by decide +kernel
theorem dX6_layChoice_213 : decode cX6_layChoice 213 = .ok (.getfield 40, 3) := by decide +kernel
theorem dX6_layChoice_216 : decode cX6_layChoice 216 = .ok (.iload 10, 2) := by decide +kernel
theorem dX6_layChoice_218 : decode cX6_layChoice 218 = .ok (.iaload, 1) := by decide +kernel
theorem dX6_layChoice_219 : decode cX6_layChoice 219 = .ok (.aload_n 0, 1) := by decide +kernel
theorem dX6_layChoice_220 : decode cX6_layChoice 220 = .ok (.iload 10, 2) := by decide +kernel
theorem dX6_layChoice_222 : decode cX6_layChoice 222 = .ok (.invokevirtual 190, 3) := by decide +kernel
theorem dX6_layChoice_225 : decode cX6_layChoice 225 = .ok (.if_icmp .ne 6, 3) := by decide +kernel
theorem dX6_layChoice_228 : decode cX6_layChoice 228 = .ok (.goto 58, 3) := by decide +kernel
theorem dX6_layChoice_231 : decode cX6_layChoice 231 = .ok (.iload 10, 2) := by decide +kernel
theorem dX6_layChoice_233 : decode cX6_layChoice 233 = .ok (.iload_n 2, 1) := by decide +kernel
theorem dX6_layChoice_234 : decode cX6_layChoice 234 = .ok (.idiv, 1) := by decide +kernel
theorem dX6_layChoice_235 : decode cX6_layChoice 235 = .ok (.istore 11, 2) := by decide +kernel
theorem dX6_layChoice_237 : decode cX6_layChoice 237 = .ok (.iinc 3 1, 3) := by decide +kernel
theorem dX6_layChoice_240 : decode cX6_layChoice 240 = .ok (.iload 4, 2) := by decide +kernel
theorem dX6_layChoice_242 : decode cX6_layChoice 242 = .ok (.iload 11, 2) := by decide +kernel
theorem dX6_layChoice_244 : decode cX6_layChoice 244 = .ok (.iload 6, 2) := by decide +kernel
theorem dX6_layChoice_246 : decode cX6_layChoice 246 = .ok (.if_icmp .eq 7, 3) := by decide +kernel
theorem dX6_layChoice_249 : decode cX6_layChoice 249 = .ok (.iconst 1, 1) := by decide +kernel
theorem dX6_layChoice_250 : decode cX6_layChoice 250 = .ok (.goto 4, 3) := by decide +kernel
theorem dX6_layChoice_253 : decode cX6_layChoice 253 = .ok (.iconst 0, 1) := by decide +kernel
theorem dX6_layChoice_254 : decode cX6_layChoice 254 = .ok (.iadd, 1) := by decide +kernel
theorem dX6_layChoice_255 : decode cX6_layChoice 255 = .ok (.istore 4, 2) := by decide +kernel
theorem dX6_layChoice_257 : decode cX6_layChoice 257 = .ok (.iload 5, 2) := by decide +kernel
theorem dX6_layChoice_259 : decode cX6_layChoice 259 = .ok (.iload 11, 2) := by decide +kernel
theorem dX6_layChoice_261 : decode cX6_layChoice 261 = .ok (.iconst 4, 1) := by decide +kernel
theorem dX6_layChoice_262 : decode cX6_layChoice 262 = .ok (.idiv, 1) := by decide +kernel
theorem dX6_layChoice_263 : decode cX6_layChoice 263 = .ok (.iload 7, 2) := by decide +kernel
theorem dX6_layChoice_265 : decode cX6_layChoice 265 = .ok (.if_icmp .eq 7, 3) := by decide +kernel
theorem dX6_layChoice_268 : decode cX6_layChoice 268 = .ok (.iconst 1, 1) := by decide +kernel
theorem dX6_layChoice_269 : decode cX6_layChoice 269 = .ok (.goto 4, 3) := by decide +kernel
theorem dX6_layChoice_272 : decode cX6_layChoice 272 = .ok (.iconst 0, 1) := by decide +kernel
theorem dX6_layChoice_273 : decode cX6_layChoice 273 = .ok (.iadd, 1) := by decide +kernel
theorem dX6_layChoice_274 : decode cX6_layChoice 274 = .ok (.istore 5, 2) := by decide +kernel
theorem dX6_layChoice_276 : decode cX6_layChoice 276 = .ok (.iload 11, 2) := by decide +kernel
theorem dX6_layChoice_278 : decode cX6_layChoice 278 = .ok (.istore 6, 2) := by decide +kernel
theorem dX6_layChoice_280 : decode cX6_layChoice 280 = .ok (.iload 11, 2) := by decide +kernel
theorem dX6_layChoice_282 : decode cX6_layChoice 282 = .ok (.iconst 4, 1) := by decide +kernel
theorem dX6_layChoice_283 : decode cX6_layChoice 283 = .ok (.idiv, 1) := by decide +kernel
theorem dX6_layChoice_284 : decode cX6_layChoice 284 = .ok (.istore 7, 2) := by decide +kernel
theorem dX6_layChoice_286 : decode cX6_layChoice 286 = .ok (.iinc 10 1, 3) := by decide +kernel
theorem dX6_layChoice_289 : decode cX6_layChoice 289 = .ok (.goto (-85), 3) := by decide +kernel
theorem dX6_layChoice_292 : decode cX6_layChoice 292 = .ok (.aload_n 0, 1) := by decide +kernel
theorem dX6_layChoice_293 : decode cX6_layChoice 293 = .ok (.getfield 43, 3) := by decide +kernel
theorem dX6_layChoice_296 : decode cX6_layChoice 296 = .ok (.iconst 1, 1) := by decide +kernel
theorem dX6_layChoice_297 : decode cX6_layChoice 297 = .ok (.iload_n 3, 1) := by decide +kernel
theorem dX6_layChoice_298 : decode cX6_layChoice 298 = .ok (.iastore, 1) := by decide +kernel
theorem dX6_layChoice_299 : decode cX6_layChoice 299 = .ok (.aload_n 0, 1) := by decide +kernel
theorem dX6_layChoice_300 : decode cX6_layChoice 300 = .ok (.getfield 43, 3) := by decide +kernel
theorem dX6_layChoice_303 : decode cX6_layChoice 303 = .ok (.iconst 2, 1) := by decide +kernel
theorem dX6_layChoice_304 : decode cX6_layChoice 304 = .ok (.iload 4, 2) := by decide +kernel
theorem dX6_layChoice_306 : decode cX6_layChoice 306 = .ok (.iastore, 1) := by decide +kernel
theorem dX6_layChoice_307 : decode cX6_layChoice 307 = .ok (.aload_n 0, 1) := by decide +kernel
theorem dX6_layChoice_308 : decode cX6_layChoice 308 = .ok (.getfield 43, 3) := by decide +kernel
theorem dX6_layChoice_311 : decode cX6_layChoice 311 = .ok (.iconst 3, 1) := by decide +kernel
theorem dX6_layChoice_312 : decode cX6_layChoice 312 = .ok (.iload 5, 2) := by decide +kernel
theorem dX6_layChoice_314 : decode cX6_layChoice 314 = .ok (.iastore, 1) := by decide +kernel
theorem dX6_layChoice_315 : decode cX6_layChoice 315 = .ok (.aload_n 0, 1) := by decide +kernel
theorem dX6_layChoice_316 : decode cX6_layChoice 316 = .ok (.getfield 43, 3) := by decide +kernel
theorem dX6_layChoice_319 : decode cX6_layChoice 319 = .ok (.iconst 4, 1) := by decide +kernel
theorem dX6_layChoice_320 : decode cX6_layChoice 320 = .ok (.iload 8, 2) := by decide +kernel
theorem dX6_layChoice_322 : decode cX6_layChoice 322 = .ok (.aload_n 0, 1) := by decide +kernel
theorem dX6_layChoice_323 : decode cX6_layChoice 323 = .ok (.getfield 17, 3) := by decide +kernel
theorem dX6_layChoice_326 : decode cX6_layChoice 326 = .ok (.iconst 3, 1) := by decide +kernel
theorem dX6_layChoice_327 : decode cX6_layChoice 327 = .ok (.iaload, 1) := by decide +kernel
theorem dX6_layChoice_328 : decode cX6_layChoice 328 = .ok (.iadd, 1) := by decide +kernel
theorem dX6_layChoice_329 : decode cX6_layChoice 329 = .ok (.iconst 1, 1) := by decide +kernel
theorem dX6_layChoice_330 : decode cX6_layChoice 330 = .ok (.isub, 1) := by decide +kernel
theorem dX6_layChoice_331 : decode cX6_layChoice 331 = .ok (.aload_n 0, 1) := by decide +kernel
theorem dX6_layChoice_332 : decode cX6_layChoice 332 = .ok (.getfield 17, 3) := by decide +kernel
theorem dX6_layChoice_335 : decode cX6_layChoice 335 = .ok (.iconst 3, 1) := by decide +kernel
theorem dX6_layChoice_336 : decode cX6_layChoice 336 = .ok (.iaload, 1) := by decide +kernel
theorem dX6_layChoice_337 : decode cX6_layChoice 337 = .ok (.idiv, 1) := by decide +kernel
theorem dX6_layChoice_338 : decode cX6_layChoice 338 = .ok (.iastore, 1) := by decide +kernel
theorem dX6_layChoice_339 : decode cX6_layChoice 339 = .ok (.aload_n 0, 1) := by decide +kernel
theorem dX6_layChoice_340 : decode cX6_layChoice 340 = .ok (.getfield 43, 3) := by decide +kernel
theorem dX6_layChoice_343 : decode cX6_layChoice 343 = .ok (.iconst 5, 1) := by decide +kernel
theorem dX6_layChoice_344 : decode cX6_layChoice 344 = .ok (.iload 8, 2) := by decide +kernel
theorem dX6_layChoice_346 : decode cX6_layChoice 346 = .ok (.iastore, 1) := by decide +kernel
theorem dX6_layChoice_347 : decode cX6_layChoice 347 = .ok (.aload_n 0, 1) := by decide +kernel
theorem dX6_layChoice_348 : decode cX6_layChoice 348 = .ok (.getfield 43, 3) := by decide +kernel
theorem dX6_layChoice_351 : decode cX6_layChoice 351 = .ok (.bipush 6, 2) := by decide +kernel
theorem dX6_layChoice_353 : decode cX6_layChoice 353 = .ok (.aload_n 0, 1) := by decide +kernel
theorem dX6_layChoice_354 : decode cX6_layChoice 354 = .ok (.getfield 171, 3) := by decide +kernel
theorem dX6_layChoice_357 : decode cX6_layChoice 357 = .ok (.iastore, 1) := by decide +kernel
theorem dX6_layChoice_358 : decode cX6_layChoice 358 = .ok (.aload_n 0, 1) := by decide +kernel
theorem dX6_layChoice_359 : decode cX6_layChoice 359 = .ok (.getfield 43, 3) := by decide +kernel
theorem dX6_layChoice_362 : decode cX6_layChoice 362 = .ok (.iconst 0, 1) := by decide +kernel
theorem dX6_layChoice_363 : decode cX6_layChoice 363 = .ok (.iconst 0, 1) := by decide +kernel
theorem dX6_layChoice_364 : decode cX6_layChoice 364 = .ok (.iastore, 1) := by decide +kernel
theorem dX6_layChoice_365 : decode cX6_layChoice 365 = .ok (.iconst 0, 1) := by decide +kernel
theorem dX6_layChoice_366 : decode cX6_layChoice 366 = .ok (.istore 10, 2) := by decide +kernel
theorem dX6_layChoice_368 : decode cX6_layChoice 368 = .ok (.iload 10, 2) := by decide +kernel
theorem dX6_layChoice_370 : decode cX6_layChoice 370 = .ok (.iconst 5, 1) := by decide +kernel
theorem dX6_layChoice_371 : decode cX6_layChoice 371 = .ok (.if_icmp .ge 37, 3) := by decide +kernel
theorem dX6_layChoice_374 : decode cX6_layChoice 374 = .ok (.aload_n 0, 1) := by decide +kernel
theorem dX6_layChoice_375 : decode cX6_layChoice 375 = .ok (.getfield 43, 3) := by decide +kernel
theorem dX6_layChoice_378 : decode cX6_layChoice 378 = .ok (.iconst 0, 1) := by decide +kernel
theorem dX6_layChoice_379 : decode cX6_layChoice 379 = .ok (.dup2, 1) := by decide +kernel
theorem dX6_layChoice_380 : decode cX6_layChoice 380 = .ok (.iaload, 1) := by decide +kernel
theorem dX6_layChoice_381 : decode cX6_layChoice 381 = .ok (.aload_n 0, 1) := by decide +kernel
theorem dX6_layChoice_382 : decode cX6_layChoice 382 = .ok (.getfield 43, 3) := by decide +kernel
theorem dX6_layChoice_385 : decode cX6_layChoice 385 = .ok (.iload 10, 2) := by decide +kernel
theorem dX6_layChoice_387 : decode cX6_layChoice 387 = .ok (.iconst 1, 1) := by decide +kernel
theorem dX6_layChoice_388 : decode cX6_layChoice 388 = .ok (.iadd, 1) := by decide +kernel
theorem dX6_layChoice_389 : decode cX6_layChoice 389 = .ok (.iaload, 1) := by decide +kernel
theorem dX6_layChoice_390 : decode cX6_layChoice 390 = .ok (.aload_n 0, 1) := by decide +kernel
theorem dX6_layChoice_391 : decode cX6_layChoice 391 = .ok (.getfield 17, 3) := by decide +kernel
theorem dX6_layChoice_394 : decode cX6_layChoice 394 = .ok (.iconst 4, 1) := by decide +kernel
theorem dX6_layChoice_395 : decode cX6_layChoice 395 = .ok (.iload 10, 2) := by decide +kernel
theorem dX6_layChoice_397 : decode cX6_layChoice 397 = .ok (.iadd, 1) := by decide +kernel
theorem dX6_layChoice_398 : decode cX6_layChoice 398 = .ok (.iaload, 1) := by decide +kernel
