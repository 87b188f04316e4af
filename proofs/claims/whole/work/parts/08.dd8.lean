set_option maxRecDepth 20000 in
theorem ggX6_init_X6_layBill : GoodIn wsX6_init wsX6_layBill := goodIn_r _ [21] (by decide +kernel) (by decide +kernel)
set_option maxRecDepth 20000 in
theorem gX6_init_X6_layBill : GoodIn wsX6_init (va_wsS RX6 49 yX6_layBill wsX6_layBill) := goodIn_app (goodIn_of _ (by decide +kernel)) ggX6_init_X6_layBill
theorem dX6_init_0 : decode cX6_init 0 = .ok (.aload_n 0, 1) := by decide +kernel
theorem dX6_init_1 : decode cX6_init 1 = .ok (.invokespecial 3, 3) := by decide +kernel
theorem dX6_init_4 : decode cX6_init 4 = .ok (.aload_n 0, 1) := by decide +kernel
theorem dX6_init_5 : decode cX6_init 5 = .ok (.sipush 500, 3) := by decide +kernel
theorem dX6_init_8 : decode cX6_init 8 = .ok (.newarray .int, 2) := by decide +kernel
theorem dX6_init_10 : decode cX6_init 10 = .ok (.putfield 9, 3) := by decide +kernel
theorem dX6_init_13 : decode cX6_init 13 = .ok (.aload_n 0, 1) := by decide +kernel
theorem dX6_init_14 : decode cX6_init 14 = .ok (.iconst (-1), 1) := by decide +kernel
theorem dX6_init_15 : decode cX6_init 15 = .ok (.putfield 13, 3) := by decide +kernel
theorem dX6_init_18 : decode cX6_init 18 = .ok (.aload_n 0, 1) := by decide +kernel
theorem dX6_init_19 : decode cX6_init 19 = .ok (.sipush 153, 3) := by decide +kernel
theorem dX6_init_22 : decode cX6_init 22 = .ok (.newarray .int, 2) := by decide +kernel
theorem dX6_init_24 : decode cX6_init 24 = .ok (.putfield 17, 3) := by decide +kernel
theorem dX6_init_27 : decode cX6_init 27 = .ok (.aload_n 0, 1) := by decide +kernel
theorem dX6_init_28 : decode cX6_init 28 = .ok (.sipush 153, 3) := by decide +kernel
theorem dX6_init_31 : decode cX6_init 31 = .ok (.newarray .int, 2) := by decide +kernel
theorem dX6_init_33 : decode cX6_init 33 = .ok (.putfield 20, 3) := by decide +kernel
theorem dX6_init_36 : decode cX6_init 36 = .ok (.aload_n 0, 1) := by decide +kernel
theorem dX6_init_37 : decode cX6_init 37 = .ok (.bipush 8, 2) := by decide +kernel
theorem dX6_init_39 : decode cX6_init 39 = .ok (.sipush 153, 3) := by decide +kernel
theorem dX6_init_42 : decode cX6_init 42 = .ok (.multianewarray 23 2, 4) := by decide +kernel
theorem dX6_init_46 : decode cX6_init 46 = .ok (.putfield 25, 3) := by decide +kernel
theorem dX6_init_49 : decode cX6_init 49 = .ok (.aload_n 0, 1) := by decide +kernel
theorem dX6_init_50 : decode cX6_init 50 = .ok (.bipush 24, 2) := by decide +kernel
theorem dX6_init_52 : decode cX6_init 52 = .ok (.newarray .int, 2) := by decide +kernel
theorem dX6_init_54 : decode cX6_init 54 = .ok (.putfield 28, 3) := by decide +kernel
theorem dX6_init_57 : decode cX6_init 57 = .ok (.aload_n 0, 1) := by decide +kernel
theorem dX6_init_58 : decode cX6_init 58 = .ok (.bipush 24, 2) := by decide +kernel
theorem dX6_init_60 : decode cX6_init 60 = .ok (.newarray .int, 2) := by decide +kernel
theorem dX6_init_62 : decode cX6_init 62 = .ok (.putfield 31, 3) := by decide +kernel
theorem dX6_init_65 : decode cX6_init 65 = .ok (.aload_n 0, 1) := by decide +kernel
theorem dX6_init_66 : decode cX6_init 66 = .ok (.bipush 24, 2) := by decide +kernel
theorem dX6_init_68 : decode cX6_init 68 = .ok (.newarray .int, 2) := by decide +kernel
theorem dX6_init_70 : decode cX6_init 70 = .ok (.putfield 34, 3) := by decide +kernel
theorem dX6_init_73 : decode cX6_init 73 = .ok (.aload_n 0, 1) := by decide +kernel
theorem dX6_init_74 : decode cX6_init 74 = .ok (.sipush 960, 3) := by decide +kernel
theorem dX6_init_77 : decode cX6_init 77 = .ok (.newarray .int, 2) := by decide +kernel
theorem dX6_init_79 : decode cX6_init 79 = .ok (.putfield 37, 3) := by decide +kernel
theorem dX6_init_82 : decode cX6_init 82 = .ok (.aload_n 0, 1) := by decide +kernel
theorem dX6_init_83 : decode cX6_init 83 = .ok (.sipush 960, 3) := by decide +kernel
theorem dX6_init_86 : decode cX6_init 86 = .ok (.newarray .int, 2) := by decide +kernel
theorem dX6_init_88 : decode cX6_init 88 = .ok (.putfield 40, 3) := by decide +kernel
theorem dX6_init_91 : decode cX6_init 91 = .ok (.aload_n 0, 1) := by decide +kernel
theorem dX6_init_92 : decode cX6_init 92 = .ok (.bipush 7, 2) := by decide +kernel
theorem dX6_init_94 : decode cX6_init 94 = .ok (.newarray .int, 2) := by decide +kernel
theorem dX6_init_96 : decode cX6_init 96 = .ok (.putfield 43, 3) := by decide +kernel
theorem dX6_init_99 : decode cX6_init 99 = .ok (.aload_n 0, 1) := by decide +kernel
theorem dX6_init_100 : decode cX6_init 100 = .ok (.bipush 24, 2) := by decide +kernel
theorem dX6_init_102 : decode cX6_init 102 = .ok (.newarray .int, 2) := by decide +kernel
theorem dX6_init_104 : decode cX6_init 104 = .ok (.putfield 46, 3) := by decide +kernel
theorem dX6_init_107 : decode cX6_init 107 = .ok (.aload_n 0, 1) := by decide +kernel
theorem dX6_init_108 : decode cX6_init 108 = .ok (.getfield 17, 3) := by decide +kernel
theorem dX6_init_111 : decode cX6_init 111 = .ok (.bipush 20, 2) := by decide +kernel
theorem dX6_init_113 : decode cX6_init 113 = .ok (.invokestatic 49, 3) := by decide +kernel
theorem dX6_init_116 : decode cX6_init 116 = .ok (.return_, 1) := by decide +kernel
theorem dX6_thrown_0 : decode cX6_thrown 0 = .ok (.aload_n 0, 1) := by decide +kernel
theorem dX6_thrown_1 : decode cX6_thrown 1 = .ok (.getfield 53, 3) := by decide +kernel
theorem dX6_thrown_4 : decode cX6_thrown 4 = .ok (.ireturn, 1) := by decide +kernel
theorem dX6_fails_0 : decode cX6_fails 0 = .ok (.iload_n 1, 1) := by decide +kernel
theorem dX6_fails_1 : decode cX6_fails 1 = .ok (.ifCond .eq 15, 3) := by decide +kernel
theorem dX6_fails_4 : decode cX6_fails 4 = .ok (.aload_n 0, 1) := by decide +kernel
theorem dX6_fails_5 : decode cX6_fails 5 = .ok (.getfield 53, 3) := by decide +kernel
theorem dX6_fails_8 : decode cX6_fails 8 = .ok (.ifCond .ne 8, 3) := by decide +kernel
theorem dX6_fails_11 : decode cX6_fails 11 = .ok (.aload_n 0, 1) := by decide +kernel
theorem dX6_fails_12 : decode cX6_fails 12 = .ok (.iload_n 2, 1) := by decide +kernel
theorem dX6_fails_13 : decode cX6_fails 13 = .ok (.putfield 53, 3) := by decide +kernel
theorem dX6_fails_16 : decode cX6_fails 16 = .ok (.aload_n 0, 1) := by decide +kernel
theorem dX6_fails_17 : decode cX6_fails 17 = .ok (.getfield 53, 3) := by decide +kernel
theorem dX6_fails_20 : decode cX6_fails 20 = .ok (.ifCond .eq 7, 3) := by decide +kernel
theorem dX6_fails_23 : decode cX6_fails 23 = .ok (.iconst 1, 1) := by decide +kernel
theorem dX6_fails_24 : decode cX6_fails 24 = .ok (.goto 4, 3) := by decide +kernel
theorem dX6_fails_27 : decode cX6_fails 27 = .ok (.iconst 0, 1) := by decide +kernel
theorem dX6_fails_28 : decode cX6_fails 28 = .ok (.ireturn, 1) := by decide +kernel
theorem dX6_in_0 : decode cX6_in 0 = .ok (.iload_n 0, 1) := by decide +kernel
theorem dX6_in_1 : decode cX6_in 1 = .ok (.iload_n 1, 1) := by decide +kernel
theorem dX6_in_2 : decode cX6_in 2 = .ok (.if_icmp .lt 12, 3) := by decide +kernel
theorem dX6_in_5 : decode cX6_in 5 = .ok (.iload_n 0, 1) := by decide +kernel
theorem dX6_in_6 : decode cX6_in 6 = .ok (.iload_n 2, 1) := by decide +kernel
theorem dX6_in_7 : decode cX6_in 7 = .ok (.if_icmp .gt 7, 3) := by decide +kernel
theorem dX6_in_10 : decode cX6_in 10 = .ok (.iconst 1, 1) := by decide +kernel
theorem dX6_in_11 : decode cX6_in 11 = .ok (.goto 4, 3) := by decide +kernel
theorem dX6_in_14 : decode cX6_in 14 = .ok (.iconst 0, 1) := by decide +kernel
theorem dX6_in_15 : decode cX6_in 15 = .ok (.ireturn, 1) := by decide +kernel
theorem dX6_min_0 : decode cX6_min 0 = .ok (.iload_n 0, 1) := by decide +kernel
theorem dX6_min_1 : decode cX6_min 1 = .ok (.iload_n 1, 1) := by decide +kernel
theorem dX6_min_2 : decode cX6_min 2 = .ok (.if_icmp .ge 7, 3) := by decide +kernel
theorem dX6_min_5 : decode cX6_min 5 = .ok (.iload_n 0, 1) := by decide +kernel
theorem dX6_min_6 : decode cX6_min 6 = .ok (.goto 4, 3) := by decide +kernel
theorem dX6_min_9 : decode cX6_min 9 = .ok (.iload_n 1, 1) := by decide +kernel
theorem dX6_min_10 : decode cX6_min 10 = .ok (.ireturn, 1) := by decide +kernel
theorem dX6_copy_0 : decode cX6_copy 0 = .ok (.iconst 0, 1) := by decide +kernel
theorem dX6_copy_1 : decode cX6_copy 1 = .ok (.istore_n 2, 1) := by decide +kernel
theorem dX6_copy_2 : decode cX6_copy 2 = .ok (.iload_n 2, 1) := by decide +kernel
theorem dX6_copy_3 : decode cX6_copy 3 = .ok (.sipush 153, 3) := by decide +kernel
theorem dX6_copy_6 : decode cX6_copy 6 = .ok (.if_icmp .ge 15, 3) := by decide +kernel
theorem dX6_copy_9 : decode cX6_copy 9 = .ok (.aload_n 1, 1) := by decide +kernel
theorem dX6_copy_10 : decode cX6_copy 10 = .ok (.iload_n 2, 1) := by decide +kernel
theorem dX6_copy_11 : decode cX6_copy 11 = .ok (.aload_n 0, 1) := by decide +kernel
theorem dX6_copy_12 : decode cX6_copy 12 = .ok (.iload_n 2, 1) := by decide +kernel
theorem dX6_copy_13 : decode cX6_copy 13 = .ok (.iaload, 1) := by decide +kernel
theorem dX6_copy_14 : decode cX6_copy 14 = .ok (.iastore, 1) := by decide +kernel
theorem dX6_copy_15 : decode cX6_copy 15 = .ok (.iinc 2 1, 3) := by decide +kernel
theorem dX6_copy_18 : decode cX6_copy 18 = .ok (.goto (-16), 3) := by decide +kernel
theorem dX6_copy_21 : decode cX6_copy 21 = .ok (.return_, 1) := by decide +kernel
theorem dX6_layBill_0 : decode cX6_layBill 0 = .ok (.iconst 0, 1) := by decide +kernel
theorem dX6_layBill_1 : decode cX6_layBill 1 = .ok (.istore_n 2, 1) := by decide +kernel
theorem dX6_layBill_2 : decode cX6_layBill 2 = .ok (.iload_n 2, 1) := by decide +kernel
theorem dX6_layBill_3 : decode cX6_layBill 3 = .ok (.sipush 153, 3) := by decide +kernel
theorem dX6_layBill_6 : decode cX6_layBill 6 = .ok (.if_icmp .ge 13, 3) := by decide +kernel
theorem dX6_layBill_9 : decode cX6_layBill 9 = .ok (.aload_n 0, 1) := by decide +kernel
theorem dX6_layBill_10 : decode cX6_layBill 10 = .ok (.iload_n 2, 1) := by decide +kernel
theorem dX6_layBill_11 : decode cX6_layBill 11 = .ok (.iconst 0, 1) := by decide +kernel
theorem dX6_layBill_12 : decode cX6_layBill 12 = .ok (.iastore, 1) := by decide +kernel
theorem dX6_layBill_13 : decode cX6_layBill 13 = .ok (.iinc 2 1, 3) := by decide +kernel
theorem dX6_layBill_16 : decode cX6_layBill 16 = .ok (.goto (-14), 3) := by decide +kernel
theorem dX6_layBill_19 : decode cX6_layBill 19 = .ok (.aload_n 0, 1) := by decide +kernel
theorem dX6_layBill_20 : decode cX6_layBill 20 = .ok (.iconst 0, 1) := by decide +kernel
theorem dX6_layBill_21 : decode cX6_layBill 21 = .ok (.iload_n 1, 1) := by decide +kernel
theorem dX6_layBill_22 : decode cX6_layBill 22 = .ok (.iastore, 1) := by decide +kernel
theorem dX6_layBill_23 : decode cX6_layBill 23 = .ok (.aload_n 0, 1) := by decide +kernel
theorem dX6_layBill_24 : decode cX6_layBill 24 = .ok (.iconst 3, 1) := by decide +kernel
theorem dX6_layBill_25 : decode cX6_layBill 25 = .ok (.iconst 3, 1) := by decide +kernel
theorem dX6_layBill_26 : decode cX6_layBill 26 = .ok (.iastore, 1) := by decide +kernel
theorem dX6_layBill_27 : decode cX6_layBill 27 = .ok (.aload_n 0, 1) := by decide +kernel
theorem dX6_layBill_28 : decode cX6_layBill 28 = .ok (.iconst 4, 1) := by decide +kernel
theorem dX6_layBill_29 : decode cX6_layBill 29 = .ok (.iconst 1, 1) := by decide +kernel
theorem dX6_layBill_30 : decode cX6_layBill 30 = .ok (.iastore, 1) := by decide +kernel
theorem dX6_layBill_31 : decode cX6_layBill 31 = .ok (.aload_n 0, 1) := by decide +kernel
theorem dX6_layBill_32 : decode cX6_layBill 32 = .ok (.iconst 5, 1) := by decide +kernel
theorem dX6_layBill_33 : decode cX6_layBill 33 = .ok (.iconst 5, 1) := by decide +kernel
theorem dX6_layBill_34 : decode cX6_layBill 34 = .ok (.iastore, 1) := by decide +kernel
theorem dX6_layBill_35 : decode cX6_layBill 35 = .ok (.aload_n 0, 1) := by decide +kernel
theorem dX6_layBill_36 : decode cX6_layBill 36 = .ok (.bipush 6, 2) := by decide +kernel
theorem dX6_layBill_38 : decode cX6_layBill 38 = .ok (.bipush 10, 2) := by decide +kernel
theorem dX6_layBill_40 : decode cX6_layBill 40 = .ok (.iastore, 1) := by decide +kernel
theorem dX6_layBill_41 : decode cX6_layBill 41 = .ok (.aload_n 0, 1) := by decide +kernel
theorem dX6_layBill_42 : decode cX6_layBill 42 = .ok (.bipush 7, 2) := by decide +kernel
theorem dX6_layBill_44 : decode cX6_layBill 44 = .ok (.bipush 8, 2) := by decide +kernel
theorem dX6_layBill_46 : decode cX6_layBill 46 = .ok (.iastore, 1) := by decide +kernel
theorem dX6_layBill_47 : decode cX6_layBill 47 = .ok (.aload_n 0, 1) := by decide +kernel
theorem dX6_layBill_48 : decode cX6_layBill 48 = .ok (.bipush 8, 2) := by decide +kernel
theorem dX6_layBill_50 : decode cX6_layBill 50 = .ok (.iconst 2, 1) := by decide +kernel
theorem dX6_layBill_51 : decode cX6_layBill 51 = .ok (.iastore, 1) := by decide +kernel
theorem dX6_layBill_52 : decode cX6_layBill 52 = .ok (.return_, 1) := by decide +kernel
theorem dX6_lotAt_0 : decode cX6_lotAt 0 = .ok (.bipush 9, 2) := by decide +kernel
theorem dX6_lotAt_2 : decode cX6_lotAt 2 = .ok (.bipush 6, 2) := by decide +kernel
theorem dX6_lotAt_4 : decode cX6_lotAt 4 = .ok (.iload_n 0, 1) := by decide +kernel
theorem dX6_lotAt_5 : decode cX6_lotAt 5 = .ok (.imul, 1) := by decide +kernel
theorem dX6_lotAt_6 : decode cX6_lotAt 6 = .ok (.iadd, 1) := by decide +kernel
theorem dX6_lotAt_7 : decode cX6_lotAt 7 = .ok (.ireturn, 1) := by decide +kernel
set_option maxRecDepth 20000 in
theorem ggX6_differs_X6_lotAt : GoodIn wsX6_differs wsX6_lotAt := goodIn_r _ [4] (by decide +kernel) (by decide +kernel)
set_option maxRecDepth 20000 in
theorem gX6_differs_X6_lotAt : GoodIn wsX6_differs (va_wsS RX6 56 yX6_lotAt wsX6_lotAt) := goodIn_app (goodIn_of _ (by decide +kernel)) ggX6_differs_X6_lotAt
theorem dX6_differs_0 : decode cX6_differs 0 = .ok (.aload_n 0, 1) := by decide +kernel
theorem dX6_differs_1 : decode cX6_differs 1 = .ok (.iload_n 1, 1) := by decide +kernel
theorem dX6_differs_2 : decode cX6_differs 2 = .ok (.invokestatic 56, 3) := by decide +kernel
theorem dX6_differs_5 : decode cX6_differs 5 = .ok (.iconst 3, 1) := by decide +kernel
theorem dX6_differs_6 : decode cX6_differs 6 = .ok (.iadd, 1) := by decide +kernel
theorem dX6_differs_7 : decode cX6_differs 7 = .ok (.iaload, 1) := by decide +kernel
theorem dX6_differs_8 : decode cX6_differs 8 = .ok (.aload_n 0, 1) := by decide +kernel
theorem dX6_differs_9 : decode cX6_differs 9 = .ok (.iload_n 1, 1) := by decide +kernel
theorem dX6_differs_10 : decode cX6_differs 10 = .ok (.invokestatic 56, 3) := by decide +kernel
theorem dX6_differs_13 : decode cX6_differs 13 = .ok (.iconst 4, 1) := by decide +kernel
theorem dX6_differs_14 : decode cX6_differs 14 = .ok (.iadd, 1) := by decide +kernel
theorem dX6_differs_15 : decode cX6_differs 15 = .ok (.iaload, 1) := by decide +kernel
theorem dX6_differs_16 : decode cX6_differs 16 = .ok (.if_icmp .eq 7, 3) := by decide +kernel
theorem dX6_differs_19 : decode cX6_differs 19 = .ok (.iconst 1, 1) := by decide +kernel
theorem dX6_differs_20 : decode cX6_differs 20 = .ok (.goto 4, 3) := by decide +kernel
theorem dX6_differs_23 : decode cX6_differs 23 = .ok (.iconst 0, 1) := by decide +kernel
theorem dX6_differs_24 : decode cX6_differs 24 = .ok (.ireturn, 1) := by decide +kernel
set_option maxRecDepth 20000 in
theorem ggX6_different_X6_differs : GoodIn wsX6_different wsX6_differs := goodIn_r _ [4, 5, 6, 3, 7] (by decide +kernel) (by decide +kernel)
set_option maxRecDepth 20000 in
theorem gX6_different_X6_differs : GoodIn wsX6_different (va_wsS RX6 60 yX6_differs wsX6_differs) := goodIn_app (goodIn_of _ (by decide +kernel)) ggX6_different_X6_differs
theorem dX6_different_0 : decode cX6_different 0 = .ok (.iconst 0, 1) := by decide +kernel
theorem dX6_different_1 : decode cX6_different 1 = .ok (.istore_n 1, 1) := by decide +kernel
theorem dX6_different_2 : decode cX6_different 2 = .ok (.iconst 0, 1) := by decide +kernel
theorem dX6_different_3 : decode cX6_different 3 = .ok (.istore_n 2, 1) := by decide +kernel
theorem dX6_different_4 : decode cX6_different 4 = .ok (.iload_n 2, 1) := by decide +kernel
theorem dX6_different_5 : decode cX6_different 5 = .ok (.aload_n 0, 1) := by decide +kernel
theorem dX6_different_6 : decode cX6_different 6 = .ok (.iconst 1, 1) := by decide +kernel
theorem dX6_different_7 : decode cX6_different 7 = .ok (.iaload, 1) := by decide +kernel
theorem dX6_different_8 : decode cX6_different 8 = .ok (.if_icmp .ge 25, 3) := by decide +kernel
theorem dX6_different_11 : decode cX6_different 11 = .ok (.iload_n 1, 1) := by decide +kernel
theorem dX6_different_12 : decode cX6_different 12 = .ok (.aload_n 0, 1) := by decide +kernel
theorem dX6_different_13 : decode cX6_different 13 = .ok (.iload_n 2, 1) := by decide +kernel
theorem dX6_different_14 : decode cX6_different 14 = .ok (.invokestatic 60, 3) := by decide +kernel
theorem dX6_different_17 : decode cX6_different 17 = .ok (.ifCond .eq 7, 3) := by decide +kernel
theorem dX6_different_20 : decode cX6_different 20 = .ok (.iconst 1, 1) := by decide +kernel
theorem dX6_different_21 : decode cX6_different 21 = .ok (.goto 4, 3) := by decide +kernel
theorem dX6_different_24 : decode cX6_different 24 = .ok (.iconst 0, 1) := by decide +kernel
theorem dX6_different_25 : decode cX6_different 25 = .ok (.iadd, 1) := by decide +kernel
theorem dX6_different_26 : decode cX6_different 26 = .ok (.istore_n 1, 1) := by decide +kernel
theorem dX6_different_27 : decode cX6_different 27 = .ok (.iinc 2 1, 3) := by decide +kernel
theorem dX6_different_30 : decode cX6_different 30 = .ok (.goto (-26), 3) := by decide +kernel
theorem dX6_different_33 : decode cX6_different 33 = .ok (.iload_n 1, 1) := by decide +kernel
theorem dX6_different_34 : decode cX6_different 34 = .ok (.ireturn, 1) := by decide +kernel
theorem dX6_append_0 : decode cX6_append 0 = .ok (.aload_n 0, 1) := by decide +kernel
theorem dX6_append_1 : decode cX6_append 1 = .ok (.iconst 0, 1) := by decide +kernel
theorem dX6_append_2 : decode cX6_append 2 = .ok (.putfield 53, 3) := by decide +kernel
theorem dX6_append_5 : decode cX6_append 5 = .ok (.aload_n 0, 1) := by decide +kernel
theorem dX6_append_6 : decode cX6_append 6 = .ok (.getfield 64, 3) := by decide +kernel
theorem dX6_append_9 : decode cX6_append 9 = .ok (.bipush 20, 2) := by decide +kernel
theorem dX6_append_11 : decode cX6_append 11 = .ok (.iadd, 1) := by decide +kernel
theorem dX6_append_12 : decode cX6_append 12 = .ok (.sipush 500, 3) := by decide +kernel
theorem dX6_append_15 : decode cX6_append 15 = .ok (.if_icmp .le 5, 3) := by decide +kernel
theorem dX6_append_18 : decode cX6_append 18 = .ok (.iconst (-1), 1) := by decide +kernel
theorem dX6_append_19 : decode cX6_append 19 = .ok (.ireturn, 1) := by decide +kernel
theorem dX6_append_20 : decode cX6_append 20 = .ok (.iconst 0, 1) := by decide +kernel
theorem dX6_append_21 : decode cX6_append 21 = .ok (.istore 6, 2) := by decide +kernel
theorem dX6_append_23 : decode cX6_append 23 = .ok (.iload 6, 2) := by decide +kernel
theorem dX6_append_25 : decode cX6_append 25 = .ok (.bipush 20, 2) := by decide +kernel
theorem dX6_append_27 : decode cX6_append 27 = .ok (.if_icmp .ge 93, 3) := by decide +kernel
theorem dX6_append_30 : decode cX6_append 30 = .ok (.iload 6, 2) := by decide +kernel
theorem dX6_append_32 : decode cX6_append 32 = .ok (.iconst 4, 1) := by decide +kernel
theorem dX6_append_33 : decode cX6_append 33 = .ok (.if_icmp .ge 7, 3) := by decide +kernel
theorem dX6_append_36 : decode cX6_append 36 = .ok (.iload_n 1, 1) := by decide +kernel
theorem dX6_append_37 : decode cX6_append 37 = .ok (.goto 39, 3) := by decide +kernel
theorem dX6_append_40 : decode cX6_append 40 = .ok (.iload 6, 2) := by decide +kernel
theorem dX6_append_42 : decode cX6_append 42 = .ok (.bipush 8, 2) := by decide +kernel
theorem dX6_append_44 : decode cX6_append 44 = .ok (.if_icmp .ge 7, 3) := by decide +kernel
theorem dX6_append_47 : decode cX6_append 47 = .ok (.iload_n 2, 1) := by decide +kernel
theorem dX6_append_48 : decode cX6_append 48 = .ok (.goto 28, 3) := by decide +kernel
theorem dX6_append_51 : decode cX6_append 51 = .ok (.iload 6, 2) := by decide +kernel
theorem dX6_append_53 : decode cX6_append 53 = .ok (.bipush 12, 2) := by decide +kernel
theorem dX6_append_55 : decode cX6_append 55 = .ok (.if_icmp .ge 7, 3) := by decide +kernel
theorem dX6_append_58 : decode cX6_append 58 = .ok (.iload_n 3, 1) := by decide +kernel
theorem dX6_append_59 : decode cX6_append 59 = .ok (.goto 17, 3) := by decide +kernel
theorem dX6_append_62 : decode cX6_append 62 = .ok (.iload 6, 2) := by decide +kernel
theorem dX6_append_64 : decode cX6_append 64 = .ok (.bipush 16, 2) := by decide +kernel
theorem dX6_append_66 : decode cX6_append 66 = .ok (.if_icmp .ge 8, 3) := by decide +kernel
theorem dX6_append_69 : decode cX6_append 69 = .ok (.iload 4, 2) := by decide +kernel
theorem dX6_append_71 : decode cX6_append 71 = .ok (.goto 5, 3) := by decide +kernel
theorem dX6_append_74 : decode cX6_append 74 = .ok (.iload 5, 2) := by decide +kernel
theorem dX6_append_76 : decode cX6_append 76 = .ok (.istore 7, 2) := by decide +kernel
theorem dX6_append_78 : decode cX6_append 78 = .ok (.aload_n 0, 1) := by decide +kernel
theorem dX6_append_79 : decode cX6_append 79 = .ok (.getfield 9, 3) := by decide +kernel
theorem dX6_append_82 : decode cX6_append 82 = .ok (.aload_n 0, 1) := by decide +kernel
theorem dX6_append_83 : decode cX6_append 83 = .ok (.getfield 64, 3) := by decide +kernel
theorem dX6_append_86 : decode cX6_append 86 = .ok (.iload 7, 2) := by decide +kernel
theorem dX6_append_88 : decode cX6_append 88 = .ok (.bipush 24, 2) := by decide +kernel
theorem dX6_append_90 : decode cX6_append 90 = .ok (.bipush 8, 2) := by decide +kernel
theorem dX6_append_92 : decode cX6_append 92 = .ok (.iload 6, 2) := by decide +kernel
theorem dX6_append_94 : decode cX6_append 94 = .ok (.iconst 4, 1) := by decide +kernel
theorem dX6_append_95 : decode cX6_append 95 = .ok (.irem, 1) := by decide +kernel
theorem dX6_append_96 : decode cX6_append 96 = .ok (.imul, 1) := by decide +kernel
theorem dX6_append_97 : decode cX6_append 97 = .ok (.isub, 1) := by decide +kernel
theorem dX6_append_98 : decode cX6_append 98 = .ok (.ishr, 1) := by decide +kernel
theorem dX6_append_99 : decode cX6_append 99 = .ok (.sipush 255, 3) := by decide +kernel
theorem dX6_append_102 : decode cX6_append 102 = .ok (.iand, 1) := by decide +kernel
theorem dX6_append_103 : decode cX6_append 103 = .ok (.iastore, 1) := by decide +kernel
theorem dX6_append_104 : decode cX6_append 104 = .ok (.aload_n 0, 1) := by decide +kernel
theorem dX6_append_105 : decode cX6_append 105 = .ok (.dup, 1) := by decide +kernel
theorem dX6_append_106 : decode cX6_append 106 = .ok (.getfield 64, 3) := by decide +kernel
theorem dX6_append_109 : decode cX6_append 109 = .ok (.iconst 1, 1) := by decide +kernel
theorem dX6_append_110 : decode cX6_append 110 = .ok (.iadd, 1) := by decide +kernel
theorem dX6_append_111 : decode cX6_append 111 = .ok (.putfield 64, 3) := by decide +kernel
theorem dX6_append_114 : decode cX6_append 114 = .ok (.iinc 6 1, 3) := by decide +kernel
theorem dX6_append_117 : decode cX6_append 117 = .ok (.goto (-94), 3) := by decide +kernel
theorem dX6_append_120 : decode cX6_append 120 = .ok (.aload_n 0, 1) := by decide +kernel
theorem dX6_append_121 : decode cX6_append 121 = .ok (.getfield 64, 3) := by decide +kernel
theorem dX6_append_124 : decode cX6_append 124 = .ok (.ireturn, 1) := by decide +kernel
theorem dX6_byteAt_0 : decode cX6_byteAt 0 = .ok (.iload_n 1, 1) := by decide +kernel
theorem dX6_byteAt_1 : decode cX6_byteAt 1 = .ok (.aload_n 0, 1) := by decide +kernel
theorem dX6_byteAt_2 : decode cX6_byteAt 2 = .ok (.getfield 67, 3) := by decide +kernel
theorem dX6_byteAt_5 : decode cX6_byteAt 5 = .ok (.if_icmp .ge 12, 3) := by decide +kernel
theorem dX6_byteAt_8 : decode cX6_byteAt 8 = .ok (.aload_n 0, 1) := by decide +kernel
theorem dX6_byteAt_9 : decode cX6_byteAt 9 = .ok (.getfield 9, 3) := by decide +kernel
theorem dX6_byteAt_12 : decode cX6_byteAt 12 = .ok (.iload_n 1, 1) := by decide +kernel
theorem dX6_byteAt_13 : decode cX6_byteAt 13 = .ok (.iaload, 1) := by decide +kernel
theorem dX6_byteAt_14 : decode cX6_byteAt 14 = .ok (.goto 4, 3) := by decide +kernel
theorem dX6_byteAt_17 : decode cX6_byteAt 17 = .ok (.iconst (-1), 1) := by decide +kernel
theorem dX6_byteAt_18 : decode cX6_byteAt 18 = .ok (.ireturn, 1) := by decide +kernel
set_option maxRecDepth 20000 in
theorem ggX6_ahead_X6_byteAt : GoodIn wsX6_ahead wsX6_byteAt := goodIn_r _ [6, 7, 8, 9, 10, 11, 12, 13, 14, 15, 16, 17, 18, 19, 20, 21, 22, 23, 24, 25, 26, 27, 28, 29, 30] (by decide +kernel) (by decide +kernel)
set_option maxRecDepth 20000 in
theorem gX6_ahead_X6_byteAt : GoodIn wsX6_ahead (wsV RX6 73 RX6 yX6_byteAt wsX6_byteAt) := goodIn_app (goodIn_of _ (by decide +kernel)) ggX6_ahead_X6_byteAt
theorem dX6_ahead_0 : decode cX6_ahead 0 = .ok (.aload_n 0, 1) := by decide +kernel
theorem dX6_ahead_1 : decode cX6_ahead 1 = .ok (.aload_n 0, 1) := by decide +kernel
theorem dX6_ahead_2 : decode cX6_ahead 2 = .ok (.getfield 70, 3) := by decide +kernel
theorem dX6_ahead_5 : decode cX6_ahead 5 = .ok (.invokevirtual 73, 3) := by decide +kernel
theorem dX6_ahead_8 : decode cX6_ahead 8 = .ok (.bipush 32, 2) := by decide +kernel
theorem dX6_ahead_10 : decode cX6_ahead 10 = .ok (.if_icmp .ne 16, 3) := by decide +kernel
theorem dX6_ahead_13 : decode cX6_ahead 13 = .ok (.aload_n 0, 1) := by decide +kernel
theorem dX6_ahead_14 : decode cX6_ahead 14 = .ok (.dup, 1) := by decide +kernel
theorem dX6_ahead_15 : decode cX6_ahead 15 = .ok (.getfield 70, 3) := by decide +kernel
theorem dX6_ahead_18 : decode cX6_ahead 18 = .ok (.iconst 1, 1) := by decide +kernel
theorem dX6_ahead_19 : decode cX6_ahead 19 = .ok (.iadd, 1) := by decide +kernel
theorem dX6_ahead_20 : decode cX6_ahead 20 = .ok (.putfield 70, 3) := by decide +kernel
theorem dX6_ahead_23 : decode cX6_ahead 23 = .ok (.goto (-23), 3) := by decide +kernel
theorem dX6_ahead_26 : decode cX6_ahead 26 = .ok (.aload_n 0, 1) := by decide +kernel
theorem dX6_ahead_27 : decode cX6_ahead 27 = .ok (.aload_n 0, 1) := by decide +kernel
theorem dX6_ahead_28 : decode cX6_ahead 28 = .ok (.getfield 70, 3) := by decide +kernel
theorem dX6_ahead_31 : decode cX6_ahead 31 = .ok (.invokevirtual 73, 3) := by decide +kernel
theorem dX6_ahead_34 : decode cX6_ahead 34 = .ok (.ireturn, 1) := by decide +kernel
theorem dX6_isGood_0 : decode cX6_isGood 0 = .ok (.aload_n 0, 1) := by decide +kernel
theorem dX6_isGood_1 : decode cX6_isGood 1 = .ok (.getfield 76, 3) := by decide +kernel
theorem dX6_isGood_4 : decode cX6_isGood 4 = .ok (.ifCond .ne 7, 3) := by decide +kernel
theorem dX6_isGood_7 : decode cX6_isGood 7 = .ok (.iconst 1, 1) := by decide +kernel
theorem dX6_isGood_8 : decode cX6_isGood 8 = .ok (.goto 4, 3) := by decide +kernel
theorem dX6_isGood_11 : decode cX6_isGood 11 = .ok (.iconst 0, 1) := by decide +kernel
theorem dX6_isGood_12 : decode cX6_isGood 12 = .ok (.ireturn, 1) := by decide +kernel
theorem dX6_report_0 : decode cX6_report 0 = .ok (.aload_n 0, 1) := by decide +kernel
theorem dX6_report_1 : decode cX6_report 1 = .ok (.getfield 76, 3) := by decide +kernel
theorem dX6_report_4 : decode cX6_report 4 = .ok (.ifCond .eq 4, 3) := by decide +kernel
theorem dX6_report_7 : decode cX6_report 7 = .ok (.return_, 1) := by decide +kernel
theorem dX6_report_8 : decode cX6_report 8 = .ok (.aload_n 0, 1) := by decide +kernel
theorem dX6_report_9 : decode cX6_report 9 = .ok (.iload_n 1, 1) := by decide +kernel
theorem dX6_report_10 : decode cX6_report 10 = .ok (.putfield 76, 3) := by decide +kernel
theorem dX6_report_13 : decode cX6_report 13 = .ok (.aload_n 0, 1) := by decide +kernel
theorem dX6_report_14 : decode cX6_report 14 = .ok (.iload_n 2, 1) := by decide +kernel
theorem dX6_report_15 : decode cX6_report 15 = .ok (.putfield 79, 3) := by decide +kernel
theorem dX6_report_18 : decode cX6_report 18 = .ok (.return_, 1) := by decide +kernel
set_option maxRecDepth 20000 in
theorem ggX6_isDigit_X6_in : GoodIn wsX6_isDigit wsX6_in := goodIn_r _ [4] (by decide +kernel) (by decide +kernel)
set_option maxRecDepth 20000 in
theorem gX6_isDigit_X6_in : GoodIn wsX6_isDigit (va_wsS RX6 82 yX6_in wsX6_in) := goodIn_app (goodIn_of _ (by decide +kernel)) ggX6_isDigit_X6_in
theorem dX6_isDigit_0 : decode cX6_isDigit 0 = .ok (.iload_n 0, 1) := by decide +kernel
theorem dX6_isDigit_1 : decode cX6_isDigit 1 = .ok (.bipush 48, 2) := by decide +kernel
theorem dX6_isDigit_3 : decode cX6_isDigit 3 = .ok (.bipush 57, 2) := by decide +kernel
theorem dX6_isDigit_5 : decode cX6_isDigit 5 = .ok (.invokestatic 82, 3) := by decide +kernel
theorem dX6_isDigit_8 : decode cX6_isDigit 8 = .ok (.ireturn, 1) := by decide +kernel
set_option maxRecDepth 20000 in
theorem ggX6_takeWord_X6_isGood : GoodIn wsX6_takeWord wsX6_isGood := goodIn_r _ [6, 7, 70, 71, 72, 73, 74, 75, 76, 77, 78, 79, 80, 81, 82, 83, 84, 85, 86, 87, 88, 89, 90, 91] (by decide +kernel) (by decide +kernel)
set_option maxRecDepth 20000 in
theorem gX6_takeWord_X6_isGood : GoodIn wsX6_takeWord (wsV RX6 86 RX6 yX6_isGood wsX6_isGood) := goodIn_app (goodIn_of _ (by decide +kernel)) ggX6_takeWord_X6_isGood
set_option maxRecDepth 20000 in
theorem ggX6_takeWord_X6_ahead : GoodIn wsX6_takeWord wsX6_ahead := goodIn_r _ [11, 1, 12, 13, 14, 5, 15, 16, 17, 70, 71, 72, 73, 74, 75, 76, 77, 78, 79, 80, 81, 82, 83, 84, 85, 86, 87, 88, 89, 90, 91] (by decide +kernel) (by decide +kernel)
set_option maxRecDepth 20000 in
theorem gX6_takeWord_X6_ahead : GoodIn wsX6_takeWord (wsV RX6 90 RX6 yX6_ahead wsX6_ahead) := goodIn_app (goodIn_of _ (by decide +kernel)) ggX6_takeWord_X6_ahead
set_option maxRecDepth 20000 in
theorem ggX6_takeWord_J0_length_8abf5 : GoodIn wsX6_takeWord wsJ0_length_8abf5 := goodIn_r _ [22, 23, 24, 25, 26, 21, 27, 28, 29] (by decide +kernel) (by decide +kernel)
set_option maxRecDepth 20000 in
theorem gX6_takeWord_J0_length_8abf5 : GoodIn wsX6_takeWord (wsV RX6 94 RJ0 yJ0_length_8abf5 wsJ0_length_8abf5) := goodIn_app (goodIn_of _ (by decide +kernel)) ggX6_takeWord_J0_length_8abf5
set_option maxRecDepth 20000 in
theorem ggX6_takeWord_X6_byteAt : GoodIn wsX6_takeWord wsX6_byteAt := goodIn_r _ [15, 16, 17, 70, 71, 72, 73, 74, 75, 76, 77, 78, 79, 80, 81, 82, 83, 84, 85, 86, 87, 88, 89, 90, 91] (by decide +kernel) (by decide +kernel)
set_option maxRecDepth 20000 in
theorem gX6_takeWord_X6_byteAt : GoodIn wsX6_takeWord (wsV RX6 73 RX6 yX6_byteAt wsX6_byteAt) := goodIn_app (goodIn_of _ (by decide +kernel)) ggX6_takeWord_X6_byteAt
set_option maxRecDepth 20000 in
theorem ggX6_takeWord_J0_charAt_5068e : GoodIn wsX6_takeWord wsJ0_charAt_5068e := goodIn_r _ [33, 23, 34, 35, 36, 21, 37, 28, 29, 38, 39, 40, 41, 42, 43, 44, 45, 46, 47, 48, 49, 50, 51, 52, 53, 54, 55, 56, 57, 58, 59, 60, 61, 62, 63, 64, 65, 66] (by decide +kernel) (by decide +kernel)
set_option maxRecDepth 20000 in
theorem gX6_takeWord_J0_charAt_5068e : GoodIn wsX6_takeWord (wsV RX6 99 RJ0 yJ0_charAt_5068e wsJ0_charAt_5068e) := goodIn_app (goodIn_of _ (by decide +kernel)) ggX6_takeWord_J0_charAt_5068e
set_option maxRecDepth 20000 in
theorem ggX6_takeWord_X6_in : GoodIn wsX6_takeWord wsX6_in := goodIn_r _ [69] (by decide +kernel) (by decide +kernel)
set_option maxRecDepth 20000 in
theorem gX6_takeWord_X6_in : GoodIn wsX6_takeWord (va_wsS RX6 82 yX6_in wsX6_in) := goodIn_app (goodIn_of _ (by decide +kernel)) ggX6_takeWord_X6_in
theorem dX6_takeWord_0 : decode cX6_takeWord 0 = .ok (.aload_n 0, 1) := by decide +kernel
theorem dX6_takeWord_1 : decode cX6_takeWord 1 = .ok (.invokevirtual 86, 3) := by decide +kernel
theorem dX6_takeWord_4 : decode cX6_takeWord 4 = .ok (.ifCond .ne 5, 3) := by decide +kernel
theorem dX6_takeWord_7 : decode cX6_takeWord 7 = .ok (.iconst 0, 1) := by decide +kernel
theorem dX6_takeWord_8 : decode cX6_takeWord 8 = .ok (.ireturn, 1) := by decide +kernel
theorem dX6_takeWord_9 : decode cX6_takeWord 9 = .ok (.aload_n 0, 1) := by decide +kernel
theorem dX6_takeWord_10 : decode cX6_takeWord 10 = .ok (.invokevirtual 90, 3) := by decide +kernel
theorem dX6_takeWord_13 : decode cX6_takeWord 13 = .ok (.pop, 1) := by decide +kernel
theorem dX6_takeWord_14 : decode cX6_takeWord 14 = .ok (.iconst 0, 1) := by decide +kernel
theorem dX6_takeWord_15 : decode cX6_takeWord 15 = .ok (.istore_n 2, 1) := by decide +kernel
theorem dX6_takeWord_16 : decode cX6_takeWord 16 = .ok (.iload_n 2, 1) := by decide +kernel
theorem dX6_takeWord_17 : decode cX6_takeWord 17 = .ok (.aload_n 1, 1) := by decide +kernel
theorem dX6_takeWord_18 : decode cX6_takeWord 18 = .ok (.invokevirtual 94, 3) := by decide +kernel
theorem dX6_takeWord_21 : decode cX6_takeWord 21 = .ok (.if_icmp .ge 27, 3) := by decide +kernel
theorem dX6_takeWord_24 : decode cX6_takeWord 24 = .ok (.aload_n 0, 1) := by decide +kernel
theorem dX6_takeWord_25 : decode cX6_takeWord 25 = .ok (.aload_n 0, 1) := by decide +kernel
theorem dX6_takeWord_26 : decode cX6_takeWord 26 = .ok (.getfield 70, 3) := by decide +kernel
theorem dX6_takeWord_29 : decode cX6_takeWord 29 = .ok (.iload_n 2, 1) := by decide +kernel
theorem dX6_takeWord_30 : decode cX6_takeWord 30 = .ok (.iadd, 1) := by decide +kernel
theorem dX6_takeWord_31 : decode cX6_takeWord 31 = .ok (.invokevirtual 73, 3) := by decide +kernel
theorem dX6_takeWord_34 : decode cX6_takeWord 34 = .ok (.aload_n 1, 1) := by decide +kernel
theorem dX6_takeWord_35 : decode cX6_takeWord 35 = .ok (.iload_n 2, 1) := by decide +kernel
theorem dX6_takeWord_36 : decode cX6_takeWord 36 = .ok (.invokevirtual 99, 3) := by decide +kernel
theorem dX6_takeWord_39 : decode cX6_takeWord 39 = .ok (.if_icmp .ne 9, 3) := by decide +kernel
theorem dX6_takeWord_42 : decode cX6_takeWord 42 = .ok (.iinc 2 1, 3) := by decide +kernel
theorem dX6_takeWord_45 : decode cX6_takeWord 45 = .ok (.goto (-29), 3) := by decide +kernel
theorem dX6_takeWord_48 : decode cX6_takeWord 48 = .ok (.iload_n 2, 1) := by decide +kernel
theorem dX6_takeWord_49 : decode cX6_takeWord 49 = .ok (.aload_n 1, 1) := by decide +kernel
theorem dX6_takeWord_50 : decode cX6_takeWord 50 = .ok (.invokevirtual 94, 3) := by decide +kernel
theorem dX6_takeWord_53 : decode cX6_takeWord 53 = .ok (.if_icmp .lt 23, 3) := by decide +kernel
theorem dX6_takeWord_56 : decode cX6_takeWord 56 = .ok (.aload_n 0, 1) := by decide +kernel
theorem dX6_takeWord_57 : decode cX6_takeWord 57 = .ok (.aload_n 0, 1) := by decide +kernel
theorem dX6_takeWord_58 : decode cX6_takeWord 58 = .ok (.getfield 70, 3) := by decide +kernel
theorem dX6_takeWord_61 : decode cX6_takeWord 61 = .ok (.iload_n 2, 1) := by decide +kernel
theorem dX6_takeWord_62 : decode cX6_takeWord 62 = .ok (.iadd, 1) := by decide +kernel
theorem dX6_takeWord_63 : decode cX6_takeWord 63 = .ok (.invokevirtual 73, 3) := by decide +kernel
theorem dX6_takeWord_66 : decode cX6_takeWord 66 = .ok (.bipush 97, 2) := by decide +kernel
theorem dX6_takeWord_68 : decode cX6_takeWord 68 = .ok (.bipush 122, 2) := by decide +kernel
theorem dX6_takeWord_70 : decode cX6_takeWord 70 = .ok (.invokestatic 82, 3) := by decide +kernel
theorem dX6_takeWord_73 : decode cX6_takeWord 73 = .ok (.ifCond .eq 5, 3) := by decide +kernel
theorem dX6_takeWord_76 : decode cX6_takeWord 76 = .ok (.iconst 0, 1) := by decide +kernel
theorem dX6_takeWord_77 : decode cX6_takeWord 77 = .ok (.ireturn, 1) := by decide +kernel
theorem dX6_takeWord_78 : decode cX6_takeWord 78 = .ok (.aload_n 0, 1) := by decide +kernel
theorem dX6_takeWord_79 : decode cX6_takeWord 79 = .ok (.dup, 1) := by decide +kernel
theorem dX6_takeWord_80 : decode cX6_takeWord 80 = .ok (.getfield 70, 3) := by decide +kernel
theorem dX6_takeWord_83 : decode cX6_takeWord 83 = .ok (.iload_n 2, 1) := by decide +kernel
theorem dX6_takeWord_84 : decode cX6_takeWord 84 = .ok (.iadd, 1) := by decide +kernel
theorem dX6_takeWord_85 : decode cX6_takeWord 85 = .ok (.putfield 70, 3) := by decide +kernel
theorem dX6_takeWord_88 : decode cX6_takeWord 88 = .ok (.iconst 1, 1) := by decide +kernel
theorem dX6_takeWord_89 : decode cX6_takeWord 89 = .ok (.ireturn, 1) := by decide +kernel
set_option maxRecDepth 20000 in
theorem ggX6_expect_X6_isGood : GoodIn wsX6_expect wsX6_isGood := goodIn_r _ [6, 7, 23, 24, 25, 26, 27, 28, 29, 30, 31, 32, 33, 34, 35, 36, 37, 38, 39, 40, 41, 42, 43, 44] (by decide +kernel) (by decide +kernel)
set_option maxRecDepth 20000 in
theorem gX6_expect_X6_isGood : GoodIn wsX6_expect (wsV RX6 86 RX6 yX6_isGood wsX6_isGood) := goodIn_app (goodIn_of _ (by decide +kernel)) ggX6_expect_X6_isGood
set_option maxRecDepth 20000 in
theorem ggX6_expect_X6_ahead : GoodIn wsX6_expect wsX6_ahead := goodIn_r _ [11, 1, 12, 13, 14, 5, 15, 16, 17, 23, 24, 25, 26, 27, 28, 29, 30, 31, 32, 33, 34, 35, 36, 37, 38, 39, 40, 41, 42, 43, 44] (by decide +kernel) (by decide +kernel)
set_option maxRecDepth 20000 in
theorem gX6_expect_X6_ahead : GoodIn wsX6_expect (wsV RX6 90 RX6 yX6_ahead wsX6_ahead) := goodIn_app (goodIn_of _ (by decide +kernel)) ggX6_expect_X6_ahead
set_option maxRecDepth 20000 in
theorem ggX6_expect_X6_report : GoodIn wsX6_expect wsX6_report := goodIn_r _ [21, 7, 22, 23, 24, 25, 26, 27, 28, 29, 30, 31, 32, 33, 34, 35, 36, 37, 38, 39, 40, 41, 42, 43, 44] (by decide +kernel) (by decide +kernel)
set_option maxRecDepth 20000 in
theorem gX6_expect_X6_report : GoodIn wsX6_expect (wsV RX6 103 RX6 yX6_report wsX6_report) := goodIn_app (goodIn_of _ (by decide +kernel)) ggX6_expect_X6_report
theorem dX6_expect_0 : decode cX6_expect 0 = .ok (.aload_n 0, 1) := by decide +kernel
theorem dX6_expect_1 : decode cX6_expect 1 = .ok (.invokevirtual 86, 3) := by decide +kernel
theorem dX6_expect_4 : decode cX6_expect 4 = .ok (.ifCond .ne 4, 3) := by decide +kernel
theorem dX6_expect_7 : decode cX6_expect 7 = .ok (.return_, 1) := by decide +kernel
theorem dX6_expect_8 : decode cX6_expect 8 = .ok (.aload_n 0, 1) := by decide +kernel
theorem dX6_expect_9 : decode cX6_expect 9 = .ok (.invokevirtual 90, 3) := by decide +kernel
theorem dX6_expect_12 : decode cX6_expect 12 = .ok (.iload_n 1, 1) := by decide +kernel
theorem dX6_expect_13 : decode cX6_expect 13 = .ok (.if_icmp .ne 16, 3) := by decide +kernel
theorem dX6_expect_16 : decode cX6_expect 16 = .ok (.aload_n 0, 1) := by decide +kernel
theorem dX6_expect_17 : decode cX6_expect 17 = .ok (.dup, 1) := by decide +kernel
theorem dX6_expect_18 : decode cX6_expect 18 = .ok (.getfield 70, 3) := by decide +kernel
theorem dX6_expect_21 : decode cX6_expect 21 = .ok (.iconst 1, 1) := by decide +kernel
theorem dX6_expect_22 : decode cX6_expect 22 = .ok (.iadd, 1) := by decide +kernel
theorem dX6_expect_23 : decode cX6_expect 23 = .ok (.putfield 70, 3) := by decide +kernel
theorem dX6_expect_26 : decode cX6_expect 26 = .ok (.goto 13, 3) := by decide +kernel
theorem dX6_expect_29 : decode cX6_expect 29 = .ok (.aload_n 0, 1) := by decide +kernel
theorem dX6_expect_30 : decode cX6_expect 30 = .ok (.bipush (-2), 2) := by decide +kernel
theorem dX6_expect_32 : decode cX6_expect 32 = .ok (.aload_n 0, 1) := by decide +kernel
theorem dX6_expect_33 : decode cX6_expect 33 = .ok (.getfield 70, 3) := by decide +kernel
theorem dX6_expect_36 : decode cX6_expect 36 = .ok (.invokevirtual 103, 3) := by decide +kernel
theorem dX6_expect_39 : decode cX6_expect 39 = .ok (.return_, 1) := by decide +kernel
set_option maxRecDepth 20000 in
theorem ggX6_number_X6_isGood : GoodIn wsX6_number wsX6_isGood := goodIn_r _ [8, 9, 34, 35, 36, 37, 38, 39, 40, 41, 42, 43, 44, 45, 46, 47, 48, 49, 50, 51, 52, 53, 54, 55] (by decide +kernel) (by decide +kernel)
set_option maxRecDepth 20000 in
theorem gX6_number_X6_isGood : GoodIn wsX6_number (wsV RX6 86 RX6 yX6_isGood wsX6_isGood) := goodIn_app (goodIn_of _ (by decide +kernel)) ggX6_number_X6_isGood
set_option maxRecDepth 20000 in
theorem ggX6_number_X6_ahead : GoodIn wsX6_number wsX6_ahead := goodIn_r _ [13, 1, 14, 15, 16, 7, 17, 18, 19, 34, 35, 36, 37, 38, 39, 40, 41, 42, 43, 44, 45, 46, 47, 48, 49, 50, 51, 52, 53, 54, 55] (by decide +kernel) (by decide +kernel)
set_option maxRecDepth 20000 in
theorem gX6_number_X6_ahead : GoodIn wsX6_number (wsV RX6 90 RX6 yX6_ahead wsX6_ahead) := goodIn_app (goodIn_of _ (by decide +kernel)) ggX6_number_X6_ahead
set_option maxRecDepth 20000 in
theorem ggX6_number_X6_isDigit : GoodIn wsX6_number wsX6_isDigit := goodIn_r _ [22, 23, 24, 7, 25] (by decide +kernel) (by decide +kernel)
set_option maxRecDepth 20000 in
theorem gX6_number_X6_isDigit : GoodIn wsX6_number (va_wsS RX6 107 yX6_isDigit wsX6_isDigit) := goodIn_app (goodIn_of _ (by decide +kernel)) ggX6_number_X6_isDigit
set_option maxRecDepth 20000 in
theorem ggX6_number_X6_report : GoodIn wsX6_number wsX6_report := goodIn_r _ [29, 9, 30, 34, 35, 36, 37, 38, 39, 40, 41, 42, 43, 44, 45, 46, 47, 48, 49, 50, 51, 52, 53, 54, 55] (by decide +kernel) (by decide +kernel)
set_option maxRecDepth 20000 in
theorem gX6_number_X6_report : GoodIn wsX6_number (wsV RX6 103 RX6 yX6_report wsX6_report) := goodIn_app (goodIn_of _ (by decide +kernel)) ggX6_number_X6_report
set_option maxRecDepth 20000 in
theorem ggX6_number_X6_byteAt : GoodIn wsX6_number wsX6_byteAt := goodIn_r _ [17, 18, 19, 34, 35, 36, 37, 38, 39, 40, 41, 42, 43, 44, 45, 46, 47, 48, 49, 50, 51, 52, 53, 54, 55] (by decide +kernel) (by decide +kernel)
set_option maxRecDepth 20000 in
theorem gX6_number_X6_byteAt : GoodIn wsX6_number (wsV RX6 73 RX6 yX6_byteAt wsX6_byteAt) := goodIn_app (goodIn_of _ (by decide +kernel)) ggX6_number_X6_byteAt
set_option maxRecDepth 20000 in
theorem ggX6_number_X6_min : GoodIn wsX6_number wsX6_min := goodIn_r _ [33] (by decide +kernel) (by decide +kernel)
set_option maxRecDepth 20000 in
theorem gX6_number_X6_min : GoodIn wsX6_number (va_wsS RX6 115 yX6_min wsX6_min) := goodIn_app (goodIn_of _ (by decide +kernel)) ggX6_number_X6_min
set_option maxRecDepth 20000 in
theorem ggX6_number_X6_in : GoodIn wsX6_number wsX6_in := goodIn_r _ [25] (by decide +kernel) (by decide +kernel)
set_option maxRecDepth 20000 in
theorem gX6_number_X6_in : GoodIn wsX6_number (va_wsS RX6 82 yX6_in wsX6_in) := goodIn_app (goodIn_of _ (by decide +kernel)) ggX6_number_X6_in
theorem dX6_number_0 : decode cX6_number 0 = .ok (.aload_n 0, 1) := by decide +kernel
theorem dX6_number_1 : decode cX6_number 1 = .ok (.invokevirtual 86, 3) := by decide +kernel
theorem dX6_number_4 : decode cX6_number 4 = .ok (.ifCond .ne 5, 3) := by decide +kernel
theorem dX6_number_7 : decode cX6_number 7 = .ok (.iconst 0, 1) := by decide +kernel
theorem dX6_number_8 : decode cX6_number 8 = .ok (.ireturn, 1) := by decide +kernel
theorem dX6_number_9 : decode cX6_number 9 = .ok (.aload_n 0, 1) := by decide +kernel
theorem dX6_number_10 : decode cX6_number 10 = .ok (.invokevirtual 90, 3) := by decide +kernel
theorem dX6_number_13 : decode cX6_number 13 = .ok (.invokestatic 107, 3) := by decide +kernel
theorem dX6_number_16 : decode cX6_number 16 = .ok (.ifCond .ne 15, 3) := by decide +kernel
theorem dX6_number_19 : decode cX6_number 19 = .ok (.aload_n 0, 1) := by decide +kernel
theorem dX6_number_20 : decode cX6_number 20 = .ok (.bipush (-2), 2) := by decide +kernel
theorem dX6_number_22 : decode cX6_number 22 = .ok (.aload_n 0, 1) := by decide +kernel
theorem dX6_number_23 : decode cX6_number 23 = .ok (.getfield 70, 3) := by decide +kernel
theorem dX6_number_26 : decode cX6_number 26 = .ok (.invokevirtual 103, 3) := by decide +kernel
theorem dX6_number_29 : decode cX6_number 29 = .ok (.iconst 0, 1) := by decide +kernel
theorem dX6_number_30 : decode cX6_number 30 = .ok (.ireturn, 1) := by decide +kernel
theorem dX6_number_31 : decode cX6_number 31 = .ok (.aload_n 0, 1) := by decide +kernel
theorem dX6_number_32 : decode cX6_number 32 = .ok (.aload_n 0, 1) := by decide +kernel
theorem dX6_number_33 : decode cX6_number 33 = .ok (.getfield 70, 3) := by decide +kernel
theorem dX6_number_36 : decode cX6_number 36 = .ok (.putfield 111, 3) := by decide +kernel
theorem dX6_number_39 : decode cX6_number 39 = .ok (.iconst 0, 1) := by decide +kernel
theorem dX6_number_40 : decode cX6_number 40 = .ok (.istore_n 3, 1) := by decide +kernel
theorem dX6_number_41 : decode cX6_number 41 = .ok (.aload_n 0, 1) := by decide +kernel
theorem dX6_number_42 : decode cX6_number 42 = .ok (.aload_n 0, 1) := by decide +kernel
theorem dX6_number_43 : decode cX6_number 43 = .ok (.getfield 70, 3) := by decide +kernel
theorem dX6_number_46 : decode cX6_number 46 = .ok (.invokevirtual 73, 3) := by decide +kernel
theorem dX6_number_49 : decode cX6_number 49 = .ok (.invokestatic 107, 3) := by decide +kernel
theorem dX6_number_52 : decode cX6_number 52 = .ok (.ifCond .eq 38, 3) := by decide +kernel
theorem dX6_number_55 : decode cX6_number 55 = .ok (.ldc 114, 2) := by decide +kernel
theorem dX6_number_57 : decode cX6_number 57 = .ok (.bipush 10, 2) := by decide +kernel
theorem dX6_number_59 : decode cX6_number 59 = .ok (.iload_n 3, 1) := by decide +kernel
theorem dX6_number_60 : decode cX6_number 60 = .ok (.imul, 1) := by decide +kernel
theorem dX6_number_61 : decode cX6_number 61 = .ok (.aload_n 0, 1) := by decide +kernel
theorem dX6_number_62 : decode cX6_number 62 = .ok (.aload_n 0, 1) := by decide +kernel
theorem dX6_number_63 : decode cX6_number 63 = .ok (.getfield 70, 3) := by decide +kernel
theorem dX6_number_66 : decode cX6_number 66 = .ok (.invokevirtual 73, 3) := by decide +kernel
theorem dX6_number_69 : decode cX6_number 69 = .ok (.iadd, 1) := by decide +kernel
theorem dX6_number_70 : decode cX6_number 70 = .ok (.bipush 48, 2) := by decide +kernel
theorem dX6_number_72 : decode cX6_number 72 = .ok (.isub, 1) := by decide +kernel
theorem dX6_number_73 : decode cX6_number 73 = .ok (.invokestatic 115, 3) := by decide +kernel
theorem dX6_number_76 : decode cX6_number 76 = .ok (.istore_n 3, 1) := by decide +kernel
theorem dX6_number_77 : decode cX6_number 77 = .ok (.aload_n 0, 1) := by decide +kernel
theorem dX6_number_78 : decode cX6_number 78 = .ok (.dup, 1) := by decide +kernel
theorem dX6_number_79 : decode cX6_number 79 = .ok (.getfield 70, 3) := by decide +kernel
theorem dX6_number_82 : decode cX6_number 82 = .ok (.iconst 1, 1) := by decide +kernel
theorem dX6_number_83 : decode cX6_number 83 = .ok (.iadd, 1) := by decide +kernel
theorem dX6_number_84 : decode cX6_number 84 = .ok (.putfield 70, 3) := by decide +kernel
theorem dX6_number_87 : decode cX6_number 87 = .ok (.goto (-46), 3) := by decide +kernel
theorem dX6_number_90 : decode cX6_number 90 = .ok (.iload_n 3, 1) := by decide +kernel
theorem dX6_number_91 : decode cX6_number 91 = .ok (.iload_n 1, 1) := by decide +kernel
theorem dX6_number_92 : decode cX6_number 92 = .ok (.iload_n 2, 1) := by decide +kernel
theorem dX6_number_93 : decode cX6_number 93 = .ok (.invokestatic 82, 3) := by decide +kernel
theorem dX6_number_96 : decode cX6_number 96 = .ok (.ifCond .ne 13, 3) := by decide +kernel
theorem dX6_number_99 : decode cX6_number 99 = .ok (.aload_n 0, 1) := by decide +kernel
theorem dX6_number_100 : decode cX6_number 100 = .ok (.bipush (-3), 2) := by decide +kernel
theorem dX6_number_102 : decode cX6_number 102 = .ok (.aload_n 0, 1) := by decide +kernel
theorem dX6_number_103 : decode cX6_number 103 = .ok (.getfield 111, 3) := by decide +kernel
theorem dX6_number_106 : decode cX6_number 106 = .ok (.invokevirtual 103, 3) := by decide +kernel
theorem dX6_number_109 : decode cX6_number 109 = .ok (.aload_n 0, 1) := by decide +kernel
theorem dX6_number_110 : decode cX6_number 110 = .ok (.invokevirtual 86, 3) := by decide +kernel
theorem dX6_number_113 : decode cX6_number 113 = .ok (.ifCond .eq 7, 3) := by decide +kernel
theorem dX6_number_116 : decode cX6_number 116 = .ok (.iload_n 3, 1) := by decide +kernel
theorem dX6_number_117 : decode cX6_number 117 = .ok (.goto 4, 3) := by decide +kernel
theorem dX6_number_120 : decode cX6_number 120 = .ok (.iconst 0, 1) := by decide +kernel
theorem dX6_number_121 : decode cX6_number 121 = .ok (.ireturn, 1) := by decide +kernel
set_option maxRecDepth 20000 in
theorem ggX6_once_X6_report : GoodIn wsX6_once wsX6_report := goodIn_r _ [6, 7, 8, 9, 10, 11, 12, 13, 14, 15, 16, 17, 18, 19, 20, 21, 22, 23, 24, 25, 26, 27, 28, 29, 30] (by decide +kernel) (by decide +kernel)
set_option maxRecDepth 20000 in
theorem gX6_once_X6_report : GoodIn wsX6_once (wsV RX6 103 RX6 yX6_report wsX6_report) := goodIn_app (goodIn_of _ (by decide +kernel)) ggX6_once_X6_report
theorem dX6_once_0 : decode cX6_once 0 = .ok (.aload_n 0, 1) := by decide +kernel
theorem dX6_once_1 : decode cX6_once 1 = .ok (.getfield 119, 3) := by decide +kernel
theorem dX6_once_4 : decode cX6_once 4 = .ok (.iload_n 1, 1) := by decide +kernel
theorem dX6_once_5 : decode cX6_once 5 = .ok (.ishr, 1) := by decide +kernel
theorem dX6_once_6 : decode cX6_once 6 = .ok (.iconst 1, 1) := by decide +kernel
theorem dX6_once_7 : decode cX6_once 7 = .ok (.iand, 1) := by decide +kernel
theorem dX6_once_8 : decode cX6_once 8 = .ok (.iconst 1, 1) := by decide +kernel
theorem dX6_once_9 : decode cX6_once 9 = .ok (.if_icmp .ne 10, 3) := by decide +kernel
theorem dX6_once_12 : decode cX6_once 12 = .ok (.aload_n 0, 1) := by decide +kernel
theorem dX6_once_13 : decode cX6_once 13 = .ok (.bipush (-2), 2) := by decide +kernel
theorem dX6_once_15 : decode cX6_once 15 = .ok (.iload_n 2, 1) := by decide +kernel
theorem dX6_once_16 : decode cX6_once 16 = .ok (.invokevirtual 103, 3) := by decide +kernel
theorem dX6_once_19 : decode cX6_once 19 = .ok (.aload_n 0, 1) := by decide +kernel
theorem dX6_once_20 : decode cX6_once 20 = .ok (.dup, 1) := by decide +kernel
theorem dX6_once_21 : decode cX6_once 21 = .ok (.getfield 119, 3) := by decide +kernel
theorem dX6_once_24 : decode cX6_once 24 = .ok (.iconst 1, 1) := by decide +kernel
theorem dX6_once_25 : decode cX6_once 25 = .ok (.iload_n 1, 1) := by decide +kernel
theorem dX6_once_26 : decode cX6_once 26 = .ok (.ishl, 1) := by decide +kernel
theorem dX6_once_27 : decode cX6_once 27 = .ok (.ior, 1) := by decide +kernel
theorem dX6_once_28 : decode cX6_once 28 = .ok (.putfield 119, 3) := by decide +kernel
theorem dX6_once_31 : decode cX6_once 31 = .ok (.return_, 1) := by decide +kernel
set_option maxRecDepth 20000 in
theorem ggX6_readLot_X6_report : GoodIn wsX6_readLot wsX6_report := goodIn_r _ [7, 8, 9, 101, 102, 103, 104, 105, 106, 107, 108, 109, 110, 111, 112, 113, 114, 115, 116, 117, 118, 119, 120, 121, 122] (by decide +kernel) (by decide +kernel)
set_option maxRecDepth 20000 in
theorem gX6_readLot_X6_report : GoodIn wsX6_readLot (wsV RX6 103 RX6 yX6_report wsX6_report) := goodIn_app (goodIn_of _ (by decide +kernel)) ggX6_readLot_X6_report
set_option maxRecDepth 20000 in
theorem ggX6_readLot_X6_isGood : GoodIn wsX6_readLot wsX6_isGood := goodIn_r _ [13, 8, 101, 102, 103, 104, 105, 106, 107, 108, 109, 110, 111, 112, 113, 114, 115, 116, 117, 118, 119, 120, 121, 122] (by decide +kernel) (by decide +kernel)
set_option maxRecDepth 20000 in
theorem gX6_readLot_X6_isGood : GoodIn wsX6_readLot (wsV RX6 86 RX6 yX6_isGood wsX6_isGood) := goodIn_app (goodIn_of _ (by decide +kernel)) ggX6_readLot_X6_isGood
set_option maxRecDepth 20000 in
theorem ggX6_readLot_X6_lotAt : GoodIn wsX6_readLot wsX6_lotAt := goodIn_r _ [16] (by decide +kernel) (by decide +kernel)
set_option maxRecDepth 20000 in
theorem gX6_readLot_X6_lotAt : GoodIn wsX6_readLot (va_wsS RX6 56 yX6_lotAt wsX6_lotAt) := goodIn_app (goodIn_of _ (by decide +kernel)) ggX6_readLot_X6_lotAt
set_option maxRecDepth 20000 in
theorem ggX6_readLot_X6_min : GoodIn wsX6_readLot wsX6_min := goodIn_r _ [19] (by decide +kernel) (by decide +kernel)
set_option maxRecDepth 20000 in
theorem gX6_readLot_X6_min : GoodIn wsX6_readLot (va_wsS RX6 115 yX6_min wsX6_min) := goodIn_app (goodIn_of _ (by decide +kernel)) ggX6_readLot_X6_min
set_option maxRecDepth 20000 in
theorem ggX6_readLot_X6_number : GoodIn wsX6_readLot wsX6_number := goodIn_r _ [23, 2, 24, 25, 10, 11, 12, 6, 13, 8, 26, 27, 28, 29, 30, 31, 32, 33, 34, 35, 36, 37, 38, 39, 40, 41, 3, 4, 5, 7, 9, 17, 18, 19, 101, 102, 103, 104, 105, 106, 107, 108, 109, 110, 111, 112, 113, 114, 115, 116, 117, 118, 119, 120, 121, 122] (by decide +kernel) (by decide +kernel)
set_option maxRecDepth 20000 in
theorem gX6_readLot_X6_number : GoodIn wsX6_readLot (wsV RX6 122 RX6 yX6_number wsX6_number) := goodIn_app (goodIn_of _ (by decide +kernel)) ggX6_readLot_X6_number
set_option maxRecDepth 20000 in
theorem ggX6_readLot_X6_ahead : GoodIn wsX6_readLot wsX6_ahead := goodIn_r _ [29, 2, 30, 31, 32, 6, 33, 34, 35, 101, 102, 103, 104, 105, 106, 107, 108, 109, 110, 111, 112, 113, 114, 115, 116, 117, 118, 119, 120, 121, 122] (by decide +kernel) (by decide +kernel)
set_option maxRecDepth 20000 in
theorem gX6_readLot_X6_ahead : GoodIn wsX6_readLot (wsV RX6 90 RX6 yX6_ahead wsX6_ahead) := goodIn_app (goodIn_of _ (by decide +kernel)) ggX6_readLot_X6_ahead
set_option maxRecDepth 20000 in
theorem ggX6_readLot_X6_takeWord : GoodIn wsX6_readLot wsX6_takeWord := goodIn_r _ [45, 2, 10, 11, 12, 6, 13, 8, 26, 27, 28, 29, 30, 31, 32, 33, 34, 35, 46, 47, 48, 49, 50, 51, 52, 53, 54, 55, 56, 57, 58, 59, 60, 61, 62, 63, 64, 65, 66, 67, 68, 69, 70, 71, 72, 73, 74, 75, 76, 77, 78, 79, 80, 81, 82, 83, 84, 85, 86, 87, 88, 89, 90, 91, 92, 93, 94, 39, 40, 41, 101, 102, 103, 104, 105, 106, 107, 108, 109, 110, 111, 112, 113, 114, 115, 116, 117, 118, 119, 120, 121, 122] (by decide +kernel) (by decide +kernel)
set_option maxRecDepth 20000 in
theorem gX6_readLot_X6_takeWord : GoodIn wsX6_readLot (wsV RX6 127 RX6 yX6_takeWord wsX6_takeWord) := goodIn_app (goodIn_of _ (by decide +kernel)) ggX6_readLot_X6_takeWord
set_option maxRecDepth 20000 in
theorem ggX6_readLot_X6_different : GoodIn wsX6_readLot wsX6_different := goodIn_r _ [97, 98, 99, 6, 100, 14, 15, 16] (by decide +kernel) (by decide +kernel)
set_option maxRecDepth 20000 in
theorem gX6_readLot_X6_different : GoodIn wsX6_readLot (va_wsS RX6 132 yX6_different wsX6_different) := goodIn_app (goodIn_of _ (by decide +kernel)) ggX6_readLot_X6_different
theorem dX6_readLot_0 : decode cX6_readLot 0 = .ok (.aload_n 0, 1) := by decide +kernel
theorem dX6_readLot_1 : decode cX6_readLot 1 = .ok (.getfield 20, 3) := by decide +kernel
theorem dX6_readLot_4 : decode cX6_readLot 4 = .ok (.iconst 1, 1) := by decide +kernel
theorem dX6_readLot_5 : decode cX6_readLot 5 = .ok (.iaload, 1) := by decide +kernel
theorem dX6_readLot_6 : decode cX6_readLot 6 = .ok (.bipush 24, 2) := by decide +kernel
theorem dX6_readLot_8 : decode cX6_readLot 8 = .ok (.if_icmp .ne 10, 3) := by decide +kernel
theorem dX6_readLot_11 : decode cX6_readLot 11 = .ok (.aload_n 0, 1) := by decide +kernel
theorem dX6_readLot_12 : decode cX6_readLot 12 = .ok (.bipush (-4), 2) := by decide +kernel
theorem dX6_readLot_14 : decode cX6_readLot 14 = .ok (.iload_n 1, 1) := by decide +kernel
theorem dX6_readLot_15 : decode cX6_readLot 15 = .ok (.invokevirtual 103, 3) := by decide +kernel
theorem dX6_readLot_18 : decode cX6_readLot 18 = .ok (.aload_n 0, 1) := by decide +kernel
theorem dX6_readLot_19 : decode cX6_readLot 19 = .ok (.invokevirtual 86, 3) := by decide +kernel
theorem dX6_readLot_22 : decode cX6_readLot 22 = .ok (.ifCond .ne 4, 3) := by decide +kernel
theorem dX6_readLot_25 : decode cX6_readLot 25 = .ok (.return_, 1) := by decide +kernel
theorem dX6_readLot_26 : decode cX6_readLot 26 = .ok (.aload_n 0, 1) := by decide +kernel
theorem dX6_readLot_27 : decode cX6_readLot 27 = .ok (.getfield 20, 3) := by decide +kernel
theorem dX6_readLot_30 : decode cX6_readLot 30 = .ok (.iconst 1, 1) := by decide +kernel
theorem dX6_readLot_31 : decode cX6_readLot 31 = .ok (.iaload, 1) := by decide +kernel
theorem dX6_readLot_32 : decode cX6_readLot 32 = .ok (.invokestatic 56, 3) := by decide +kernel
theorem dX6_readLot_35 : decode cX6_readLot 35 = .ok (.istore_n 2, 1) := by decide +kernel
theorem dX6_readLot_36 : decode cX6_readLot 36 = .ok (.aload_n 0, 1) := by decide +kernel
theorem dX6_readLot_37 : decode cX6_readLot 37 = .ok (.getfield 20, 3) := by decide +kernel
theorem dX6_readLot_40 : decode cX6_readLot 40 = .ok (.iload_n 2, 1) := by decide +kernel
theorem dX6_readLot_41 : decode cX6_readLot 41 = .ok (.iconst 0, 1) := by decide +kernel
theorem dX6_readLot_42 : decode cX6_readLot 42 = .ok (.iadd, 1) := by decide +kernel
theorem dX6_readLot_43 : decode cX6_readLot 43 = .ok (.aload_n 0, 1) := by decide +kernel
theorem dX6_readLot_44 : decode cX6_readLot 44 = .ok (.iconst 1, 1) := by decide +kernel
theorem dX6_readLot_45 : decode cX6_readLot 45 = .ok (.bipush 9, 2) := by decide +kernel
theorem dX6_readLot_47 : decode cX6_readLot 47 = .ok (.aload_n 0, 1) := by decide +kernel
theorem dX6_readLot_48 : decode cX6_readLot 48 = .ok (.getfield 20, 3) := by decide +kernel
theorem dX6_readLot_51 : decode cX6_readLot 51 = .ok (.iconst 0, 1) := by decide +kernel
theorem dX6_readLot_52 : decode cX6_readLot 52 = .ok (.iaload, 1) := by decide +kernel
theorem dX6_readLot_53 : decode cX6_readLot 53 = .ok (.invokestatic 115, 3) := by decide +kernel
theorem dX6_readLot_56 : decode cX6_readLot 56 = .ok (.invokevirtual 122, 3) := by decide +kernel
theorem dX6_readLot_59 : decode cX6_readLot 59 = .ok (.iastore, 1) := by decide +kernel
theorem dX6_readLot_60 : decode cX6_readLot 60 = .ok (.aload_n 0, 1) := by decide +kernel
theorem dX6_readLot_61 : decode cX6_readLot 61 = .ok (.getfield 20, 3) := by decide +kernel
theorem dX6_readLot_64 : decode cX6_readLot 64 = .ok (.iload_n 2, 1) := by decide +kernel
theorem dX6_readLot_65 : decode cX6_readLot 65 = .ok (.iconst 1, 1) := by decide +kernel
theorem dX6_readLot_66 : decode cX6_readLot 66 = .ok (.iadd, 1) := by decide +kernel
theorem dX6_readLot_67 : decode cX6_readLot 67 = .ok (.aload_n 0, 1) := by decide +kernel
theorem dX6_readLot_68 : decode cX6_readLot 68 = .ok (.iconst 0, 1) := by decide +kernel
theorem dX6_readLot_69 : decode cX6_readLot 69 = .ok (.sipush 9999, 3) := by decide +kernel
theorem dX6_readLot_72 : decode cX6_readLot 72 = .ok (.invokevirtual 122, 3) := by decide +kernel
theorem dX6_readLot_75 : decode cX6_readLot 75 = .ok (.iastore, 1) := by decide +kernel
theorem dX6_readLot_76 : decode cX6_readLot 76 = .ok (.aload_n 0, 1) := by decide +kernel
theorem dX6_readLot_77 : decode cX6_readLot 77 = .ok (.getfield 20, 3) := by decide +kernel
theorem dX6_readLot_80 : decode cX6_readLot 80 = .ok (.iload_n 2, 1) := by decide +kernel
theorem dX6_readLot_81 : decode cX6_readLot 81 = .ok (.iconst 2, 1) := by decide +kernel
theorem dX6_readLot_82 : decode cX6_readLot 82 = .ok (.iadd, 1) := by decide +kernel
theorem dX6_readLot_83 : decode cX6_readLot 83 = .ok (.aload_n 0, 1) := by decide +kernel
theorem dX6_readLot_84 : decode cX6_readLot 84 = .ok (.iconst 0, 1) := by decide +kernel
theorem dX6_readLot_85 : decode cX6_readLot 85 = .ok (.bipush 9, 2) := by decide +kernel
theorem dX6_readLot_87 : decode cX6_readLot 87 = .ok (.invokevirtual 122, 3) := by decide +kernel
theorem dX6_readLot_90 : decode cX6_readLot 90 = .ok (.iastore, 1) := by decide +kernel
theorem dX6_readLot_91 : decode cX6_readLot 91 = .ok (.aload_n 0, 1) := by decide +kernel
theorem dX6_readLot_92 : decode cX6_readLot 92 = .ok (.invokevirtual 86, 3) := by decide +kernel
theorem dX6_readLot_95 : decode cX6_readLot 95 = .ok (.ifCond .ne 4, 3) := by decide +kernel
theorem dX6_readLot_98 : decode cX6_readLot 98 = .ok (.return_, 1) := by decide +kernel
theorem dX6_readLot_99 : decode cX6_readLot 99 = .ok (.aload_n 0, 1) := by decide +kernel
theorem dX6_readLot_100 : decode cX6_readLot 100 = .ok (.invokevirtual 90, 3) := by decide +kernel
theorem dX6_readLot_103 : decode cX6_readLot 103 = .ok (.pop, 1) := by decide +kernel
theorem dX6_readLot_104 : decode cX6_readLot 104 = .ok (.aload_n 0, 1) := by decide +kernel
theorem dX6_readLot_105 : decode cX6_readLot 105 = .ok (.getfield 70, 3) := by decide +kernel
theorem dX6_readLot_108 : decode cX6_readLot 108 = .ok (.istore_n 3, 1) := by decide +kernel
theorem dX6_readLot_109 : decode cX6_readLot 109 = .ok (.aload_n 0, 1) := by decide +kernel
theorem dX6_readLot_110 : decode cX6_readLot 110 = .ok (.getfield 20, 3) := by decide +kernel
theorem dX6_readLot_113 : decode cX6_readLot 113 = .ok (.iload_n 2, 1) := by decide +kernel
theorem dX6_readLot_114 : decode cX6_readLot 114 = .ok (.iconst 3, 1) := by decide +kernel
theorem dX6_readLot_115 : decode cX6_readLot 115 = .ok (.iadd, 1) := by decide +kernel
theorem dX6_readLot_116 : decode cX6_readLot 116 = .ok (.iconst 1, 1) := by decide +kernel
theorem dX6_readLot_117 : decode cX6_readLot 117 = .ok (.iastore, 1) := by decide +kernel
theorem dX6_readLot_118 : decode cX6_readLot 118 = .ok (.aload_n 0, 1) := by decide +kernel
theorem dX6_readLot_119 : decode cX6_readLot 119 = .ok (.getfield 20, 3) := by decide +kernel
theorem dX6_readLot_122 : decode cX6_readLot 122 = .ok (.iload_n 2, 1) := by decide +kernel
theorem dX6_readLot_123 : decode cX6_readLot 123 = .ok (.iconst 4, 1) := by decide +kernel
theorem dX6_readLot_124 : decode cX6_readLot 124 = .ok (.iadd, 1) := by decide +kernel
theorem dX6_readLot_125 : decode cX6_readLot 125 = .ok (.iconst 1, 1) := by decide +kernel
theorem dX6_readLot_126 : decode cX6_readLot 126 = .ok (.iastore, 1) := by decide +kernel
theorem dX6_readLot_127 : decode cX6_readLot 127 = .ok (.aload_n 0, 1) := by decide +kernel
theorem dX6_readLot_128 : decode cX6_readLot 128 = .ok (.ldc 125, 2) := by decide +kernel
theorem dX6_readLot_130 : decode cX6_readLot 130 = .ok (.invokevirtual 127, 3) := by decide +kernel
theorem dX6_readLot_133 : decode cX6_readLot 133 = .ok (.ifCond .eq 15, 3) := by decide +kernel
theorem dX6_readLot_136 : decode cX6_readLot 136 = .ok (.aload_n 0, 1) := by decide +kernel
theorem dX6_readLot_137 : decode cX6_readLot 137 = .ok (.getfield 20, 3) := by decide +kernel
theorem dX6_readLot_140 : decode cX6_readLot 140 = .ok (.iload_n 2, 1) := by decide +kernel
theorem dX6_readLot_141 : decode cX6_readLot 141 = .ok (.iconst 4, 1) := by decide +kernel
theorem dX6_readLot_142 : decode cX6_readLot 142 = .ok (.iadd, 1) := by decide +kernel
theorem dX6_readLot_143 : decode cX6_readLot 143 = .ok (.iconst 0, 1) := by decide +kernel
theorem dX6_readLot_144 : decode cX6_readLot 144 = .ok (.iastore, 1) := by decide +kernel
theorem dX6_readLot_145 : decode cX6_readLot 145 = .ok (.goto 21, 3) := by decide +kernel
theorem dX6_readLot_148 : decode cX6_readLot 148 = .ok (.aload_n 0, 1) := by decide +kernel
theorem dX6_readLot_149 : decode cX6_readLot 149 = .ok (.ldc 131, 2) := by decide +kernel
theorem dX6_readLot_151 : decode cX6_readLot 151 = .ok (.invokevirtual 127, 3) := by decide +kernel
theorem dX6_readLot_154 : decode cX6_readLot 154 = .ok (.ifCond .eq 12, 3) := by decide +kernel
theorem dX6_readLot_157 : decode cX6_readLot 157 = .ok (.aload_n 0, 1) := by decide +kernel
theorem dX6_readLot_158 : decode cX6_readLot 158 = .ok (.getfield 20, 3) := by decide +kernel
theorem dX6_readLot_161 : decode cX6_readLot 161 = .ok (.iload_n 2, 1) := by decide +kernel
theorem dX6_readLot_162 : decode cX6_readLot 162 = .ok (.iconst 3, 1) := by decide +kernel
theorem dX6_readLot_163 : decode cX6_readLot 163 = .ok (.iadd, 1) := by decide +kernel
theorem dX6_readLot_164 : decode cX6_readLot 164 = .ok (.iconst 0, 1) := by decide +kernel
theorem dX6_readLot_165 : decode cX6_readLot 165 = .ok (.iastore, 1) := by decide +kernel
theorem dX6_readLot_166 : decode cX6_readLot 166 = .ok (.aload_n 0, 1) := by decide +kernel
theorem dX6_readLot_167 : decode cX6_readLot 167 = .ok (.getfield 20, 3) := by decide +kernel
theorem dX6_readLot_170 : decode cX6_readLot 170 = .ok (.iconst 1, 1) := by decide +kernel
theorem dX6_readLot_171 : decode cX6_readLot 171 = .ok (.dup2, 1) := by decide +kernel
theorem dX6_readLot_172 : decode cX6_readLot 172 = .ok (.iaload, 1) := by decide +kernel
theorem dX6_readLot_173 : decode cX6_readLot 173 = .ok (.iconst 1, 1) := by decide +kernel
theorem dX6_readLot_174 : decode cX6_readLot 174 = .ok (.iadd, 1) := by decide +kernel
theorem dX6_readLot_175 : decode cX6_readLot 175 = .ok (.iastore, 1) := by decide +kernel
theorem dX6_readLot_176 : decode cX6_readLot 176 = .ok (.aload_n 0, 1) := by decide +kernel
theorem dX6_readLot_177 : decode cX6_readLot 177 = .ok (.getfield 20, 3) := by decide +kernel
theorem dX6_readLot_180 : decode cX6_readLot 180 = .ok (.invokestatic 132, 3) := by decide +kernel
theorem dX6_readLot_183 : decode cX6_readLot 183 = .ok (.bipush 8, 2) := by decide +kernel
theorem dX6_readLot_185 : decode cX6_readLot 185 = .ok (.if_icmp .le 10, 3) := by decide +kernel
theorem dX6_readLot_188 : decode cX6_readLot 188 = .ok (.aload_n 0, 1) := by decide +kernel
theorem dX6_readLot_189 : decode cX6_readLot 189 = .ok (.bipush (-4), 2) := by decide +kernel
theorem dX6_readLot_191 : decode cX6_readLot 191 = .ok (.iload_n 3, 1) := by decide +kernel
theorem dX6_readLot_192 : decode cX6_readLot 192 = .ok (.invokevirtual 103, 3) := by decide +kernel
theorem dX6_readLot_195 : decode cX6_readLot 195 = .ok (.return_, 1) := by decide +kernel
set_option maxRecDepth 20000 in
theorem ggX6_statement_X6_ahead : GoodIn wsX6_statement wsX6_ahead := goodIn_r _ [7, 1, 8, 9, 10, 6, 11, 12, 13, 114, 115, 116, 117, 118, 119, 120, 121, 122, 123, 124, 125, 126, 127, 128, 129, 130, 131, 132, 133, 134, 135] (by decide +kernel) (by decide +kernel)
set_option maxRecDepth 20000 in
theorem gX6_statement_X6_ahead : GoodIn wsX6_statement (wsV RX6 90 RX6 yX6_ahead wsX6_ahead) := goodIn_app (goodIn_of _ (by decide +kernel)) ggX6_statement_X6_ahead
set_option maxRecDepth 20000 in
theorem ggX6_statement_X6_takeWord : GoodIn wsX6_statement wsX6_takeWord := goodIn_r _ [17, 1, 18, 19, 20, 6, 21, 22, 3, 4, 5, 7, 8, 9, 10, 11, 12, 13, 23, 24, 25, 26, 27, 28, 29, 30, 31, 32, 33, 34, 35, 36, 37, 38, 39, 40, 41, 42, 43, 44, 45, 46, 47, 48, 49, 50, 51, 52, 53, 54, 55, 56, 57, 58, 59, 60, 61, 62, 63, 64, 65, 66, 67, 68, 69, 70, 71, 72, 73, 74, 114, 115, 116, 117, 118, 119, 120, 121, 122, 123, 124, 125, 126, 127, 128, 129, 130, 131, 132, 133, 134, 135] (by decide +kernel) (by decide +kernel)
set_option maxRecDepth 20000 in
theorem gX6_statement_X6_takeWord : GoodIn wsX6_statement (wsV RX6 127 RX6 yX6_takeWord wsX6_takeWord) := goodIn_app (goodIn_of _ (by decide +kernel)) ggX6_statement_X6_takeWord
set_option maxRecDepth 20000 in
theorem ggX6_statement_X6_readLot : GoodIn wsX6_statement wsX6_readLot := goodIn_r _ [78, 2, 1, 79, 80, 81, 6, 82, 22, 83, 18, 19, 20, 21, 84, 85, 86, 87, 88, 89, 90, 91, 92, 93, 94, 95, 3, 4, 5, 7, 8, 9, 10, 11, 12, 13, 96, 97, 98, 72, 73, 74, 14, 15, 16, 17, 23, 24, 25, 26, 27, 28, 29, 30, 31, 32, 33, 34, 35, 36, 37, 38, 39, 40, 41, 42, 43, 44, 45, 46, 47, 48, 49, 50, 51, 52, 53, 54, 55, 56, 57, 58, 59, 60, 61, 62, 63, 64, 65, 66, 67, 68, 69, 70, 71, 99, 100, 101, 102, 103, 104, 114, 115, 116, 117, 118, 119, 120, 121, 122, 123, 124, 125, 126, 127, 128, 129, 130, 131, 132, 133, 134, 135] (by decide +kernel) (by decide +kernel)
set_option maxRecDepth 20000 in
theorem gX6_statement_X6_readLot : GoodIn wsX6_statement (wsV RX6 138 RX6 yX6_readLot wsX6_readLot) := goodIn_app (goodIn_of _ (by decide +kernel)) ggX6_statement_X6_readLot
set_option maxRecDepth 20000 in
theorem ggX6_statement_X6_once : GoodIn wsX6_statement wsX6_once := goodIn_r _ [108, 109, 79, 80, 81, 6, 82, 22, 83, 114, 115, 116, 117, 118, 119, 120, 121, 122, 123, 124, 125, 126, 127, 128, 129, 130, 131, 132, 133, 134, 135] (by decide +kernel) (by decide +kernel)
set_option maxRecDepth 20000 in
theorem gX6_statement_X6_once : GoodIn wsX6_statement (wsV RX6 144 RX6 yX6_once wsX6_once) := goodIn_app (goodIn_of _ (by decide +kernel)) ggX6_statement_X6_once
set_option maxRecDepth 20000 in
theorem ggX6_statement_X6_number : GoodIn wsX6_statement wsX6_number := goodIn_r _ [93, 1, 94, 95, 18, 19, 20, 6, 21, 22, 3, 4, 5, 7, 8, 9, 10, 11, 12, 13, 96, 97, 98, 72, 73, 74, 79, 80, 81, 82, 83, 87, 88, 89, 114, 115, 116, 117, 118, 119, 120, 121, 122, 123, 124, 125, 126, 127, 128, 129, 130, 131, 132, 133, 134, 135] (by decide +kernel) (by decide +kernel)
set_option maxRecDepth 20000 in
theorem gX6_statement_X6_number : GoodIn wsX6_statement (wsV RX6 122 RX6 yX6_number wsX6_number) := goodIn_app (goodIn_of _ (by decide +kernel)) ggX6_statement_X6_number
set_option maxRecDepth 20000 in
theorem ggX6_statement_X6_report : GoodIn wsX6_statement wsX6_report := goodIn_r _ [82, 22, 83, 114, 115, 116, 117, 118, 119, 120, 121, 122, 123, 124, 125, 126, 127, 128, 129, 130, 131, 132, 133, 134, 135] (by decide +kernel) (by decide +kernel)
set_option maxRecDepth 20000 in
theorem gX6_statement_X6_report : GoodIn wsX6_statement (wsV RX6 103 RX6 yX6_report wsX6_report) := goodIn_app (goodIn_of _ (by decide +kernel)) ggX6_statement_X6_report
set_option maxRecDepth 20000 in
theorem ggX6_statement_X6_expect : GoodIn wsX6_statement wsX6_expect := goodIn_r _ [113, 1, 18, 19, 20, 6, 21, 22, 3, 4, 5, 7, 8, 9, 10, 11, 12, 13, 79, 80, 81, 82, 83, 114, 115, 116, 117, 118, 119, 120, 121, 122, 123, 124, 125, 126, 127, 128, 129, 130, 131, 132, 133, 134, 135] (by decide +kernel) (by decide +kernel)
set_option maxRecDepth 20000 in
theorem gX6_statement_X6_expect : GoodIn wsX6_statement (wsV RX6 149 RX6 yX6_expect wsX6_expect) := goodIn_app (goodIn_of _ (by decide +kernel)) ggX6_statement_X6_expect
theorem dX6_statement_0 : decode cX6_statement 0 = .ok (.aload_n 0, 1) := by decide +kernel
theorem dX6_statement_1 : decode cX6_statement 1 = .ok (.invokevirtual 90, 3) := by decide +kernel
theorem dX6_statement_4 : decode cX6_statement 4 = .ok (.pop, 1) := by decide +kernel
theorem dX6_statement_5 : decode cX6_statement 5 = .ok (.aload_n 0, 1) := by decide +kernel
theorem dX6_statement_6 : decode cX6_statement 6 = .ok (.getfield 70, 3) := by decide +kernel
theorem dX6_statement_9 : decode cX6_statement 9 = .ok (.istore_n 1, 1) := by decide +kernel
theorem dX6_statement_10 : decode cX6_statement 10 = .ok (.aload_n 0, 1) := by decide +kernel
theorem dX6_statement_11 : decode cX6_statement 11 = .ok (.ldc 136, 2) := by decide +kernel
theorem dX6_statement_13 : decode cX6_statement 13 = .ok (.invokevirtual 127, 3) := by decide +kernel
theorem dX6_statement_16 : decode cX6_statement 16 = .ok (.ifCond .eq 11, 3) := by decide +kernel
theorem dX6_statement_19 : decode cX6_statement 19 = .ok (.aload_n 0, 1) := by decide +kernel
theorem dX6_statement_20 : decode cX6_statement 20 = .ok (.iload_n 1, 1) := by decide +kernel
theorem dX6_statement_21 : decode cX6_statement 21 = .ok (.invokevirtual 138, 3) := by decide +kernel
theorem dX6_statement_24 : decode cX6_statement 24 = .ok (.goto 87, 3) := by decide +kernel
theorem dX6_statement_27 : decode cX6_statement 27 = .ok (.aload_n 0, 1) := by decide +kernel
theorem dX6_statement_28 : decode cX6_statement 28 = .ok (.ldc 142, 2) := by decide +kernel
theorem dX6_statement_30 : decode cX6_statement 30 = .ok (.invokevirtual 127, 3) := by decide +kernel
theorem dX6_statement_33 : decode cX6_statement 33 = .ok (.ifCond .eq 40, 3) := by decide +kernel
theorem dX6_statement_36 : decode cX6_statement 36 = .ok (.aload_n 0, 1) := by decide +kernel
theorem dX6_statement_37 : decode cX6_statement 37 = .ok (.iconst 0, 1) := by decide +kernel
theorem dX6_statement_38 : decode cX6_statement 38 = .ok (.iload_n 1, 1) := by decide +kernel
theorem dX6_statement_39 : decode cX6_statement 39 = .ok (.invokevirtual 144, 3) := by decide +kernel
theorem dX6_statement_42 : decode cX6_statement 42 = .ok (.iconst 0, 1) := by decide +kernel
theorem dX6_statement_43 : decode cX6_statement 43 = .ok (.istore_n 2, 1) := by decide +kernel
theorem dX6_statement_44 : decode cX6_statement 44 = .ok (.iload_n 2, 1) := by decide +kernel
theorem dX6_statement_45 : decode cX6_statement 45 = .ok (.iconst 5, 1) := by decide +kernel
theorem dX6_statement_46 : decode cX6_statement 46 = .ok (.if_icmp .ge 24, 3) := by decide +kernel
theorem dX6_statement_49 : decode cX6_statement 49 = .ok (.aload_n 0, 1) := by decide +kernel
theorem dX6_statement_50 : decode cX6_statement 50 = .ok (.getfield 20, 3) := by decide +kernel
theorem dX6_statement_53 : decode cX6_statement 53 = .ok (.iconst 4, 1) := by decide +kernel
theorem dX6_statement_54 : decode cX6_statement 54 = .ok (.iload_n 2, 1) := by decide +kernel
theorem dX6_statement_55 : decode cX6_statement 55 = .ok (.iadd, 1) := by decide +kernel
theorem dX6_statement_56 : decode cX6_statement 56 = .ok (.aload_n 0, 1) := by decide +kernel
theorem dX6_statement_57 : decode cX6_statement 57 = .ok (.iconst 0, 1) := by decide +kernel
theorem dX6_statement_58 : decode cX6_statement 58 = .ok (.bipush 99, 2) := by decide +kernel
theorem dX6_statement_60 : decode cX6_statement 60 = .ok (.invokevirtual 122, 3) := by decide +kernel
theorem dX6_statement_63 : decode cX6_statement 63 = .ok (.iastore, 1) := by decide +kernel
theorem dX6_statement_64 : decode cX6_statement 64 = .ok (.iinc 2 1, 3) := by decide +kernel
theorem dX6_statement_67 : decode cX6_statement 67 = .ok (.goto (-23), 3) := by decide +kernel
theorem dX6_statement_70 : decode cX6_statement 70 = .ok (.goto 41, 3) := by decide +kernel
theorem dX6_statement_73 : decode cX6_statement 73 = .ok (.aload_n 0, 1) := by decide +kernel
theorem dX6_statement_74 : decode cX6_statement 74 = .ok (.ldc 147, 2) := by decide +kernel
theorem dX6_statement_76 : decode cX6_statement 76 = .ok (.invokevirtual 127, 3) := by decide +kernel
theorem dX6_statement_79 : decode cX6_statement 79 = .ok (.ifCond .eq 25, 3) := by decide +kernel
theorem dX6_statement_82 : decode cX6_statement 82 = .ok (.aload_n 0, 1) := by decide +kernel
theorem dX6_statement_83 : decode cX6_statement 83 = .ok (.iconst 1, 1) := by decide +kernel
theorem dX6_statement_84 : decode cX6_statement 84 = .ok (.iload_n 1, 1) := by decide +kernel
theorem dX6_statement_85 : decode cX6_statement 85 = .ok (.invokevirtual 144, 3) := by decide +kernel
theorem dX6_statement_88 : decode cX6_statement 88 = .ok (.aload_n 0, 1) := by decide +kernel
theorem dX6_statement_89 : decode cX6_statement 89 = .ok (.getfield 20, 3) := by decide +kernel
theorem dX6_statement_92 : decode cX6_statement 92 = .ok (.iconst 3, 1) := by decide +kernel
theorem dX6_statement_93 : decode cX6_statement 93 = .ok (.aload_n 0, 1) := by decide +kernel
theorem dX6_statement_94 : decode cX6_statement 94 = .ok (.iconst 1, 1) := by decide +kernel
theorem dX6_statement_95 : decode cX6_statement 95 = .ok (.bipush 9, 2) := by decide +kernel
theorem dX6_statement_97 : decode cX6_statement 97 = .ok (.invokevirtual 122, 3) := by decide +kernel
theorem dX6_statement_100 : decode cX6_statement 100 = .ok (.iastore, 1) := by decide +kernel
theorem dX6_statement_101 : decode cX6_statement 101 = .ok (.goto 10, 3) := by decide +kernel
theorem dX6_statement_104 : decode cX6_statement 104 = .ok (.aload_n 0, 1) := by decide +kernel
theorem dX6_statement_105 : decode cX6_statement 105 = .ok (.bipush (-2), 2) := by decide +kernel
theorem dX6_statement_107 : decode cX6_statement 107 = .ok (.iload_n 1, 1) := by decide +kernel
theorem dX6_statement_108 : decode cX6_statement 108 = .ok (.invokevirtual 103, 3) := by decide +kernel
theorem dX6_statement_111 : decode cX6_statement 111 = .ok (.aload_n 0, 1) := by decide +kernel
theorem dX6_statement_112 : decode cX6_statement 112 = .ok (.bipush 59, 2) := by decide +kernel
theorem dX6_statement_114 : decode cX6_statement 114 = .ok (.invokevirtual 149, 3) := by decide +kernel
theorem dX6_statement_117 : decode cX6_statement 117 = .ok (.return_, 1) := by decide +kernel
set_option maxRecDepth 20000 in
theorem ggX6_load_X6_in : GoodIn wsX6_load wsX6_in := goodIn_r _ [14] (by decide +kernel) (by decide +kernel)
set_option maxRecDepth 20000 in
theorem gX6_load_X6_in : GoodIn wsX6_load (va_wsS RX6 82 yX6_in wsX6_in) := goodIn_app (goodIn_of _ (by decide +kernel)) ggX6_load_X6_in
set_option maxRecDepth 20000 in
theorem ggX6_load_X6_fails : GoodIn wsX6_load wsX6_fails := goodIn_r _ [18, 1, 138, 139, 140, 141, 142, 143, 144, 145, 146, 147, 148, 149, 150, 151, 152, 153, 154, 155, 156, 157, 158, 159] (by decide +kernel) (by decide +kernel)
set_option maxRecDepth 20000 in
theorem gX6_load_X6_fails : GoodIn wsX6_load (wsV RX6 152 RX6 yX6_fails wsX6_fails) := goodIn_app (goodIn_of _ (by decide +kernel)) ggX6_load_X6_fails
set_option maxRecDepth 20000 in
theorem ggX6_load_X6_takeWord : GoodIn wsX6_load wsX6_takeWord := goodIn_r _ [22, 4, 23, 24, 25, 13, 26, 5, 27, 28, 29, 30, 31, 32, 33, 34, 3, 35, 36, 37, 38, 39, 40, 41, 42, 43, 44, 45, 46, 47, 48, 49, 50, 51, 52, 53, 54, 55, 56, 57, 58, 59, 60, 61, 62, 63, 64, 65, 66, 67, 68, 69, 70, 71, 72, 73, 74, 75, 76, 77, 78, 79, 80, 81, 82, 83, 84, 11, 12, 14, 138, 139, 140, 141, 142, 143, 144, 145, 146, 147, 148, 149, 150, 151, 152, 153, 154, 155, 156, 157, 158, 159] (by decide +kernel) (by decide +kernel)
set_option maxRecDepth 20000 in
theorem gX6_load_X6_takeWord : GoodIn wsX6_load (wsV RX6 127 RX6 yX6_takeWord wsX6_takeWord) := goodIn_app (goodIn_of _ (by decide +kernel)) ggX6_load_X6_takeWord
set_option maxRecDepth 20000 in
theorem ggX6_load_X6_report : GoodIn wsX6_load wsX6_report := goodIn_r _ [88, 5, 6, 138, 139, 140, 141, 142, 143, 144, 145, 146, 147, 148, 149, 150, 151, 152, 153, 154, 155, 156, 157, 158, 159] (by decide +kernel) (by decide +kernel)
set_option maxRecDepth 20000 in
theorem gX6_load_X6_report : GoodIn wsX6_load (wsV RX6 103 RX6 yX6_report wsX6_report) := goodIn_app (goodIn_of _ (by decide +kernel)) ggX6_load_X6_report
set_option maxRecDepth 20000 in
theorem ggX6_load_X6_number : GoodIn wsX6_load wsX6_number := goodIn_r _ [92, 4, 93, 94, 23, 24, 25, 13, 26, 5, 27, 28, 29, 30, 31, 32, 33, 34, 3, 35, 95, 96, 97, 11, 12, 14, 85, 86, 87, 88, 6, 98, 99, 100, 138, 139, 140, 141, 142, 143, 144, 145, 146, 147, 148, 149, 150, 151, 152, 153, 154, 155, 156, 157, 158, 159] (by decide +kernel) (by decide +kernel)
set_option maxRecDepth 20000 in
theorem gX6_load_X6_number : GoodIn wsX6_load (wsV RX6 122 RX6 yX6_number wsX6_number) := goodIn_app (goodIn_of _ (by decide +kernel)) ggX6_load_X6_number
set_option maxRecDepth 20000 in
theorem ggX6_load_X6_layBill : GoodIn wsX6_load wsX6_layBill := goodIn_r _ [103] (by decide +kernel) (by decide +kernel)
set_option maxRecDepth 20000 in
theorem gX6_load_X6_layBill : GoodIn wsX6_load (va_wsS RX6 49 yX6_layBill wsX6_layBill) := goodIn_app (goodIn_of _ (by decide +kernel)) ggX6_load_X6_layBill
set_option maxRecDepth 20000 in
theorem ggX6_load_X6_expect : GoodIn wsX6_load wsX6_expect := goodIn_r _ [107, 4, 23, 24, 25, 13, 26, 5, 27, 28, 29, 30, 31, 32, 33, 34, 3, 35, 85, 86, 87, 88, 6, 138, 139, 140, 141, 142, 143, 144, 145, 146, 147, 148, 149, 150, 151, 152, 153, 154, 155, 156, 157, 158, 159] (by decide +kernel) (by decide +kernel)
set_option maxRecDepth 20000 in
theorem gX6_load_X6_expect : GoodIn wsX6_load (wsV RX6 149 RX6 yX6_expect wsX6_expect) := goodIn_app (goodIn_of _ (by decide +kernel)) ggX6_load_X6_expect
set_option maxRecDepth 20000 in
theorem ggX6_load_X6_isGood : GoodIn wsX6_load wsX6_isGood := goodIn_r _ [26, 5, 138, 139, 140, 141, 142, 143, 144, 145, 146, 147, 148, 149, 150, 151, 152, 153, 154, 155, 156, 157, 158, 159] (by decide +kernel) (by decide +kernel)
set_option maxRecDepth 20000 in
theorem gX6_load_X6_isGood : GoodIn wsX6_load (wsV RX6 86 RX6 yX6_isGood wsX6_isGood) := goodIn_app (goodIn_of _ (by decide +kernel)) ggX6_load_X6_isGood
set_option maxRecDepth 20000 in
theorem ggX6_load_X6_ahead : GoodIn wsX6_load wsX6_ahead := goodIn_r _ [30, 4, 31, 32, 33, 13, 34, 3, 35, 138, 139, 140, 141, 142, 143, 144, 145, 146, 147, 148, 149, 150, 151, 152, 153, 154, 155, 156, 157, 158, 159] (by decide +kernel) (by decide +kernel)
set_option maxRecDepth 20000 in
theorem gX6_load_X6_ahead : GoodIn wsX6_load (wsV RX6 90 RX6 yX6_ahead wsX6_ahead) := goodIn_app (goodIn_of _ (by decide +kernel)) ggX6_load_X6_ahead
set_option maxRecDepth 20000 in
theorem ggX6_load_X6_statement : GoodIn wsX6_load wsX6_statement := goodIn_r _ [111, 4, 8, 27, 28, 29, 13, 30, 31, 32, 33, 34, 3, 35, 19, 20, 21, 22, 23, 24, 25, 26, 5, 36, 37, 38, 39, 40, 41, 42, 43, 44, 45, 46, 47, 48, 49, 50, 51, 52, 53, 54, 55, 56, 57, 58, 59, 60, 61, 62, 63, 64, 65, 66, 67, 68, 69, 70, 71, 72, 73, 74, 75, 76, 77, 78, 79, 80, 81, 82, 83, 84, 11, 12, 14, 112, 113, 114, 115, 85, 86, 87, 88, 6, 116, 117, 118, 98, 99, 100, 89, 90, 91, 92, 93, 94, 95, 96, 97, 119, 120, 121, 122, 123, 124, 125, 126, 127, 128, 7, 104, 105, 106, 107, 138, 139, 140, 141, 142, 143, 144, 145, 146, 147, 148, 149, 150, 151, 152, 153, 154, 155, 156, 157, 158, 159] (by decide +kernel) (by decide +kernel)
set_option maxRecDepth 20000 in
theorem gX6_load_X6_statement : GoodIn wsX6_load (wsV RX6 158 RX6 yX6_statement wsX6_statement) := goodIn_app (goodIn_of _ (by decide +kernel)) ggX6_load_X6_statement
set_option maxRecDepth 20000 in
theorem ggX6_load_X6_remember : GoodIn wsX6_load wsX6_remember := goodIn_r _ [132, 133, 134, 10, 135, 136, 13, 137, 138, 139, 140, 141, 142, 143, 144, 145, 146, 147, 148, 149, 150, 151, 152, 153, 154, 155, 156, 157, 158, 159] (by decide +kernel) (by decide +kernel)
set_option maxRecDepth 20000 in
theorem gX6_load_X6_remember : GoodIn wsX6_load (wsV RX6 161 RX6 yX6_remember wsX6_remember) := goodIn_app (goodIn_of _ (by decide +kernel)) ggX6_load_X6_remember
set_option maxRecDepth 20000 in
theorem ggX6_load_X6_copy : GoodIn wsX6_load wsX6_copy := goodIn_r _ [137] (by decide +kernel) (by decide +kernel)
set_option maxRecDepth 20000 in
theorem gX6_load_X6_copy : GoodIn wsX6_load (va_wsS RX6 164 yX6_copy wsX6_copy) := goodIn_app (goodIn_of _ (by decide +kernel)) ggX6_load_X6_copy
theorem dX6_load_0 : decode cX6_load 0 = .ok (.aload_n 0, 1) := by decide +kernel
theorem dX6_load_1 : decode cX6_load 1 = .ok (.iconst 0, 1) := by decide +kernel
theorem dX6_load_2 : decode cX6_load 2 = .ok (.putfield 53, 3) := by decide +kernel
theorem dX6_load_5 : decode cX6_load 5 = .ok (.aload_n 0, 1) := by decide +kernel
theorem dX6_load_6 : decode cX6_load 6 = .ok (.iload_n 1, 1) := by decide +kernel
theorem dX6_load_7 : decode cX6_load 7 = .ok (.iconst 0, 1) := by decide +kernel
theorem dX6_load_8 : decode cX6_load 8 = .ok (.aload_n 0, 1) := by decide +kernel
theorem dX6_load_9 : decode cX6_load 9 = .ok (.getfield 64, 3) := by decide +kernel
theorem dX6_load_12 : decode cX6_load 12 = .ok (.invokestatic 82, 3) := by decide +kernel
theorem dX6_load_15 : decode cX6_load 15 = .ok (.ifCond .ne 7, 3) := by decide +kernel
theorem dX6_load_18 : decode cX6_load 18 = .ok (.iconst 1, 1) := by decide +kernel
theorem dX6_load_19 : decode cX6_load 19 = .ok (.goto 4, 3) := by decide +kernel
theorem dX6_load_22 : decode cX6_load 22 = .ok (.iconst 0, 1) := by decide +kernel
theorem dX6_load_23 : decode cX6_load 23 = .ok (.iconst 1, 1) := by decide +kernel
theorem dX6_load_24 : decode cX6_load 24 = .ok (.invokevirtual 152, 3) := by decide +kernel
theorem dX6_load_27 : decode cX6_load 27 = .ok (.ifCond .eq 5, 3) := by decide +kernel
theorem dX6_load_30 : decode cX6_load 30 = .ok (.iconst 0, 1) := by decide +kernel
theorem dX6_load_31 : decode cX6_load 31 = .ok (.ireturn, 1) := by decide +kernel
theorem dX6_load_32 : decode cX6_load 32 = .ok (.aload_n 0, 1) := by decide +kernel
theorem dX6_load_33 : decode cX6_load 33 = .ok (.iconst 0, 1) := by decide +kernel
theorem dX6_load_34 : decode cX6_load 34 = .ok (.putfield 64, 3) := by decide +kernel
theorem dX6_load_37 : decode cX6_load 37 = .ok (.aload_n 0, 1) := by decide +kernel
theorem dX6_load_38 : decode cX6_load 38 = .ok (.iload_n 1, 1) := by decide +kernel
theorem dX6_load_39 : decode cX6_load 39 = .ok (.putfield 67, 3) := by decide +kernel
theorem dX6_load_42 : decode cX6_load 42 = .ok (.aload_n 0, 1) := by decide +kernel
theorem dX6_load_43 : decode cX6_load 43 = .ok (.iconst 0, 1) := by decide +kernel
theorem dX6_load_44 : decode cX6_load 44 = .ok (.putfield 70, 3) := by decide +kernel
theorem dX6_load_47 : decode cX6_load 47 = .ok (.aload_n 0, 1) := by decide +kernel
theorem dX6_load_48 : decode cX6_load 48 = .ok (.iconst 0, 1) := by decide +kernel
theorem dX6_load_49 : decode cX6_load 49 = .ok (.putfield 76, 3) := by decide +kernel
theorem dX6_load_52 : decode cX6_load 52 = .ok (.aload_n 0, 1) := by decide +kernel
theorem dX6_load_53 : decode cX6_load 53 = .ok (.iconst (-1), 1) := by decide +kernel
theorem dX6_load_54 : decode cX6_load 54 = .ok (.putfield 79, 3) := by decide +kernel
theorem dX6_load_57 : decode cX6_load 57 = .ok (.aload_n 0, 1) := by decide +kernel
theorem dX6_load_58 : decode cX6_load 58 = .ok (.iconst 0, 1) := by decide +kernel
theorem dX6_load_59 : decode cX6_load 59 = .ok (.putfield 119, 3) := by decide +kernel
theorem dX6_load_62 : decode cX6_load 62 = .ok (.aload_n 0, 1) := by decide +kernel
theorem dX6_load_63 : decode cX6_load 63 = .ok (.ldc 156, 2) := by decide +kernel
theorem dX6_load_65 : decode cX6_load 65 = .ok (.invokevirtual 127, 3) := by decide +kernel
theorem dX6_load_68 : decode cX6_load 68 = .ok (.ifCond .ne 13, 3) := by decide +kernel
theorem dX6_load_71 : decode cX6_load 71 = .ok (.aload_n 0, 1) := by decide +kernel
theorem dX6_load_72 : decode cX6_load 72 = .ok (.bipush (-2), 2) := by decide +kernel
theorem dX6_load_74 : decode cX6_load 74 = .ok (.aload_n 0, 1) := by decide +kernel
theorem dX6_load_75 : decode cX6_load 75 = .ok (.getfield 70, 3) := by decide +kernel
theorem dX6_load_78 : decode cX6_load 78 = .ok (.invokevirtual 103, 3) := by decide +kernel
theorem dX6_load_81 : decode cX6_load 81 = .ok (.aload_n 0, 1) := by decide +kernel
theorem dX6_load_82 : decode cX6_load 82 = .ok (.iconst 4, 1) := by decide +kernel
theorem dX6_load_83 : decode cX6_load 83 = .ok (.bipush 40, 2) := by decide +kernel
theorem dX6_load_85 : decode cX6_load 85 = .ok (.invokevirtual 122, 3) := by decide +kernel
theorem dX6_load_88 : decode cX6_load 88 = .ok (.istore_n 2, 1) := by decide +kernel
theorem dX6_load_89 : decode cX6_load 89 = .ok (.aload_n 0, 1) := by decide +kernel
theorem dX6_load_90 : decode cX6_load 90 = .ok (.getfield 20, 3) := by decide +kernel
theorem dX6_load_93 : decode cX6_load 93 = .ok (.iload_n 2, 1) := by decide +kernel
theorem dX6_load_94 : decode cX6_load 94 = .ok (.invokestatic 49, 3) := by decide +kernel
theorem dX6_load_97 : decode cX6_load 97 = .ok (.aload_n 0, 1) := by decide +kernel
