set_option maxRecDepth 20000 in
theorem ggX0_init_X0_clear : GoodIn wsX0_init wsX0_clear := goodIn_r _ [17, 18, 19, 20, 21, 5, 22, 23, 24, 25, 26, 27, 28, 29, 30, 31, 32] (by decide +kernel) (by decide +kernel)
set_option maxRecDepth 20000 in
theorem gX0_init_X0_clear : GoodIn wsX0_init (wsV RX0 34 RX0 yX0_clear wsX0_clear) := goodIn_app (goodIn_of _ (by decide +kernel)) ggX0_init_X0_clear
theorem dX0_init_0 : decode cX0_init 0 = .ok (.aload_n 0, 1) := by decide +kernel
theorem dX0_init_1 : decode cX0_init 1 = .ok (.invokespecial 3, 3) := by decide +kernel
theorem dX0_init_4 : decode cX0_init 4 = .ok (.aload_n 0, 1) := by decide +kernel
theorem dX0_init_5 : decode cX0_init 5 = .ok (.iconst 5, 1) := by decide +kernel
theorem dX0_init_6 : decode cX0_init 6 = .ok (.newarray .int, 2) := by decide +kernel
theorem dX0_init_8 : decode cX0_init 8 = .ok (.putfield 9, 3) := by decide +kernel
theorem dX0_init_11 : decode cX0_init 11 = .ok (.aload_n 0, 1) := by decide +kernel
theorem dX0_init_12 : decode cX0_init 12 = .ok (.bipush 24, 2) := by decide +kernel
theorem dX0_init_14 : decode cX0_init 14 = .ok (.newarray .int, 2) := by decide +kernel
theorem dX0_init_16 : decode cX0_init 16 = .ok (.putfield 15, 3) := by decide +kernel
theorem dX0_init_19 : decode cX0_init 19 = .ok (.aload_n 0, 1) := by decide +kernel
theorem dX0_init_20 : decode cX0_init 20 = .ok (.bipush 24, 2) := by decide +kernel
theorem dX0_init_22 : decode cX0_init 22 = .ok (.newarray .int, 2) := by decide +kernel
theorem dX0_init_24 : decode cX0_init 24 = .ok (.putfield 18, 3) := by decide +kernel
theorem dX0_init_27 : decode cX0_init 27 = .ok (.aload_n 0, 1) := by decide +kernel
theorem dX0_init_28 : decode cX0_init 28 = .ok (.bipush 24, 2) := by decide +kernel
theorem dX0_init_30 : decode cX0_init 30 = .ok (.newarray .int, 2) := by decide +kernel
theorem dX0_init_32 : decode cX0_init 32 = .ok (.putfield 21, 3) := by decide +kernel
theorem dX0_init_35 : decode cX0_init 35 = .ok (.aload_n 0, 1) := by decide +kernel
theorem dX0_init_36 : decode cX0_init 36 = .ok (.bipush 24, 2) := by decide +kernel
theorem dX0_init_38 : decode cX0_init 38 = .ok (.newarray .boolean, 2) := by decide +kernel
theorem dX0_init_40 : decode cX0_init 40 = .ok (.putfield 24, 3) := by decide +kernel
theorem dX0_init_43 : decode cX0_init 43 = .ok (.aload_n 0, 1) := by decide +kernel
theorem dX0_init_44 : decode cX0_init 44 = .ok (.bipush 24, 2) := by decide +kernel
theorem dX0_init_46 : decode cX0_init 46 = .ok (.newarray .boolean, 2) := by decide +kernel
theorem dX0_init_48 : decode cX0_init 48 = .ok (.putfield 28, 3) := by decide +kernel
theorem dX0_init_51 : decode cX0_init 51 = .ok (.aload_n 0, 1) := by decide +kernel
theorem dX0_init_52 : decode cX0_init 52 = .ok (.bipush 24, 2) := by decide +kernel
theorem dX0_init_54 : decode cX0_init 54 = .ok (.newarray .boolean, 2) := by decide +kernel
theorem dX0_init_56 : decode cX0_init 56 = .ok (.putfield 31, 3) := by decide +kernel
theorem dX0_init_59 : decode cX0_init 59 = .ok (.aload_n 0, 1) := by decide +kernel
theorem dX0_init_60 : decode cX0_init 60 = .ok (.invokevirtual 34, 3) := by decide +kernel
theorem dX0_init_63 : decode cX0_init 63 = .ok (.return_, 1) := by decide +kernel
theorem dX0_clear_0 : decode cX0_clear 0 = .ok (.aload_n 0, 1) := by decide +kernel
theorem dX0_clear_1 : decode cX0_clear 1 = .ok (.bipush 20, 2) := by decide +kernel
theorem dX0_clear_3 : decode cX0_clear 3 = .ok (.putfield 37, 3) := by decide +kernel
theorem dX0_clear_6 : decode cX0_clear 6 = .ok (.aload_n 0, 1) := by decide +kernel
theorem dX0_clear_7 : decode cX0_clear 7 = .ok (.iconst 0, 1) := by decide +kernel
theorem dX0_clear_8 : decode cX0_clear 8 = .ok (.putfield 41, 3) := by decide +kernel
theorem dX0_clear_11 : decode cX0_clear 11 = .ok (.aload_n 0, 1) := by decide +kernel
theorem dX0_clear_12 : decode cX0_clear 12 = .ok (.iconst 3, 1) := by decide +kernel
theorem dX0_clear_13 : decode cX0_clear 13 = .ok (.putfield 44, 3) := by decide +kernel
theorem dX0_clear_16 : decode cX0_clear 16 = .ok (.aload_n 0, 1) := by decide +kernel
theorem dX0_clear_17 : decode cX0_clear 17 = .ok (.iconst 0, 1) := by decide +kernel
theorem dX0_clear_18 : decode cX0_clear 18 = .ok (.putfield 47, 3) := by decide +kernel
theorem dX0_clear_21 : decode cX0_clear 21 = .ok (.aload_n 0, 1) := by decide +kernel
theorem dX0_clear_22 : decode cX0_clear 22 = .ok (.getfield 9, 3) := by decide +kernel
theorem dX0_clear_25 : decode cX0_clear 25 = .ok (.iconst 0, 1) := by decide +kernel
theorem dX0_clear_26 : decode cX0_clear 26 = .ok (.iconst 1, 1) := by decide +kernel
theorem dX0_clear_27 : decode cX0_clear 27 = .ok (.iastore, 1) := by decide +kernel
theorem dX0_clear_28 : decode cX0_clear 28 = .ok (.aload_n 0, 1) := by decide +kernel
theorem dX0_clear_29 : decode cX0_clear 29 = .ok (.getfield 9, 3) := by decide +kernel
theorem dX0_clear_32 : decode cX0_clear 32 = .ok (.iconst 1, 1) := by decide +kernel
theorem dX0_clear_33 : decode cX0_clear 33 = .ok (.iconst 5, 1) := by decide +kernel
theorem dX0_clear_34 : decode cX0_clear 34 = .ok (.iastore, 1) := by decide +kernel
theorem dX0_clear_35 : decode cX0_clear 35 = .ok (.aload_n 0, 1) := by decide +kernel
theorem dX0_clear_36 : decode cX0_clear 36 = .ok (.getfield 9, 3) := by decide +kernel
theorem dX0_clear_39 : decode cX0_clear 39 = .ok (.iconst 2, 1) := by decide +kernel
theorem dX0_clear_40 : decode cX0_clear 40 = .ok (.bipush 10, 2) := by decide +kernel
theorem dX0_clear_42 : decode cX0_clear 42 = .ok (.iastore, 1) := by decide +kernel
theorem dX0_clear_43 : decode cX0_clear 43 = .ok (.aload_n 0, 1) := by decide +kernel
theorem dX0_clear_44 : decode cX0_clear 44 = .ok (.getfield 9, 3) := by decide +kernel
theorem dX0_clear_47 : decode cX0_clear 47 = .ok (.iconst 3, 1) := by decide +kernel
theorem dX0_clear_48 : decode cX0_clear 48 = .ok (.bipush 8, 2) := by decide +kernel
theorem dX0_clear_50 : decode cX0_clear 50 = .ok (.iastore, 1) := by decide +kernel
theorem dX0_clear_51 : decode cX0_clear 51 = .ok (.aload_n 0, 1) := by decide +kernel
theorem dX0_clear_52 : decode cX0_clear 52 = .ok (.getfield 9, 3) := by decide +kernel
theorem dX0_clear_55 : decode cX0_clear 55 = .ok (.iconst 4, 1) := by decide +kernel
theorem dX0_clear_56 : decode cX0_clear 56 = .ok (.iconst 2, 1) := by decide +kernel
theorem dX0_clear_57 : decode cX0_clear 57 = .ok (.iastore, 1) := by decide +kernel
theorem dX0_clear_58 : decode cX0_clear 58 = .ok (.return_, 1) := by decide +kernel
theorem dX0_copyFrom_0 : decode cX0_copyFrom 0 = .ok (.aload_n 0, 1) := by decide +kernel
theorem dX0_copyFrom_1 : decode cX0_copyFrom 1 = .ok (.aload_n 1, 1) := by decide +kernel
theorem dX0_copyFrom_2 : decode cX0_copyFrom 2 = .ok (.getfield 37, 3) := by decide +kernel
theorem dX0_copyFrom_5 : decode cX0_copyFrom 5 = .ok (.putfield 37, 3) := by decide +kernel
theorem dX0_copyFrom_8 : decode cX0_copyFrom 8 = .ok (.aload_n 0, 1) := by decide +kernel
theorem dX0_copyFrom_9 : decode cX0_copyFrom 9 = .ok (.aload_n 1, 1) := by decide +kernel
theorem dX0_copyFrom_10 : decode cX0_copyFrom 10 = .ok (.getfield 41, 3) := by decide +kernel
theorem dX0_copyFrom_13 : decode cX0_copyFrom 13 = .ok (.putfield 41, 3) := by decide +kernel
theorem dX0_copyFrom_16 : decode cX0_copyFrom 16 = .ok (.aload_n 0, 1) := by decide +kernel
theorem dX0_copyFrom_17 : decode cX0_copyFrom 17 = .ok (.aload_n 1, 1) := by decide +kernel
theorem dX0_copyFrom_18 : decode cX0_copyFrom 18 = .ok (.getfield 44, 3) := by decide +kernel
theorem dX0_copyFrom_21 : decode cX0_copyFrom 21 = .ok (.putfield 44, 3) := by decide +kernel
theorem dX0_copyFrom_24 : decode cX0_copyFrom 24 = .ok (.aload_n 0, 1) := by decide +kernel
theorem dX0_copyFrom_25 : decode cX0_copyFrom 25 = .ok (.aload_n 1, 1) := by decide +kernel
theorem dX0_copyFrom_26 : decode cX0_copyFrom 26 = .ok (.getfield 47, 3) := by decide +kernel
theorem dX0_copyFrom_29 : decode cX0_copyFrom 29 = .ok (.putfield 47, 3) := by decide +kernel
theorem dX0_copyFrom_32 : decode cX0_copyFrom 32 = .ok (.aload_n 1, 1) := by decide +kernel
theorem dX0_copyFrom_33 : decode cX0_copyFrom 33 = .ok (.getfield 9, 3) := by decide +kernel
theorem dX0_copyFrom_36 : decode cX0_copyFrom 36 = .ok (.iconst 0, 1) := by decide +kernel
theorem dX0_copyFrom_37 : decode cX0_copyFrom 37 = .ok (.aload_n 0, 1) := by decide +kernel
theorem dX0_copyFrom_38 : decode cX0_copyFrom 38 = .ok (.getfield 9, 3) := by decide +kernel
theorem dX0_copyFrom_41 : decode cX0_copyFrom 41 = .ok (.iconst 0, 1) := by decide +kernel
theorem dX0_copyFrom_42 : decode cX0_copyFrom 42 = .ok (.iconst 5, 1) := by decide +kernel
theorem dX0_copyFrom_43 : decode cX0_copyFrom 43 = .ok (.invokestatic 50, 3) := by decide +kernel
theorem dX0_copyFrom_46 : decode cX0_copyFrom 46 = .ok (.aload_n 1, 1) := by decide +kernel
theorem dX0_copyFrom_47 : decode cX0_copyFrom 47 = .ok (.getfield 15, 3) := by decide +kernel
theorem dX0_copyFrom_50 : decode cX0_copyFrom 50 = .ok (.iconst 0, 1) := by decide +kernel
theorem dX0_copyFrom_51 : decode cX0_copyFrom 51 = .ok (.aload_n 0, 1) := by decide +kernel
theorem dX0_copyFrom_52 : decode cX0_copyFrom 52 = .ok (.getfield 15, 3) := by decide +kernel
theorem dX0_copyFrom_55 : decode cX0_copyFrom 55 = .ok (.iconst 0, 1) := by decide +kernel
theorem dX0_copyFrom_56 : decode cX0_copyFrom 56 = .ok (.bipush 24, 2) := by decide +kernel
theorem dX0_copyFrom_58 : decode cX0_copyFrom 58 = .ok (.invokestatic 50, 3) := by decide +kernel
theorem dX0_copyFrom_61 : decode cX0_copyFrom 61 = .ok (.aload_n 1, 1) := by decide +kernel
theorem dX0_copyFrom_62 : decode cX0_copyFrom 62 = .ok (.getfield 18, 3) := by decide +kernel
theorem dX0_copyFrom_65 : decode cX0_copyFrom 65 = .ok (.iconst 0, 1) := by decide +kernel
theorem dX0_copyFrom_66 : decode cX0_copyFrom 66 = .ok (.aload_n 0, 1) := by decide +kernel
theorem dX0_copyFrom_67 : decode cX0_copyFrom 67 = .ok (.getfield 18, 3) := by decide +kernel
theorem dX0_copyFrom_70 : decode cX0_copyFrom 70 = .ok (.iconst 0, 1) := by decide +kernel
theorem dX0_copyFrom_71 : decode cX0_copyFrom 71 = .ok (.bipush 24, 2) := by decide +kernel
theorem dX0_copyFrom_73 : decode cX0_copyFrom 73 = .ok (.invokestatic 50, 3) := by decide +kernel
theorem dX0_copyFrom_76 : decode cX0_copyFrom 76 = .ok (.aload_n 1, 1) := by decide +kernel
theorem dX0_copyFrom_77 : decode cX0_copyFrom 77 = .ok (.getfield 21, 3) := by decide +kernel
theorem dX0_copyFrom_80 : decode cX0_copyFrom 80 = .ok (.iconst 0, 1) := by decide +kernel
theorem dX0_copyFrom_81 : decode cX0_copyFrom 81 = .ok (.aload_n 0, 1) := by decide +kernel
theorem dX0_copyFrom_82 : decode cX0_copyFrom 82 = .ok (.getfield 21, 3) := by decide +kernel
theorem dX0_copyFrom_85 : decode cX0_copyFrom 85 = .ok (.iconst 0, 1) := by decide +kernel
theorem dX0_copyFrom_86 : decode cX0_copyFrom 86 = .ok (.bipush 24, 2) := by decide +kernel
theorem dX0_copyFrom_88 : decode cX0_copyFrom 88 = .ok (.invokestatic 50, 3) := by decide +kernel
theorem dX0_copyFrom_91 : decode cX0_copyFrom 91 = .ok (.iconst 0, 1) := by decide +kernel
theorem dX0_copyFrom_92 : decode cX0_copyFrom 92 = .ok (.istore_n 2, 1) := by decide +kernel
theorem dX0_copyFrom_93 : decode cX0_copyFrom 93 = .ok (.iload_n 2, 1) := by decide +kernel
theorem dX0_copyFrom_94 : decode cX0_copyFrom 94 = .ok (.bipush 24, 2) := by decide +kernel
theorem dX0_copyFrom_96 : decode cX0_copyFrom 96 = .ok (.if_icmp .ge 45, 3) := by decide +kernel
theorem dX0_copyFrom_99 : decode cX0_copyFrom 99 = .ok (.aload_n 0, 1) := by decide +kernel
theorem dX0_copyFrom_100 : decode cX0_copyFrom 100 = .ok (.getfield 24, 3) := by decide +kernel
theorem dX0_copyFrom_103 : decode cX0_copyFrom 103 = .ok (.iload_n 2, 1) := by decide +kernel
theorem dX0_copyFrom_104 : decode cX0_copyFrom 104 = .ok (.aload_n 1, 1) := by decide +kernel
theorem dX0_copyFrom_105 : decode cX0_copyFrom 105 = .ok (.getfield 24, 3) := by decide +kernel
theorem dX0_copyFrom_108 : decode cX0_copyFrom 108 = .ok (.iload_n 2, 1) := by decide +kernel
theorem dX0_copyFrom_109 : decode cX0_copyFrom 109 = .ok (.baload, 1) := by decide +kernel
theorem dX0_copyFrom_110 : decode cX0_copyFrom 110 = .ok (.bastore, 1) := by decide +kernel
theorem dX0_copyFrom_111 : decode cX0_copyFrom 111 = .ok (.aload_n 0, 1) := by decide +kernel
theorem dX0_copyFrom_112 : decode cX0_copyFrom 112 = .ok (.getfield 28, 3) := by decide +kernel
theorem dX0_copyFrom_115 : decode cX0_copyFrom 115 = .ok (.iload_n 2, 1) := by decide +kernel
theorem dX0_copyFrom_116 : decode cX0_copyFrom 116 = .ok (.aload_n 1, 1) := by decide +kernel
theorem dX0_copyFrom_117 : decode cX0_copyFrom 117 = .ok (.getfield 28, 3) := by decide +kernel
theorem dX0_copyFrom_120 : decode cX0_copyFrom 120 = .ok (.iload_n 2, 1) := by decide +kernel
theorem dX0_copyFrom_121 : decode cX0_copyFrom 121 = .ok (.baload, 1) := by decide +kernel
theorem dX0_copyFrom_122 : decode cX0_copyFrom 122 = .ok (.bastore, 1) := by decide +kernel
theorem dX0_copyFrom_123 : decode cX0_copyFrom 123 = .ok (.aload_n 0, 1) := by decide +kernel
theorem dX0_copyFrom_124 : decode cX0_copyFrom 124 = .ok (.getfield 31, 3) := by decide +kernel
theorem dX0_copyFrom_127 : decode cX0_copyFrom 127 = .ok (.iload_n 2, 1) := by decide +kernel
theorem dX0_copyFrom_128 : decode cX0_copyFrom 128 = .ok (.aload_n 1, 1) := by decide +kernel
theorem dX0_copyFrom_129 : decode cX0_copyFrom 129 = .ok (.getfield 31, 3) := by decide +kernel
theorem dX0_copyFrom_132 : decode cX0_copyFrom 132 = .ok (.iload_n 2, 1) := by decide +kernel
theorem dX0_copyFrom_133 : decode cX0_copyFrom 133 = .ok (.baload, 1) := by decide +kernel
theorem dX0_copyFrom_134 : decode cX0_copyFrom 134 = .ok (.bastore, 1) := by decide +kernel
theorem dX0_copyFrom_135 : decode cX0_copyFrom 135 = .ok (.iinc 2 1, 3) := by decide +kernel
theorem dX0_copyFrom_138 : decode cX0_copyFrom 138 = .ok (.goto (-45), 3) := by decide +kernel
theorem dX0_copyFrom_141 : decode cX0_copyFrom 141 = .ok (.return_, 1) := by decide +kernel
set_option maxRecDepth 20000 in
theorem ggX0_insert_X0_moveOneFurther : GoodIn wsX0_insert wsX0_moveOneFurther := goodIn_r _ [12, 2, 3, 4, 5, 6, 7, 13, 14, 15, 16, 17, 18, 19, 20, 21, 22, 23] (by decide +kernel) (by decide +kernel)
set_option maxRecDepth 20000 in
theorem gX0_insert_X0_moveOneFurther : GoodIn wsX0_insert (wsV RX0 56 RX0 yX0_moveOneFurther wsX0_moveOneFurther) := goodIn_app (goodIn_of _ (by decide +kernel)) ggX0_insert_X0_moveOneFurther
theorem dX0_insert_0 : decode cX0_insert 0 = .ok (.aload_n 0, 1) := by decide +kernel
theorem dX0_insert_1 : decode cX0_insert 1 = .ok (.getfield 41, 3) := by decide +kernel
theorem dX0_insert_4 : decode cX0_insert 4 = .ok (.bipush 24, 2) := by decide +kernel
theorem dX0_insert_6 : decode cX0_insert 6 = .ok (.if_icmp .ge 15, 3) := by decide +kernel
theorem dX0_insert_9 : decode cX0_insert 9 = .ok (.iload_n 1, 1) := by decide +kernel
theorem dX0_insert_10 : decode cX0_insert 10 = .ok (.ifCond .lt 11, 3) := by decide +kernel
theorem dX0_insert_13 : decode cX0_insert 13 = .ok (.iload_n 1, 1) := by decide +kernel
theorem dX0_insert_14 : decode cX0_insert 14 = .ok (.aload_n 0, 1) := by decide +kernel
theorem dX0_insert_15 : decode cX0_insert 15 = .ok (.getfield 41, 3) := by decide +kernel
theorem dX0_insert_18 : decode cX0_insert 18 = .ok (.if_icmp .le 4, 3) := by decide +kernel
theorem dX0_insert_21 : decode cX0_insert 21 = .ok (.return_, 1) := by decide +kernel
theorem dX0_insert_22 : decode cX0_insert 22 = .ok (.aload_n 0, 1) := by decide +kernel
theorem dX0_insert_23 : decode cX0_insert 23 = .ok (.getfield 41, 3) := by decide +kernel
theorem dX0_insert_26 : decode cX0_insert 26 = .ok (.istore 5, 2) := by decide +kernel
theorem dX0_insert_28 : decode cX0_insert 28 = .ok (.iload 5, 2) := by decide +kernel
theorem dX0_insert_30 : decode cX0_insert 30 = .ok (.iload_n 1, 1) := by decide +kernel
theorem dX0_insert_31 : decode cX0_insert 31 = .ok (.if_icmp .le 17, 3) := by decide +kernel
theorem dX0_insert_34 : decode cX0_insert 34 = .ok (.aload_n 0, 1) := by decide +kernel
theorem dX0_insert_35 : decode cX0_insert 35 = .ok (.iload 5, 2) := by decide +kernel
theorem dX0_insert_37 : decode cX0_insert 37 = .ok (.iconst 1, 1) := by decide +kernel
theorem dX0_insert_38 : decode cX0_insert 38 = .ok (.isub, 1) := by decide +kernel
theorem dX0_insert_39 : decode cX0_insert 39 = .ok (.invokevirtual 56, 3) := by decide +kernel
theorem dX0_insert_42 : decode cX0_insert 42 = .ok (.iinc 5 (-1), 3) := by decide +kernel
theorem dX0_insert_45 : decode cX0_insert 45 = .ok (.goto (-17), 3) := by decide +kernel
theorem dX0_insert_48 : decode cX0_insert 48 = .ok (.aload_n 0, 1) := by decide +kernel
theorem dX0_insert_49 : decode cX0_insert 49 = .ok (.getfield 15, 3) := by decide +kernel
theorem dX0_insert_52 : decode cX0_insert 52 = .ok (.iload_n 1, 1) := by decide +kernel
theorem dX0_insert_53 : decode cX0_insert 53 = .ok (.iload_n 2, 1) := by decide +kernel
theorem dX0_insert_54 : decode cX0_insert 54 = .ok (.iastore, 1) := by decide +kernel
theorem dX0_insert_55 : decode cX0_insert 55 = .ok (.aload_n 0, 1) := by decide +kernel
theorem dX0_insert_56 : decode cX0_insert 56 = .ok (.getfield 18, 3) := by decide +kernel
theorem dX0_insert_59 : decode cX0_insert 59 = .ok (.iload_n 1, 1) := by decide +kernel
theorem dX0_insert_60 : decode cX0_insert 60 = .ok (.iload_n 3, 1) := by decide +kernel
theorem dX0_insert_61 : decode cX0_insert 61 = .ok (.iastore, 1) := by decide +kernel
theorem dX0_insert_62 : decode cX0_insert 62 = .ok (.aload_n 0, 1) := by decide +kernel
theorem dX0_insert_63 : decode cX0_insert 63 = .ok (.getfield 21, 3) := by decide +kernel
theorem dX0_insert_66 : decode cX0_insert 66 = .ok (.iload_n 1, 1) := by decide +kernel
theorem dX0_insert_67 : decode cX0_insert 67 = .ok (.iload 4, 2) := by decide +kernel
theorem dX0_insert_69 : decode cX0_insert 69 = .ok (.iastore, 1) := by decide +kernel
theorem dX0_insert_70 : decode cX0_insert 70 = .ok (.aload_n 0, 1) := by decide +kernel
theorem dX0_insert_71 : decode cX0_insert 71 = .ok (.getfield 24, 3) := by decide +kernel
theorem dX0_insert_74 : decode cX0_insert 74 = .ok (.iload_n 1, 1) := by decide +kernel
theorem dX0_insert_75 : decode cX0_insert 75 = .ok (.iconst 0, 1) := by decide +kernel
theorem dX0_insert_76 : decode cX0_insert 76 = .ok (.bastore, 1) := by decide +kernel
theorem dX0_insert_77 : decode cX0_insert 77 = .ok (.aload_n 0, 1) := by decide +kernel
theorem dX0_insert_78 : decode cX0_insert 78 = .ok (.getfield 28, 3) := by decide +kernel
theorem dX0_insert_81 : decode cX0_insert 81 = .ok (.iload_n 1, 1) := by decide +kernel
theorem dX0_insert_82 : decode cX0_insert 82 = .ok (.iconst 0, 1) := by decide +kernel
theorem dX0_insert_83 : decode cX0_insert 83 = .ok (.bastore, 1) := by decide +kernel
theorem dX0_insert_84 : decode cX0_insert 84 = .ok (.aload_n 0, 1) := by decide +kernel
theorem dX0_insert_85 : decode cX0_insert 85 = .ok (.getfield 31, 3) := by decide +kernel
theorem dX0_insert_88 : decode cX0_insert 88 = .ok (.iload_n 1, 1) := by decide +kernel
theorem dX0_insert_89 : decode cX0_insert 89 = .ok (.iconst 0, 1) := by decide +kernel
theorem dX0_insert_90 : decode cX0_insert 90 = .ok (.bastore, 1) := by decide +kernel
theorem dX0_insert_91 : decode cX0_insert 91 = .ok (.aload_n 0, 1) := by decide +kernel
theorem dX0_insert_92 : decode cX0_insert 92 = .ok (.dup, 1) := by decide +kernel
theorem dX0_insert_93 : decode cX0_insert 93 = .ok (.getfield 41, 3) := by decide +kernel
theorem dX0_insert_96 : decode cX0_insert 96 = .ok (.iconst 1, 1) := by decide +kernel
theorem dX0_insert_97 : decode cX0_insert 97 = .ok (.iadd, 1) := by decide +kernel
theorem dX0_insert_98 : decode cX0_insert 98 = .ok (.putfield 41, 3) := by decide +kernel
theorem dX0_insert_101 : decode cX0_insert 101 = .ok (.return_, 1) := by decide +kernel
theorem dX0_moveOneFurther_0 : decode cX0_moveOneFurther 0 = .ok (.iload_n 1, 1) := by decide +kernel
theorem dX0_moveOneFurther_1 : decode cX0_moveOneFurther 1 = .ok (.ifCond .lt 11, 3) := by decide +kernel
theorem dX0_moveOneFurther_4 : decode cX0_moveOneFurther 4 = .ok (.iload_n 1, 1) := by decide +kernel
theorem dX0_moveOneFurther_5 : decode cX0_moveOneFurther 5 = .ok (.iconst 1, 1) := by decide +kernel
theorem dX0_moveOneFurther_6 : decode cX0_moveOneFurther 6 = .ok (.iadd, 1) := by decide +kernel
theorem dX0_moveOneFurther_7 : decode cX0_moveOneFurther 7 = .ok (.bipush 24, 2) := by decide +kernel
theorem dX0_moveOneFurther_9 : decode cX0_moveOneFurther 9 = .ok (.if_icmp .lt 4, 3) := by decide +kernel
theorem dX0_moveOneFurther_12 : decode cX0_moveOneFurther 12 = .ok (.return_, 1) := by decide +kernel
theorem dX0_moveOneFurther_13 : decode cX0_moveOneFurther 13 = .ok (.aload_n 0, 1) := by decide +kernel
theorem dX0_moveOneFurther_14 : decode cX0_moveOneFurther 14 = .ok (.getfield 15, 3) := by decide +kernel
theorem dX0_moveOneFurther_17 : decode cX0_moveOneFurther 17 = .ok (.iload_n 1, 1) := by decide +kernel
theorem dX0_moveOneFurther_18 : decode cX0_moveOneFurther 18 = .ok (.iconst 1, 1) := by decide +kernel
theorem dX0_moveOneFurther_19 : decode cX0_moveOneFurther 19 = .ok (.iadd, 1) := by decide +kernel
theorem dX0_moveOneFurther_20 : decode cX0_moveOneFurther 20 = .ok (.aload_n 0, 1) := by decide +kernel
theorem dX0_moveOneFurther_21 : decode cX0_moveOneFurther 21 = .ok (.getfield 15, 3) := by decide +kernel
theorem dX0_moveOneFurther_24 : decode cX0_moveOneFurther 24 = .ok (.iload_n 1, 1) := by decide +kernel
theorem dX0_moveOneFurther_25 : decode cX0_moveOneFurther 25 = .ok (.iaload, 1) := by decide +kernel
theorem dX0_moveOneFurther_26 : decode cX0_moveOneFurther 26 = .ok (.iastore, 1) := by decide +kernel
theorem dX0_moveOneFurther_27 : decode cX0_moveOneFurther 27 = .ok (.aload_n 0, 1) := by decide +kernel
theorem dX0_moveOneFurther_28 : decode cX0_moveOneFurther 28 = .ok (.getfield 18, 3) := by decide +kernel
theorem dX0_moveOneFurther_31 : decode cX0_moveOneFurther 31 = .ok (.iload_n 1, 1) := by decide +kernel
theorem dX0_moveOneFurther_32 : decode cX0_moveOneFurther 32 = .ok (.iconst 1, 1) := by decide +kernel
theorem dX0_moveOneFurther_33 : decode cX0_moveOneFurther 33 = .ok (.iadd, 1) := by decide +kernel
theorem dX0_moveOneFurther_34 : decode cX0_moveOneFurther 34 = .ok (.aload_n 0, 1) := by decide +kernel
theorem dX0_moveOneFurther_35 : decode cX0_moveOneFurther 35 = .ok (.getfield 18, 3) := by decide +kernel
theorem dX0_moveOneFurther_38 : decode cX0_moveOneFurther 38 = .ok (.iload_n 1, 1) := by decide +kernel
theorem dX0_moveOneFurther_39 : decode cX0_moveOneFurther 39 = .ok (.iaload, 1) := by decide +kernel
theorem dX0_moveOneFurther_40 : decode cX0_moveOneFurther 40 = .ok (.iastore, 1) := by decide +kernel
theorem dX0_moveOneFurther_41 : decode cX0_moveOneFurther 41 = .ok (.aload_n 0, 1) := by decide +kernel
theorem dX0_moveOneFurther_42 : decode cX0_moveOneFurther 42 = .ok (.getfield 21, 3) := by decide +kernel
theorem dX0_moveOneFurther_45 : decode cX0_moveOneFurther 45 = .ok (.iload_n 1, 1) := by decide +kernel
theorem dX0_moveOneFurther_46 : decode cX0_moveOneFurther 46 = .ok (.iconst 1, 1) := by decide +kernel
theorem dX0_moveOneFurther_47 : decode cX0_moveOneFurther 47 = .ok (.iadd, 1) := by decide +kernel
theorem dX0_moveOneFurther_48 : decode cX0_moveOneFurther 48 = .ok (.aload_n 0, 1) := by decide +kernel
theorem dX0_moveOneFurther_49 : decode cX0_moveOneFurther 49 = .ok (.getfield 21, 3) := by decide +kernel
theorem dX0_moveOneFurther_52 : decode cX0_moveOneFurther 52 = .ok (.iload_n 1, 1) := by decide +kernel
theorem dX0_moveOneFurther_53 : decode cX0_moveOneFurther 53 = .ok (.iaload, 1) := by decide +kernel
theorem dX0_moveOneFurther_54 : decode cX0_moveOneFurther 54 = .ok (.iastore, 1) := by decide +kernel
theorem dX0_moveOneFurther_55 : decode cX0_moveOneFurther 55 = .ok (.aload_n 0, 1) := by decide +kernel
theorem dX0_moveOneFurther_56 : decode cX0_moveOneFurther 56 = .ok (.getfield 24, 3) := by decide +kernel
theorem dX0_moveOneFurther_59 : decode cX0_moveOneFurther 59 = .ok (.iload_n 1, 1) := by decide +kernel
theorem dX0_moveOneFurther_60 : decode cX0_moveOneFurther 60 = .ok (.iconst 1, 1) := by decide +kernel
theorem dX0_moveOneFurther_61 : decode cX0_moveOneFurther 61 = .ok (.iadd, 1) := by decide +kernel
theorem dX0_moveOneFurther_62 : decode cX0_moveOneFurther 62 = .ok (.aload_n 0, 1) := by decide +kernel
theorem dX0_moveOneFurther_63 : decode cX0_moveOneFurther 63 = .ok (.getfield 24, 3) := by decide +kernel
theorem dX0_moveOneFurther_66 : decode cX0_moveOneFurther 66 = .ok (.iload_n 1, 1) := by decide +kernel
theorem dX0_moveOneFurther_67 : decode cX0_moveOneFurther 67 = .ok (.baload, 1) := by decide +kernel
theorem dX0_moveOneFurther_68 : decode cX0_moveOneFurther 68 = .ok (.bastore, 1) := by decide +kernel
theorem dX0_moveOneFurther_69 : decode cX0_moveOneFurther 69 = .ok (.aload_n 0, 1) := by decide +kernel
theorem dX0_moveOneFurther_70 : decode cX0_moveOneFurther 70 = .ok (.getfield 28, 3) := by decide +kernel
theorem dX0_moveOneFurther_73 : decode cX0_moveOneFurther 73 = .ok (.iload_n 1, 1) := by decide +kernel
theorem dX0_moveOneFurther_74 : decode cX0_moveOneFurther 74 = .ok (.iconst 1, 1) := by decide +kernel
theorem dX0_moveOneFurther_75 : decode cX0_moveOneFurther 75 = .ok (.iadd, 1) := by decide +kernel
theorem dX0_moveOneFurther_76 : decode cX0_moveOneFurther 76 = .ok (.aload_n 0, 1) := by decide +kernel
theorem dX0_moveOneFurther_77 : decode cX0_moveOneFurther 77 = .ok (.getfield 28, 3) := by decide +kernel
theorem dX0_moveOneFurther_80 : decode cX0_moveOneFurther 80 = .ok (.iload_n 1, 1) := by decide +kernel
theorem dX0_moveOneFurther_81 : decode cX0_moveOneFurther 81 = .ok (.baload, 1) := by decide +kernel
theorem dX0_moveOneFurther_82 : decode cX0_moveOneFurther 82 = .ok (.bastore, 1) := by decide +kernel
theorem dX0_moveOneFurther_83 : decode cX0_moveOneFurther 83 = .ok (.aload_n 0, 1) := by decide +kernel
theorem dX0_moveOneFurther_84 : decode cX0_moveOneFurther 84 = .ok (.getfield 31, 3) := by decide +kernel
theorem dX0_moveOneFurther_87 : decode cX0_moveOneFurther 87 = .ok (.iload_n 1, 1) := by decide +kernel
theorem dX0_moveOneFurther_88 : decode cX0_moveOneFurther 88 = .ok (.iconst 1, 1) := by decide +kernel
theorem dX0_moveOneFurther_89 : decode cX0_moveOneFurther 89 = .ok (.iadd, 1) := by decide +kernel
theorem dX0_moveOneFurther_90 : decode cX0_moveOneFurther 90 = .ok (.aload_n 0, 1) := by decide +kernel
theorem dX0_moveOneFurther_91 : decode cX0_moveOneFurther 91 = .ok (.getfield 31, 3) := by decide +kernel
theorem dX0_moveOneFurther_94 : decode cX0_moveOneFurther 94 = .ok (.iload_n 1, 1) := by decide +kernel
theorem dX0_moveOneFurther_95 : decode cX0_moveOneFurther 95 = .ok (.baload, 1) := by decide +kernel
theorem dX0_moveOneFurther_96 : decode cX0_moveOneFurther 96 = .ok (.bastore, 1) := by decide +kernel
theorem dX0_moveOneFurther_97 : decode cX0_moveOneFurther 97 = .ok (.return_, 1) := by decide +kernel
theorem dX0_mostLines_0 : decode cX0_mostLines 0 = .ok (.bipush 9, 2) := by decide +kernel
theorem dX0_mostLines_2 : decode cX0_mostLines 2 = .ok (.aload_n 0, 1) := by decide +kernel
theorem dX0_mostLines_3 : decode cX0_mostLines 3 = .ok (.getfield 37, 3) := by decide +kernel
theorem dX0_mostLines_6 : decode cX0_mostLines 6 = .ok (.invokestatic 60, 3) := by decide +kernel
theorem dX0_mostLines_9 : decode cX0_mostLines 9 = .ok (.ireturn, 1) := by decide +kernel
theorem dX0_isDifferent_0 : decode cX0_isDifferent 0 = .ok (.aload_n 0, 1) := by decide +kernel
theorem dX0_isDifferent_1 : decode cX0_isDifferent 1 = .ok (.getfield 24, 3) := by decide +kernel
theorem dX0_isDifferent_4 : decode cX0_isDifferent 4 = .ok (.iload_n 1, 1) := by decide +kernel
theorem dX0_isDifferent_5 : decode cX0_isDifferent 5 = .ok (.baload, 1) := by decide +kernel
theorem dX0_isDifferent_6 : decode cX0_isDifferent 6 = .ok (.aload_n 0, 1) := by decide +kernel
theorem dX0_isDifferent_7 : decode cX0_isDifferent 7 = .ok (.getfield 28, 3) := by decide +kernel
theorem dX0_isDifferent_10 : decode cX0_isDifferent 10 = .ok (.iload_n 1, 1) := by decide +kernel
theorem dX0_isDifferent_11 : decode cX0_isDifferent 11 = .ok (.baload, 1) := by decide +kernel
theorem dX0_isDifferent_12 : decode cX0_isDifferent 12 = .ok (.if_icmp .eq 7, 3) := by decide +kernel
theorem dX0_isDifferent_15 : decode cX0_isDifferent 15 = .ok (.iconst 1, 1) := by decide +kernel
theorem dX0_isDifferent_16 : decode cX0_isDifferent 16 = .ok (.goto 4, 3) := by decide +kernel
theorem dX0_isDifferent_19 : decode cX0_isDifferent 19 = .ok (.iconst 0, 1) := by decide +kernel
theorem dX0_isDifferent_20 : decode cX0_isDifferent 20 = .ok (.ireturn, 1) := by decide +kernel
theorem dX0_setAnew_0 : decode cX0_setAnew 0 = .ok (.aload_n 0, 1) := by decide +kernel
theorem dX0_setAnew_1 : decode cX0_setAnew 1 = .ok (.getfield 24, 3) := by decide +kernel
theorem dX0_setAnew_4 : decode cX0_setAnew 4 = .ok (.iload_n 1, 1) := by decide +kernel
theorem dX0_setAnew_5 : decode cX0_setAnew 5 = .ok (.aload_n 0, 1) := by decide +kernel
theorem dX0_setAnew_6 : decode cX0_setAnew 6 = .ok (.getfield 28, 3) := by decide +kernel
theorem dX0_setAnew_9 : decode cX0_setAnew 9 = .ok (.iload_n 1, 1) := by decide +kernel
theorem dX0_setAnew_10 : decode cX0_setAnew 10 = .ok (.baload, 1) := by decide +kernel
theorem dX0_setAnew_11 : decode cX0_setAnew 11 = .ok (.bastore, 1) := by decide +kernel
theorem dX0_setAnew_12 : decode cX0_setAnew 12 = .ok (.aload_n 0, 1) := by decide +kernel
theorem dX0_setAnew_13 : decode cX0_setAnew 13 = .ok (.getfield 31, 3) := by decide +kernel
theorem dX0_setAnew_16 : decode cX0_setAnew 16 = .ok (.iload_n 1, 1) := by decide +kernel
theorem dX0_setAnew_17 : decode cX0_setAnew 17 = .ok (.iconst 0, 1) := by decide +kernel
theorem dX0_setAnew_18 : decode cX0_setAnew 18 = .ok (.bastore, 1) := by decide +kernel
theorem dX0_setAnew_19 : decode cX0_setAnew 19 = .ok (.return_, 1) := by decide +kernel
theorem dX0_wantedLots_0 : decode cX0_wantedLots 0 = .ok (.iconst 0, 1) := by decide +kernel
theorem dX0_wantedLots_1 : decode cX0_wantedLots 1 = .ok (.istore_n 1, 1) := by decide +kernel
theorem dX0_wantedLots_2 : decode cX0_wantedLots 2 = .ok (.iconst 0, 1) := by decide +kernel
theorem dX0_wantedLots_3 : decode cX0_wantedLots 3 = .ok (.istore_n 2, 1) := by decide +kernel
theorem dX0_wantedLots_4 : decode cX0_wantedLots 4 = .ok (.iload_n 2, 1) := by decide +kernel
theorem dX0_wantedLots_5 : decode cX0_wantedLots 5 = .ok (.aload_n 0, 1) := by decide +kernel
theorem dX0_wantedLots_6 : decode cX0_wantedLots 6 = .ok (.getfield 41, 3) := by decide +kernel
theorem dX0_wantedLots_9 : decode cX0_wantedLots 9 = .ok (.if_icmp .ge 21, 3) := by decide +kernel
theorem dX0_wantedLots_12 : decode cX0_wantedLots 12 = .ok (.aload_n 0, 1) := by decide +kernel
theorem dX0_wantedLots_13 : decode cX0_wantedLots 13 = .ok (.getfield 28, 3) := by decide +kernel
theorem dX0_wantedLots_16 : decode cX0_wantedLots 16 = .ok (.iload_n 2, 1) := by decide +kernel
theorem dX0_wantedLots_17 : decode cX0_wantedLots 17 = .ok (.baload, 1) := by decide +kernel
theorem dX0_wantedLots_18 : decode cX0_wantedLots 18 = .ok (.ifCond .eq 6, 3) := by decide +kernel
theorem dX0_wantedLots_21 : decode cX0_wantedLots 21 = .ok (.iinc 1 1, 3) := by decide +kernel
theorem dX0_wantedLots_24 : decode cX0_wantedLots 24 = .ok (.iinc 2 1, 3) := by decide +kernel
theorem dX0_wantedLots_27 : decode cX0_wantedLots 27 = .ok (.goto (-23), 3) := by decide +kernel
theorem dX0_wantedLots_30 : decode cX0_wantedLots 30 = .ok (.iload_n 1, 1) := by decide +kernel
theorem dX0_wantedLots_31 : decode cX0_wantedLots 31 = .ok (.ireturn, 1) := by decide +kernel
theorem dX0_slippedLots_0 : decode cX0_slippedLots 0 = .ok (.iconst 0, 1) := by decide +kernel
theorem dX0_slippedLots_1 : decode cX0_slippedLots 1 = .ok (.istore_n 1, 1) := by decide +kernel
theorem dX0_slippedLots_2 : decode cX0_slippedLots 2 = .ok (.iconst 0, 1) := by decide +kernel
theorem dX0_slippedLots_3 : decode cX0_slippedLots 3 = .ok (.istore_n 2, 1) := by decide +kernel
theorem dX0_slippedLots_4 : decode cX0_slippedLots 4 = .ok (.iload_n 2, 1) := by decide +kernel
theorem dX0_slippedLots_5 : decode cX0_slippedLots 5 = .ok (.aload_n 0, 1) := by decide +kernel
theorem dX0_slippedLots_6 : decode cX0_slippedLots 6 = .ok (.getfield 41, 3) := by decide +kernel
theorem dX0_slippedLots_9 : decode cX0_slippedLots 9 = .ok (.if_icmp .ge 21, 3) := by decide +kernel
theorem dX0_slippedLots_12 : decode cX0_slippedLots 12 = .ok (.aload_n 0, 1) := by decide +kernel
theorem dX0_slippedLots_13 : decode cX0_slippedLots 13 = .ok (.getfield 31, 3) := by decide +kernel
theorem dX0_slippedLots_16 : decode cX0_slippedLots 16 = .ok (.iload_n 2, 1) := by decide +kernel
theorem dX0_slippedLots_17 : decode cX0_slippedLots 17 = .ok (.baload, 1) := by decide +kernel
theorem dX0_slippedLots_18 : decode cX0_slippedLots 18 = .ok (.ifCond .eq 6, 3) := by decide +kernel
theorem dX0_slippedLots_21 : decode cX0_slippedLots 21 = .ok (.iinc 1 1, 3) := by decide +kernel
theorem dX0_slippedLots_24 : decode cX0_slippedLots 24 = .ok (.iinc 2 1, 3) := by decide +kernel
theorem dX0_slippedLots_27 : decode cX0_slippedLots 27 = .ok (.goto (-23), 3) := by decide +kernel
theorem dX0_slippedLots_30 : decode cX0_slippedLots 30 = .ok (.iload_n 1, 1) := by decide +kernel
theorem dX0_slippedLots_31 : decode cX0_slippedLots 31 = .ok (.ireturn, 1) := by decide +kernel
set_option maxRecDepth 20000 in
theorem ggX0_differentLots_X0_isDifferent : GoodIn wsX0_differentLots wsX0_isDifferent := goodIn_r _ [6, 7, 8, 9, 10, 11, 12, 13, 14, 15, 16, 17, 18, 19] (by decide +kernel) (by decide +kernel)
set_option maxRecDepth 20000 in
theorem gX0_differentLots_X0_isDifferent : GoodIn wsX0_differentLots (wsV RX0 66 RX0 yX0_isDifferent wsX0_isDifferent) := goodIn_app (goodIn_of _ (by decide +kernel)) ggX0_differentLots_X0_isDifferent
theorem dX0_differentLots_0 : decode cX0_differentLots 0 = .ok (.iconst 0, 1) := by decide +kernel
theorem dX0_differentLots_1 : decode cX0_differentLots 1 = .ok (.istore_n 1, 1) := by decide +kernel
theorem dX0_differentLots_2 : decode cX0_differentLots 2 = .ok (.iconst 0, 1) := by decide +kernel
theorem dX0_differentLots_3 : decode cX0_differentLots 3 = .ok (.istore_n 2, 1) := by decide +kernel
theorem dX0_differentLots_4 : decode cX0_differentLots 4 = .ok (.iload_n 2, 1) := by decide +kernel
theorem dX0_differentLots_5 : decode cX0_differentLots 5 = .ok (.aload_n 0, 1) := by decide +kernel
theorem dX0_differentLots_6 : decode cX0_differentLots 6 = .ok (.getfield 41, 3) := by decide +kernel
theorem dX0_differentLots_9 : decode cX0_differentLots 9 = .ok (.if_icmp .ge 20, 3) := by decide +kernel
theorem dX0_differentLots_12 : decode cX0_differentLots 12 = .ok (.aload_n 0, 1) := by decide +kernel
theorem dX0_differentLots_13 : decode cX0_differentLots 13 = .ok (.iload_n 2, 1) := by decide +kernel
theorem dX0_differentLots_14 : decode cX0_differentLots 14 = .ok (.invokevirtual 66, 3) := by decide +kernel
theorem dX0_differentLots_17 : decode cX0_differentLots 17 = .ok (.ifCond .eq 6, 3) := by decide +kernel
theorem dX0_differentLots_20 : decode cX0_differentLots 20 = .ok (.iinc 1 1, 3) := by decide +kernel
theorem dX0_differentLots_23 : decode cX0_differentLots 23 = .ok (.iinc 2 1, 3) := by decide +kernel
theorem dX0_differentLots_26 : decode cX0_differentLots 26 = .ok (.goto (-22), 3) := by decide +kernel
theorem dX0_differentLots_29 : decode cX0_differentLots 29 = .ok (.iload_n 1, 1) := by decide +kernel
theorem dX0_differentLots_30 : decode cX0_differentLots 30 = .ok (.ireturn, 1) := by decide +kernel
theorem dX0_wantedEstimates_0 : decode cX0_wantedEstimates 0 = .ok (.iconst 0, 1) := by decide +kernel
theorem dX0_wantedEstimates_1 : decode cX0_wantedEstimates 1 = .ok (.istore_n 1, 1) := by decide +kernel
theorem dX0_wantedEstimates_2 : decode cX0_wantedEstimates 2 = .ok (.iconst 0, 1) := by decide +kernel
theorem dX0_wantedEstimates_3 : decode cX0_wantedEstimates 3 = .ok (.istore_n 2, 1) := by decide +kernel
theorem dX0_wantedEstimates_4 : decode cX0_wantedEstimates 4 = .ok (.iload_n 2, 1) := by decide +kernel
theorem dX0_wantedEstimates_5 : decode cX0_wantedEstimates 5 = .ok (.aload_n 0, 1) := by decide +kernel
theorem dX0_wantedEstimates_6 : decode cX0_wantedEstimates 6 = .ok (.getfield 41, 3) := by decide +kernel
theorem dX0_wantedEstimates_9 : decode cX0_wantedEstimates 9 = .ok (.if_icmp .ge 27, 3) := by decide +kernel
theorem dX0_wantedEstimates_12 : decode cX0_wantedEstimates 12 = .ok (.aload_n 0, 1) := by decide +kernel
theorem dX0_wantedEstimates_13 : decode cX0_wantedEstimates 13 = .ok (.getfield 28, 3) := by decide +kernel
theorem dX0_wantedEstimates_16 : decode cX0_wantedEstimates 16 = .ok (.iload_n 2, 1) := by decide +kernel
theorem dX0_wantedEstimates_17 : decode cX0_wantedEstimates 17 = .ok (.baload, 1) := by decide +kernel
theorem dX0_wantedEstimates_18 : decode cX0_wantedEstimates 18 = .ok (.ifCond .eq 12, 3) := by decide +kernel
theorem dX0_wantedEstimates_21 : decode cX0_wantedEstimates 21 = .ok (.iload_n 1, 1) := by decide +kernel
theorem dX0_wantedEstimates_22 : decode cX0_wantedEstimates 22 = .ok (.aload_n 0, 1) := by decide +kernel
theorem dX0_wantedEstimates_23 : decode cX0_wantedEstimates 23 = .ok (.getfield 18, 3) := by decide +kernel
theorem dX0_wantedEstimates_26 : decode cX0_wantedEstimates 26 = .ok (.iload_n 2, 1) := by decide +kernel
theorem dX0_wantedEstimates_27 : decode cX0_wantedEstimates 27 = .ok (.iaload, 1) := by decide +kernel
theorem dX0_wantedEstimates_28 : decode cX0_wantedEstimates 28 = .ok (.iadd, 1) := by decide +kernel
theorem dX0_wantedEstimates_29 : decode cX0_wantedEstimates 29 = .ok (.istore_n 1, 1) := by decide +kernel
theorem dX0_wantedEstimates_30 : decode cX0_wantedEstimates 30 = .ok (.iinc 2 1, 3) := by decide +kernel
theorem dX0_wantedEstimates_33 : decode cX0_wantedEstimates 33 = .ok (.goto (-29), 3) := by decide +kernel
theorem dX0_wantedEstimates_36 : decode cX0_wantedEstimates 36 = .ok (.iload_n 1, 1) := by decide +kernel
theorem dX0_wantedEstimates_37 : decode cX0_wantedEstimates 37 = .ok (.ireturn, 1) := by decide +kernel
theorem dX0_wantedLotsOf_0 : decode cX0_wantedLotsOf 0 = .ok (.iconst 0, 1) := by decide +kernel
theorem dX0_wantedLotsOf_1 : decode cX0_wantedLotsOf 1 = .ok (.istore_n 2, 1) := by decide +kernel
theorem dX0_wantedLotsOf_2 : decode cX0_wantedLotsOf 2 = .ok (.iconst 0, 1) := by decide +kernel
theorem dX0_wantedLotsOf_3 : decode cX0_wantedLotsOf 3 = .ok (.istore_n 3, 1) := by decide +kernel
theorem dX0_wantedLotsOf_4 : decode cX0_wantedLotsOf 4 = .ok (.iload_n 3, 1) := by decide +kernel
theorem dX0_wantedLotsOf_5 : decode cX0_wantedLotsOf 5 = .ok (.aload_n 0, 1) := by decide +kernel
theorem dX0_wantedLotsOf_6 : decode cX0_wantedLotsOf 6 = .ok (.getfield 41, 3) := by decide +kernel
theorem dX0_wantedLotsOf_9 : decode cX0_wantedLotsOf 9 = .ok (.if_icmp .ge 31, 3) := by decide +kernel
theorem dX0_wantedLotsOf_12 : decode cX0_wantedLotsOf 12 = .ok (.aload_n 0, 1) := by decide +kernel
theorem dX0_wantedLotsOf_13 : decode cX0_wantedLotsOf 13 = .ok (.getfield 21, 3) := by decide +kernel
theorem dX0_wantedLotsOf_16 : decode cX0_wantedLotsOf 16 = .ok (.iload_n 3, 1) := by decide +kernel
theorem dX0_wantedLotsOf_17 : decode cX0_wantedLotsOf 17 = .ok (.iaload, 1) := by decide +kernel
theorem dX0_wantedLotsOf_18 : decode cX0_wantedLotsOf 18 = .ok (.iload_n 1, 1) := by decide +kernel
theorem dX0_wantedLotsOf_19 : decode cX0_wantedLotsOf 19 = .ok (.if_icmp .ne 15, 3) := by decide +kernel
theorem dX0_wantedLotsOf_22 : decode cX0_wantedLotsOf 22 = .ok (.aload_n 0, 1) := by decide +kernel
theorem dX0_wantedLotsOf_23 : decode cX0_wantedLotsOf 23 = .ok (.getfield 28, 3) := by decide +kernel
theorem dX0_wantedLotsOf_26 : decode cX0_wantedLotsOf 26 = .ok (.iload_n 3, 1) := by decide +kernel
theorem dX0_wantedLotsOf_27 : decode cX0_wantedLotsOf 27 = .ok (.baload, 1) := by decide +kernel
theorem dX0_wantedLotsOf_28 : decode cX0_wantedLotsOf 28 = .ok (.ifCond .eq 6, 3) := by decide +kernel
theorem dX0_wantedLotsOf_31 : decode cX0_wantedLotsOf 31 = .ok (.iinc 2 1, 3) := by decide +kernel
theorem dX0_wantedLotsOf_34 : decode cX0_wantedLotsOf 34 = .ok (.iinc 3 1, 3) := by decide +kernel
theorem dX0_wantedLotsOf_37 : decode cX0_wantedLotsOf 37 = .ok (.goto (-33), 3) := by decide +kernel
theorem dX0_wantedLotsOf_40 : decode cX0_wantedLotsOf 40 = .ok (.iload_n 2, 1) := by decide +kernel
theorem dX0_wantedLotsOf_41 : decode cX0_wantedLotsOf 41 = .ok (.ireturn, 1) := by decide +kernel
theorem dX0_wantedEstimatesOf_0 : decode cX0_wantedEstimatesOf 0 = .ok (.iconst 0, 1) := by decide +kernel
theorem dX0_wantedEstimatesOf_1 : decode cX0_wantedEstimatesOf 1 = .ok (.istore_n 2, 1) := by decide +kernel
theorem dX0_wantedEstimatesOf_2 : decode cX0_wantedEstimatesOf 2 = .ok (.iconst 0, 1) := by decide +kernel
theorem dX0_wantedEstimatesOf_3 : decode cX0_wantedEstimatesOf 3 = .ok (.istore_n 3, 1) := by decide +kernel
theorem dX0_wantedEstimatesOf_4 : decode cX0_wantedEstimatesOf 4 = .ok (.iload_n 3, 1) := by decide +kernel
theorem dX0_wantedEstimatesOf_5 : decode cX0_wantedEstimatesOf 5 = .ok (.aload_n 0, 1) := by decide +kernel
theorem dX0_wantedEstimatesOf_6 : decode cX0_wantedEstimatesOf 6 = .ok (.getfield 41, 3) := by decide +kernel
theorem dX0_wantedEstimatesOf_9 : decode cX0_wantedEstimatesOf 9 = .ok (.if_icmp .ge 37, 3) := by decide +kernel
theorem dX0_wantedEstimatesOf_12 : decode cX0_wantedEstimatesOf 12 = .ok (.aload_n 0, 1) := by decide +kernel
theorem dX0_wantedEstimatesOf_13 : decode cX0_wantedEstimatesOf 13 = .ok (.getfield 21, 3) := by decide +kernel
theorem dX0_wantedEstimatesOf_16 : decode cX0_wantedEstimatesOf 16 = .ok (.iload_n 3, 1) := by decide +kernel
theorem dX0_wantedEstimatesOf_17 : decode cX0_wantedEstimatesOf 17 = .ok (.iaload, 1) := by decide +kernel
theorem dX0_wantedEstimatesOf_18 : decode cX0_wantedEstimatesOf 18 = .ok (.iload_n 1, 1) := by decide +kernel
theorem dX0_wantedEstimatesOf_19 : decode cX0_wantedEstimatesOf 19 = .ok (.if_icmp .ne 21, 3) := by decide +kernel
theorem dX0_wantedEstimatesOf_22 : decode cX0_wantedEstimatesOf 22 = .ok (.aload_n 0, 1) := by decide +kernel
theorem dX0_wantedEstimatesOf_23 : decode cX0_wantedEstimatesOf 23 = .ok (.getfield 28, 3) := by decide +kernel
theorem dX0_wantedEstimatesOf_26 : decode cX0_wantedEstimatesOf 26 = .ok (.iload_n 3, 1) := by decide +kernel
theorem dX0_wantedEstimatesOf_27 : decode cX0_wantedEstimatesOf 27 = .ok (.baload, 1) := by decide +kernel
theorem dX0_wantedEstimatesOf_28 : decode cX0_wantedEstimatesOf 28 = .ok (.ifCond .eq 12, 3) := by decide +kernel
theorem dX0_wantedEstimatesOf_31 : decode cX0_wantedEstimatesOf 31 = .ok (.iload_n 2, 1) := by decide +kernel
theorem dX0_wantedEstimatesOf_32 : decode cX0_wantedEstimatesOf 32 = .ok (.aload_n 0, 1) := by decide +kernel
theorem dX0_wantedEstimatesOf_33 : decode cX0_wantedEstimatesOf 33 = .ok (.getfield 18, 3) := by decide +kernel
theorem dX0_wantedEstimatesOf_36 : decode cX0_wantedEstimatesOf 36 = .ok (.iload_n 3, 1) := by decide +kernel
theorem dX0_wantedEstimatesOf_37 : decode cX0_wantedEstimatesOf 37 = .ok (.iaload, 1) := by decide +kernel
theorem dX0_wantedEstimatesOf_38 : decode cX0_wantedEstimatesOf 38 = .ok (.iadd, 1) := by decide +kernel
theorem dX0_wantedEstimatesOf_39 : decode cX0_wantedEstimatesOf 39 = .ok (.istore_n 2, 1) := by decide +kernel
theorem dX0_wantedEstimatesOf_40 : decode cX0_wantedEstimatesOf 40 = .ok (.iinc 3 1, 3) := by decide +kernel
theorem dX0_wantedEstimatesOf_43 : decode cX0_wantedEstimatesOf 43 = .ok (.goto (-39), 3) := by decide +kernel
theorem dX0_wantedEstimatesOf_46 : decode cX0_wantedEstimatesOf 46 = .ok (.iload_n 2, 1) := by decide +kernel
theorem dX0_wantedEstimatesOf_47 : decode cX0_wantedEstimatesOf 47 = .ok (.ireturn, 1) := by decide +kernel
theorem dX0_printedLinesOf_0 : decode cX0_printedLinesOf 0 = .ok (.iconst 0, 1) := by decide +kernel
theorem dX0_printedLinesOf_1 : decode cX0_printedLinesOf 1 = .ok (.istore_n 2, 1) := by decide +kernel
theorem dX0_printedLinesOf_2 : decode cX0_printedLinesOf 2 = .ok (.iconst 0, 1) := by decide +kernel
theorem dX0_printedLinesOf_3 : decode cX0_printedLinesOf 3 = .ok (.istore_n 3, 1) := by decide +kernel
theorem dX0_printedLinesOf_4 : decode cX0_printedLinesOf 4 = .ok (.iload_n 3, 1) := by decide +kernel
theorem dX0_printedLinesOf_5 : decode cX0_printedLinesOf 5 = .ok (.aload_n 0, 1) := by decide +kernel
theorem dX0_printedLinesOf_6 : decode cX0_printedLinesOf 6 = .ok (.getfield 41, 3) := by decide +kernel
theorem dX0_printedLinesOf_9 : decode cX0_printedLinesOf 9 = .ok (.if_icmp .ge 37, 3) := by decide +kernel
theorem dX0_printedLinesOf_12 : decode cX0_printedLinesOf 12 = .ok (.aload_n 0, 1) := by decide +kernel
theorem dX0_printedLinesOf_13 : decode cX0_printedLinesOf 13 = .ok (.getfield 21, 3) := by decide +kernel
theorem dX0_printedLinesOf_16 : decode cX0_printedLinesOf 16 = .ok (.iload_n 3, 1) := by decide +kernel
theorem dX0_printedLinesOf_17 : decode cX0_printedLinesOf 17 = .ok (.iaload, 1) := by decide +kernel
theorem dX0_printedLinesOf_18 : decode cX0_printedLinesOf 18 = .ok (.iload_n 1, 1) := by decide +kernel
theorem dX0_printedLinesOf_19 : decode cX0_printedLinesOf 19 = .ok (.if_icmp .ne 21, 3) := by decide +kernel
theorem dX0_printedLinesOf_22 : decode cX0_printedLinesOf 22 = .ok (.aload_n 0, 1) := by decide +kernel
theorem dX0_printedLinesOf_23 : decode cX0_printedLinesOf 23 = .ok (.getfield 24, 3) := by decide +kernel
theorem dX0_printedLinesOf_26 : decode cX0_printedLinesOf 26 = .ok (.iload_n 3, 1) := by decide +kernel
theorem dX0_printedLinesOf_27 : decode cX0_printedLinesOf 27 = .ok (.baload, 1) := by decide +kernel
theorem dX0_printedLinesOf_28 : decode cX0_printedLinesOf 28 = .ok (.ifCond .eq 12, 3) := by decide +kernel
theorem dX0_printedLinesOf_31 : decode cX0_printedLinesOf 31 = .ok (.iload_n 2, 1) := by decide +kernel
theorem dX0_printedLinesOf_32 : decode cX0_printedLinesOf 32 = .ok (.aload_n 0, 1) := by decide +kernel
theorem dX0_printedLinesOf_33 : decode cX0_printedLinesOf 33 = .ok (.getfield 15, 3) := by decide +kernel
theorem dX0_printedLinesOf_36 : decode cX0_printedLinesOf 36 = .ok (.iload_n 3, 1) := by decide +kernel
theorem dX0_printedLinesOf_37 : decode cX0_printedLinesOf 37 = .ok (.iaload, 1) := by decide +kernel
theorem dX0_printedLinesOf_38 : decode cX0_printedLinesOf 38 = .ok (.iadd, 1) := by decide +kernel
theorem dX0_printedLinesOf_39 : decode cX0_printedLinesOf 39 = .ok (.istore_n 2, 1) := by decide +kernel
theorem dX0_printedLinesOf_40 : decode cX0_printedLinesOf 40 = .ok (.iinc 3 1, 3) := by decide +kernel
theorem dX0_printedLinesOf_43 : decode cX0_printedLinesOf 43 = .ok (.goto (-39), 3) := by decide +kernel
theorem dX0_printedLinesOf_46 : decode cX0_printedLinesOf 46 = .ok (.iload_n 2, 1) := by decide +kernel
theorem dX0_printedLinesOf_47 : decode cX0_printedLinesOf 47 = .ok (.ireturn, 1) := by decide +kernel
theorem dX0_dearerLots_0 : decode cX0_dearerLots 0 = .ok (.iconst 0, 1) := by decide +kernel
theorem dX0_dearerLots_1 : decode cX0_dearerLots 1 = .ok (.istore_n 2, 1) := by decide +kernel
theorem dX0_dearerLots_2 : decode cX0_dearerLots 2 = .ok (.iconst 0, 1) := by decide +kernel
theorem dX0_dearerLots_3 : decode cX0_dearerLots 3 = .ok (.istore_n 3, 1) := by decide +kernel
theorem dX0_dearerLots_4 : decode cX0_dearerLots 4 = .ok (.iload_n 3, 1) := by decide +kernel
theorem dX0_dearerLots_5 : decode cX0_dearerLots 5 = .ok (.aload_n 0, 1) := by decide +kernel
theorem dX0_dearerLots_6 : decode cX0_dearerLots 6 = .ok (.getfield 41, 3) := by decide +kernel
theorem dX0_dearerLots_9 : decode cX0_dearerLots 9 = .ok (.if_icmp .ge 68, 3) := by decide +kernel
theorem dX0_dearerLots_12 : decode cX0_dearerLots 12 = .ok (.aload_n 0, 1) := by decide +kernel
theorem dX0_dearerLots_13 : decode cX0_dearerLots 13 = .ok (.getfield 18, 3) := by decide +kernel
theorem dX0_dearerLots_16 : decode cX0_dearerLots 16 = .ok (.iload_n 3, 1) := by decide +kernel
theorem dX0_dearerLots_17 : decode cX0_dearerLots 17 = .ok (.iaload, 1) := by decide +kernel
theorem dX0_dearerLots_18 : decode cX0_dearerLots 18 = .ok (.aload_n 0, 1) := by decide +kernel
theorem dX0_dearerLots_19 : decode cX0_dearerLots 19 = .ok (.getfield 18, 3) := by decide +kernel
theorem dX0_dearerLots_22 : decode cX0_dearerLots 22 = .ok (.iload_n 1, 1) := by decide +kernel
theorem dX0_dearerLots_23 : decode cX0_dearerLots 23 = .ok (.iaload, 1) := by decide +kernel
theorem dX0_dearerLots_24 : decode cX0_dearerLots 24 = .ok (.if_icmp .gt 23, 3) := by decide +kernel
theorem dX0_dearerLots_27 : decode cX0_dearerLots 27 = .ok (.aload_n 0, 1) := by decide +kernel
theorem dX0_dearerLots_28 : decode cX0_dearerLots 28 = .ok (.getfield 18, 3) := by decide +kernel
theorem dX0_dearerLots_31 : decode cX0_dearerLots 31 = .ok (.iload_n 3, 1) := by decide +kernel
theorem dX0_dearerLots_32 : decode cX0_dearerLots 32 = .ok (.iaload, 1) := by decide +kernel
theorem dX0_dearerLots_33 : decode cX0_dearerLots 33 = .ok (.aload_n 0, 1) := by decide +kernel
theorem dX0_dearerLots_34 : decode cX0_dearerLots 34 = .ok (.getfield 18, 3) := by decide +kernel
theorem dX0_dearerLots_37 : decode cX0_dearerLots 37 = .ok (.iload_n 1, 1) := by decide +kernel
theorem dX0_dearerLots_38 : decode cX0_dearerLots 38 = .ok (.iaload, 1) := by decide +kernel
theorem dX0_dearerLots_39 : decode cX0_dearerLots 39 = .ok (.if_icmp .ne 12, 3) := by decide +kernel
theorem dX0_dearerLots_42 : decode cX0_dearerLots 42 = .ok (.iload_n 3, 1) := by decide +kernel
theorem dX0_dearerLots_43 : decode cX0_dearerLots 43 = .ok (.iload_n 1, 1) := by decide +kernel
theorem dX0_dearerLots_44 : decode cX0_dearerLots 44 = .ok (.if_icmp .ge 7, 3) := by decide +kernel
theorem dX0_dearerLots_47 : decode cX0_dearerLots 47 = .ok (.iconst 1, 1) := by decide +kernel
theorem dX0_dearerLots_48 : decode cX0_dearerLots 48 = .ok (.goto 4, 3) := by decide +kernel
theorem dX0_dearerLots_51 : decode cX0_dearerLots 51 = .ok (.iconst 0, 1) := by decide +kernel
theorem dX0_dearerLots_52 : decode cX0_dearerLots 52 = .ok (.istore 4, 2) := by decide +kernel
theorem dX0_dearerLots_54 : decode cX0_dearerLots 54 = .ok (.aload_n 0, 1) := by decide +kernel
theorem dX0_dearerLots_55 : decode cX0_dearerLots 55 = .ok (.getfield 28, 3) := by decide +kernel
theorem dX0_dearerLots_58 : decode cX0_dearerLots 58 = .ok (.iload_n 3, 1) := by decide +kernel
theorem dX0_dearerLots_59 : decode cX0_dearerLots 59 = .ok (.baload, 1) := by decide +kernel
theorem dX0_dearerLots_60 : decode cX0_dearerLots 60 = .ok (.ifCond .eq 11, 3) := by decide +kernel
theorem dX0_dearerLots_63 : decode cX0_dearerLots 63 = .ok (.iload 4, 2) := by decide +kernel
theorem dX0_dearerLots_65 : decode cX0_dearerLots 65 = .ok (.ifCond .eq 6, 3) := by decide +kernel
theorem dX0_dearerLots_68 : decode cX0_dearerLots 68 = .ok (.iinc 2 1, 3) := by decide +kernel
theorem dX0_dearerLots_71 : decode cX0_dearerLots 71 = .ok (.iinc 3 1, 3) := by decide +kernel
theorem dX0_dearerLots_74 : decode cX0_dearerLots 74 = .ok (.goto (-70), 3) := by decide +kernel
theorem dX0_dearerLots_77 : decode cX0_dearerLots 77 = .ok (.iload_n 2, 1) := by decide +kernel
theorem dX0_dearerLots_78 : decode cX0_dearerLots 78 = .ok (.ireturn, 1) := by decide +kernel
set_option maxRecDepth 20000 in
theorem ggX1_init_X3_init : GoodIn wsX1_init wsX3_init := goodIn_r _ [16, 17, 2, 3, 4, 18, 19, 20, 21, 22, 23, 32, 33, 34, 35, 36, 37, 38, 39, 40] (by decide +kernel) (by decide +kernel)
set_option maxRecDepth 20000 in
theorem gX1_init_X3_init_n20 : GoodIn wsX1_init (wsX3_init) := ggX1_init_X3_init
theorem dX1_init_0 : decode cX1_init 0 = .ok (.aload_n 0, 1) := by decide +kernel
theorem dX1_init_1 : decode cX1_init 1 = .ok (.invokespecial 3, 3) := by decide +kernel
theorem dX1_init_4 : decode cX1_init 4 = .ok (.aload_n 0, 1) := by decide +kernel
theorem dX1_init_5 : decode cX1_init 5 = .ok (.bipush 8, 2) := by decide +kernel
theorem dX1_init_7 : decode cX1_init 7 = .ok (.newarray .int, 2) := by decide +kernel
theorem dX1_init_9 : decode cX1_init 9 = .ok (.putfield 9, 3) := by decide +kernel
theorem dX1_init_12 : decode cX1_init 12 = .ok (.aload_n 0, 1) := by decide +kernel
theorem dX1_init_13 : decode cX1_init 13 = .ok (.bipush 7, 2) := by decide +kernel
theorem dX1_init_15 : decode cX1_init 15 = .ok (.newarray .int, 2) := by decide +kernel
theorem dX1_init_17 : decode cX1_init 17 = .ok (.putfield 15, 3) := by decide +kernel
theorem dX1_init_20 : decode cX1_init 20 = .ok (.aload_n 0, 1) := by decide +kernel
theorem dX1_init_21 : decode cX1_init 21 = .ok (.new 18, 3) := by decide +kernel
theorem dX1_init_24 : decode cX1_init 24 = .ok (.dup, 1) := by decide +kernel
theorem dX1_init_25 : decode cX1_init 25 = .ok (.invokespecial 20, 3) := by decide +kernel
theorem dX1_init_28 : decode cX1_init 28 = .ok (.putfield 21, 3) := by decide +kernel
theorem dX1_init_31 : decode cX1_init 31 = .ok (.aload_n 0, 1) := by decide +kernel
theorem dX1_init_32 : decode cX1_init 32 = .ok (.bipush 24, 2) := by decide +kernel
theorem dX1_init_34 : decode cX1_init 34 = .ok (.newarray .boolean, 2) := by decide +kernel
theorem dX1_init_36 : decode cX1_init 36 = .ok (.putfield 25, 3) := by decide +kernel
theorem dX1_init_39 : decode cX1_init 39 = .ok (.aload_n 0, 1) := by decide +kernel
theorem dX1_init_40 : decode cX1_init 40 = .ok (.bipush 24, 2) := by decide +kernel
theorem dX1_init_42 : decode cX1_init 42 = .ok (.newarray .int, 2) := by decide +kernel
theorem dX1_init_44 : decode cX1_init 44 = .ok (.putfield 29, 3) := by decide +kernel
theorem dX1_init_47 : decode cX1_init 47 = .ok (.aload_n 0, 1) := by decide +kernel
theorem dX1_init_48 : decode cX1_init 48 = .ok (.sipush 256, 3) := by decide +kernel
theorem dX1_init_51 : decode cX1_init 51 = .ok (.newarray .int, 2) := by decide +kernel
theorem dX1_init_53 : decode cX1_init 53 = .ok (.putfield 32, 3) := by decide +kernel
theorem dX1_init_56 : decode cX1_init 56 = .ok (.return_, 1) := by decide +kernel
set_option maxRecDepth 20000 in
theorem ggX1_listFor_X0_isDifferent : GoodIn wsX1_listFor wsX0_isDifferent := goodIn_r _ [9, 10, 11, 20, 21, 22, 23, 24, 25, 26, 27, 28, 29, 30] (by decide +kernel) (by decide +kernel)
set_option maxRecDepth 20000 in
theorem gX1_listFor_X0_isDifferent : GoodIn wsX1_listFor (wsV RX1 46 RX0 yX0_isDifferent wsX0_isDifferent) := goodIn_app (goodIn_of _ (by decide +kernel)) ggX1_listFor_X0_isDifferent
theorem dX1_listFor_0 : decode cX1_listFor 0 = .ok (.aload_n 0, 1) := by decide +kernel
theorem dX1_listFor_1 : decode cX1_listFor 1 = .ok (.iconst 0, 1) := by decide +kernel
theorem dX1_listFor_2 : decode cX1_listFor 2 = .ok (.putfield 35, 3) := by decide +kernel
theorem dX1_listFor_5 : decode cX1_listFor 5 = .ok (.aload_n 0, 1) := by decide +kernel
theorem dX1_listFor_6 : decode cX1_listFor 6 = .ok (.iconst 0, 1) := by decide +kernel
theorem dX1_listFor_7 : decode cX1_listFor 7 = .ok (.putfield 39, 3) := by decide +kernel
theorem dX1_listFor_10 : decode cX1_listFor 10 = .ok (.iconst 0, 1) := by decide +kernel
theorem dX1_listFor_11 : decode cX1_listFor 11 = .ok (.istore_n 2, 1) := by decide +kernel
theorem dX1_listFor_12 : decode cX1_listFor 12 = .ok (.iload_n 2, 1) := by decide +kernel
theorem dX1_listFor_13 : decode cX1_listFor 13 = .ok (.aload_n 1, 1) := by decide +kernel
theorem dX1_listFor_14 : decode cX1_listFor 14 = .ok (.getfield 43, 3) := by decide +kernel
theorem dX1_listFor_17 : decode cX1_listFor 17 = .ok (.if_icmp .ge 46, 3) := by decide +kernel
theorem dX1_listFor_20 : decode cX1_listFor 20 = .ok (.aload_n 1, 1) := by decide +kernel
theorem dX1_listFor_21 : decode cX1_listFor 21 = .ok (.iload_n 2, 1) := by decide +kernel
theorem dX1_listFor_22 : decode cX1_listFor 22 = .ok (.invokevirtual 46, 3) := by decide +kernel
theorem dX1_listFor_25 : decode cX1_listFor 25 = .ok (.ifCond .eq 32, 3) := by decide +kernel
theorem dX1_listFor_28 : decode cX1_listFor 28 = .ok (.aload_n 0, 1) := by decide +kernel
theorem dX1_listFor_29 : decode cX1_listFor 29 = .ok (.getfield 35, 3) := by decide +kernel
theorem dX1_listFor_32 : decode cX1_listFor 32 = .ok (.bipush 8, 2) := by decide +kernel
theorem dX1_listFor_34 : decode cX1_listFor 34 = .ok (.if_icmp .ge 23, 3) := by decide +kernel
theorem dX1_listFor_37 : decode cX1_listFor 37 = .ok (.aload_n 0, 1) := by decide +kernel
theorem dX1_listFor_38 : decode cX1_listFor 38 = .ok (.getfield 9, 3) := by decide +kernel
theorem dX1_listFor_41 : decode cX1_listFor 41 = .ok (.aload_n 0, 1) := by decide +kernel
theorem dX1_listFor_42 : decode cX1_listFor 42 = .ok (.getfield 35, 3) := by decide +kernel
theorem dX1_listFor_45 : decode cX1_listFor 45 = .ok (.iload_n 2, 1) := by decide +kernel
theorem dX1_listFor_46 : decode cX1_listFor 46 = .ok (.iastore, 1) := by decide +kernel
theorem dX1_listFor_47 : decode cX1_listFor 47 = .ok (.aload_n 0, 1) := by decide +kernel
theorem dX1_listFor_48 : decode cX1_listFor 48 = .ok (.dup, 1) := by decide +kernel
theorem dX1_listFor_49 : decode cX1_listFor 49 = .ok (.getfield 35, 3) := by decide +kernel
theorem dX1_listFor_52 : decode cX1_listFor 52 = .ok (.iconst 1, 1) := by decide +kernel
theorem dX1_listFor_53 : decode cX1_listFor 53 = .ok (.iadd, 1) := by decide +kernel
theorem dX1_listFor_54 : decode cX1_listFor 54 = .ok (.putfield 35, 3) := by decide +kernel
theorem dX1_listFor_57 : decode cX1_listFor 57 = .ok (.iinc 2 1, 3) := by decide +kernel
theorem dX1_listFor_60 : decode cX1_listFor 60 = .ok (.goto (-48), 3) := by decide +kernel
theorem dX1_listFor_63 : decode cX1_listFor 63 = .ok (.return_, 1) := by decide +kernel
theorem dX1_has_0 : decode cX1_has 0 = .ok (.iload_n 1, 1) := by decide +kernel
theorem dX1_has_1 : decode cX1_has 1 = .ok (.ifCond .lt 17, 3) := by decide +kernel
theorem dX1_has_4 : decode cX1_has 4 = .ok (.iload_n 1, 1) := by decide +kernel
theorem dX1_has_5 : decode cX1_has 5 = .ok (.iconst 1, 1) := by decide +kernel
theorem dX1_has_6 : decode cX1_has 6 = .ok (.aload_n 0, 1) := by decide +kernel
theorem dX1_has_7 : decode cX1_has 7 = .ok (.getfield 35, 3) := by decide +kernel
theorem dX1_has_10 : decode cX1_has 10 = .ok (.ishl, 1) := by decide +kernel
theorem dX1_has_11 : decode cX1_has 11 = .ok (.if_icmp .ge 7, 3) := by decide +kernel
theorem dX1_has_14 : decode cX1_has 14 = .ok (.iconst 1, 1) := by decide +kernel
theorem dX1_has_15 : decode cX1_has 15 = .ok (.goto 4, 3) := by decide +kernel
theorem dX1_has_18 : decode cX1_has 18 = .ok (.iconst 0, 1) := by decide +kernel
theorem dX1_has_19 : decode cX1_has 19 = .ok (.ireturn, 1) := by decide +kernel
theorem dX1_holds_0 : decode cX1_holds 0 = .ok (.iload_n 1, 1) := by decide +kernel
theorem dX1_holds_1 : decode cX1_holds 1 = .ok (.iload_n 2, 1) := by decide +kernel
theorem dX1_holds_2 : decode cX1_holds 2 = .ok (.ishr, 1) := by decide +kernel
theorem dX1_holds_3 : decode cX1_holds 3 = .ok (.iconst 1, 1) := by decide +kernel
theorem dX1_holds_4 : decode cX1_holds 4 = .ok (.iand, 1) := by decide +kernel
theorem dX1_holds_5 : decode cX1_holds 5 = .ok (.iconst 1, 1) := by decide +kernel
theorem dX1_holds_6 : decode cX1_holds 6 = .ok (.if_icmp .ne 7, 3) := by decide +kernel
theorem dX1_holds_9 : decode cX1_holds 9 = .ok (.iconst 1, 1) := by decide +kernel
theorem dX1_holds_10 : decode cX1_holds 10 = .ok (.goto 4, 3) := by decide +kernel
theorem dX1_holds_13 : decode cX1_holds 13 = .ok (.iconst 0, 1) := by decide +kernel
theorem dX1_holds_14 : decode cX1_holds 14 = .ok (.ireturn, 1) := by decide +kernel
theorem dX1_placeOf_0 : decode cX1_placeOf 0 = .ok (.iconst 0, 1) := by decide +kernel
theorem dX1_placeOf_1 : decode cX1_placeOf 1 = .ok (.istore_n 2, 1) := by decide +kernel
theorem dX1_placeOf_2 : decode cX1_placeOf 2 = .ok (.iload_n 2, 1) := by decide +kernel
theorem dX1_placeOf_3 : decode cX1_placeOf 3 = .ok (.aload_n 0, 1) := by decide +kernel
theorem dX1_placeOf_4 : decode cX1_placeOf 4 = .ok (.getfield 35, 3) := by decide +kernel
theorem dX1_placeOf_7 : decode cX1_placeOf 7 = .ok (.if_icmp .ge 21, 3) := by decide +kernel
theorem dX1_placeOf_10 : decode cX1_placeOf 10 = .ok (.aload_n 0, 1) := by decide +kernel
theorem dX1_placeOf_11 : decode cX1_placeOf 11 = .ok (.getfield 9, 3) := by decide +kernel
theorem dX1_placeOf_14 : decode cX1_placeOf 14 = .ok (.iload_n 2, 1) := by decide +kernel
theorem dX1_placeOf_15 : decode cX1_placeOf 15 = .ok (.iaload, 1) := by decide +kernel
theorem dX1_placeOf_16 : decode cX1_placeOf 16 = .ok (.iload_n 1, 1) := by decide +kernel
theorem dX1_placeOf_17 : decode cX1_placeOf 17 = .ok (.if_icmp .ne 5, 3) := by decide +kernel
theorem dX1_placeOf_20 : decode cX1_placeOf 20 = .ok (.iload_n 2, 1) := by decide +kernel
theorem dX1_placeOf_21 : decode cX1_placeOf 21 = .ok (.ireturn, 1) := by decide +kernel
theorem dX1_placeOf_22 : decode cX1_placeOf 22 = .ok (.iinc 2 1, 3) := by decide +kernel
theorem dX1_placeOf_25 : decode cX1_placeOf 25 = .ok (.goto (-23), 3) := by decide +kernel
theorem dX1_placeOf_28 : decode cX1_placeOf 28 = .ok (.iconst (-1), 1) := by decide +kernel
theorem dX1_placeOf_29 : decode cX1_placeOf 29 = .ok (.ireturn, 1) := by decide +kernel
theorem dX1_priceOf_0 : decode cX1_priceOf 0 = .ok (.iload_n 1, 1) := by decide +kernel
theorem dX1_priceOf_1 : decode cX1_priceOf 1 = .ok (.ifCond .lt 19, 3) := by decide +kernel
theorem dX1_priceOf_4 : decode cX1_priceOf 4 = .ok (.iload_n 1, 1) := by decide +kernel
theorem dX1_priceOf_5 : decode cX1_priceOf 5 = .ok (.sipush 256, 3) := by decide +kernel
theorem dX1_priceOf_8 : decode cX1_priceOf 8 = .ok (.if_icmp .ge 12, 3) := by decide +kernel
theorem dX1_priceOf_11 : decode cX1_priceOf 11 = .ok (.aload_n 0, 1) := by decide +kernel
theorem dX1_priceOf_12 : decode cX1_priceOf 12 = .ok (.getfield 32, 3) := by decide +kernel
theorem dX1_priceOf_15 : decode cX1_priceOf 15 = .ok (.iload_n 1, 1) := by decide +kernel
theorem dX1_priceOf_16 : decode cX1_priceOf 16 = .ok (.iaload, 1) := by decide +kernel
theorem dX1_priceOf_17 : decode cX1_priceOf 17 = .ok (.goto 4, 3) := by decide +kernel
theorem dX1_priceOf_20 : decode cX1_priceOf 20 = .ok (.iconst 0, 1) := by decide +kernel
theorem dX1_priceOf_21 : decode cX1_priceOf 21 = .ok (.ireturn, 1) := by decide +kernel
set_option maxRecDepth 20000 in
theorem ggX1_cheapest_X1_priceAll : GoodIn wsX1_cheapest wsX1_priceAll := goodIn_r _ [6, 7, 1, 8, 9, 10, 11, 12, 5, 13, 14, 15, 16, 17, 18, 19, 20, 21, 22, 23, 24, 25, 26, 27, 28, 29, 30, 31, 32, 33, 34, 35, 36, 37, 38, 39, 40, 41, 42, 43, 44, 45, 46, 47, 48, 49, 50, 51, 52, 53, 54, 55, 56, 57, 58, 59, 60, 61, 62, 63, 64, 65, 66, 67, 68, 69, 70, 71, 72, 73, 74, 75, 76, 81, 82, 83, 84, 85, 86, 87, 88, 89, 90, 91, 92, 93, 94, 95, 96, 97, 98, 99, 100, 101, 102, 103, 104, 105, 106, 107, 108] (by decide +kernel) (by decide +kernel)
set_option maxRecDepth 20000 in
theorem gX1_cheapest_X1_priceAll : GoodIn wsX1_cheapest (wsV RX1 50 RX1 yX1_priceAll wsX1_priceAll) := goodIn_app (goodIn_of _ (by decide +kernel)) ggX1_cheapest_X1_priceAll
set_option maxRecDepth 20000 in
theorem ggX1_cheapest_X1_priceOf : GoodIn wsX1_cheapest wsX1_priceOf := goodIn_r _ [80, 8, 81, 82, 83, 84, 85, 86, 87, 88] (by decide +kernel) (by decide +kernel)
set_option maxRecDepth 20000 in
theorem gX1_cheapest_X1_priceOf : GoodIn wsX1_cheapest (wsV RX1 54 RX1 yX1_priceOf wsX1_priceOf) := goodIn_app (goodIn_of _ (by decide +kernel)) ggX1_cheapest_X1_priceOf
theorem dX1_cheapest_0 : decode cX1_cheapest 0 = .ok (.aload_n 0, 1) := by decide +kernel
theorem dX1_cheapest_1 : decode cX1_cheapest 1 = .ok (.aload_n 1, 1) := by decide +kernel
theorem dX1_cheapest_2 : decode cX1_cheapest 2 = .ok (.aload_n 2, 1) := by decide +kernel
theorem dX1_cheapest_3 : decode cX1_cheapest 3 = .ok (.invokevirtual 50, 3) := by decide +kernel
theorem dX1_cheapest_6 : decode cX1_cheapest 6 = .ok (.iconst (-1), 1) := by decide +kernel
theorem dX1_cheapest_7 : decode cX1_cheapest 7 = .ok (.istore 5, 2) := by decide +kernel
theorem dX1_cheapest_9 : decode cX1_cheapest 9 = .ok (.iconst 0, 1) := by decide +kernel
theorem dX1_cheapest_10 : decode cX1_cheapest 10 = .ok (.istore 6, 2) := by decide +kernel
theorem dX1_cheapest_12 : decode cX1_cheapest 12 = .ok (.iload 6, 2) := by decide +kernel
theorem dX1_cheapest_14 : decode cX1_cheapest 14 = .ok (.iconst 1, 1) := by decide +kernel
theorem dX1_cheapest_15 : decode cX1_cheapest 15 = .ok (.aload_n 0, 1) := by decide +kernel
theorem dX1_cheapest_16 : decode cX1_cheapest 16 = .ok (.getfield 35, 3) := by decide +kernel
theorem dX1_cheapest_19 : decode cX1_cheapest 19 = .ok (.ishl, 1) := by decide +kernel
theorem dX1_cheapest_20 : decode cX1_cheapest 20 = .ok (.if_icmp .ge 42, 3) := by decide +kernel
theorem dX1_cheapest_23 : decode cX1_cheapest 23 = .ok (.iload 6, 2) := by decide +kernel
theorem dX1_cheapest_25 : decode cX1_cheapest 25 = .ok (.iload_n 3, 1) := by decide +kernel
theorem dX1_cheapest_26 : decode cX1_cheapest 26 = .ok (.iand, 1) := by decide +kernel
theorem dX1_cheapest_27 : decode cX1_cheapest 27 = .ok (.iload 4, 2) := by decide +kernel
theorem dX1_cheapest_29 : decode cX1_cheapest 29 = .ok (.if_icmp .ne 27, 3) := by decide +kernel
theorem dX1_cheapest_32 : decode cX1_cheapest 32 = .ok (.iload 5, 2) := by decide +kernel
theorem dX1_cheapest_34 : decode cX1_cheapest 34 = .ok (.ifCond .lt 18, 3) := by decide +kernel
theorem dX1_cheapest_37 : decode cX1_cheapest 37 = .ok (.aload_n 0, 1) := by decide +kernel
theorem dX1_cheapest_38 : decode cX1_cheapest 38 = .ok (.iload 6, 2) := by decide +kernel
theorem dX1_cheapest_40 : decode cX1_cheapest 40 = .ok (.invokevirtual 54, 3) := by decide +kernel
theorem dX1_cheapest_43 : decode cX1_cheapest 43 = .ok (.aload_n 0, 1) := by decide +kernel
theorem dX1_cheapest_44 : decode cX1_cheapest 44 = .ok (.iload 5, 2) := by decide +kernel
theorem dX1_cheapest_46 : decode cX1_cheapest 46 = .ok (.invokevirtual 54, 3) := by decide +kernel
theorem dX1_cheapest_49 : decode cX1_cheapest 49 = .ok (.if_icmp .ge 7, 3) := by decide +kernel
theorem dX1_cheapest_52 : decode cX1_cheapest 52 = .ok (.iload 6, 2) := by decide +kernel
theorem dX1_cheapest_54 : decode cX1_cheapest 54 = .ok (.istore 5, 2) := by decide +kernel
theorem dX1_cheapest_56 : decode cX1_cheapest 56 = .ok (.iinc 6 1, 3) := by decide +kernel
theorem dX1_cheapest_59 : decode cX1_cheapest 59 = .ok (.goto (-47), 3) := by decide +kernel
theorem dX1_cheapest_62 : decode cX1_cheapest 62 = .ok (.iload 5, 2) := by decide +kernel
theorem dX1_cheapest_64 : decode cX1_cheapest 64 = .ok (.ireturn, 1) := by decide +kernel
set_option maxRecDepth 20000 in
theorem ggX1_priceAll_X1_measure : GoodIn wsX1_priceAll wsX1_measure := goodIn_r _ [9, 10, 11, 4, 2, 12, 13, 14, 15, 16, 17, 18, 19, 20, 21, 22, 23, 24, 25, 8, 26, 27, 28, 29, 30, 31, 32, 33, 34, 35, 36, 37, 38, 39, 40, 41, 42, 43, 44, 45, 46, 47, 48, 49, 50, 51, 52, 53, 54, 55, 56, 57, 58, 59, 60, 61, 62, 63, 64, 65, 66, 67, 68, 69, 70, 71, 72, 73, 74, 75, 76, 77, 78, 79, 80, 81, 82, 83, 84, 85, 86, 87, 88, 89, 90, 91, 92, 93, 94, 95, 96, 97, 98, 99, 100] (by decide +kernel) (by decide +kernel)
set_option maxRecDepth 20000 in
theorem gX1_priceAll_X1_measure : GoodIn wsX1_priceAll (wsV RX1 58 RX1 yX1_measure wsX1_measure) := goodIn_app (goodIn_of _ (by decide +kernel)) ggX1_priceAll_X1_measure
theorem dX1_priceAll_0 : decode cX1_priceAll 0 = .ok (.aload_n 0, 1) := by decide +kernel
theorem dX1_priceAll_1 : decode cX1_priceAll 1 = .ok (.getfield 39, 3) := by decide +kernel
theorem dX1_priceAll_4 : decode cX1_priceAll 4 = .ok (.ifCond .eq 4, 3) := by decide +kernel
theorem dX1_priceAll_7 : decode cX1_priceAll 7 = .ok (.return_, 1) := by decide +kernel
theorem dX1_priceAll_8 : decode cX1_priceAll 8 = .ok (.iconst 0, 1) := by decide +kernel
theorem dX1_priceAll_9 : decode cX1_priceAll 9 = .ok (.istore_n 3, 1) := by decide +kernel
theorem dX1_priceAll_10 : decode cX1_priceAll 10 = .ok (.iload_n 3, 1) := by decide +kernel
theorem dX1_priceAll_11 : decode cX1_priceAll 11 = .ok (.iconst 1, 1) := by decide +kernel
theorem dX1_priceAll_12 : decode cX1_priceAll 12 = .ok (.aload_n 0, 1) := by decide +kernel
theorem dX1_priceAll_13 : decode cX1_priceAll 13 = .ok (.getfield 35, 3) := by decide +kernel
theorem dX1_priceAll_16 : decode cX1_priceAll 16 = .ok (.ishl, 1) := by decide +kernel
theorem dX1_priceAll_17 : decode cX1_priceAll 17 = .ok (.if_icmp .ge 35, 3) := by decide +kernel
theorem dX1_priceAll_20 : decode cX1_priceAll 20 = .ok (.iload_n 3, 1) := by decide +kernel
theorem dX1_priceAll_21 : decode cX1_priceAll 21 = .ok (.sipush 256, 3) := by decide +kernel
theorem dX1_priceAll_24 : decode cX1_priceAll 24 = .ok (.if_icmp .ge 28, 3) := by decide +kernel
theorem dX1_priceAll_27 : decode cX1_priceAll 27 = .ok (.aload_n 0, 1) := by decide +kernel
theorem dX1_priceAll_28 : decode cX1_priceAll 28 = .ok (.aload_n 1, 1) := by decide +kernel
theorem dX1_priceAll_29 : decode cX1_priceAll 29 = .ok (.aload_n 2, 1) := by decide +kernel
theorem dX1_priceAll_30 : decode cX1_priceAll 30 = .ok (.iload_n 3, 1) := by decide +kernel
theorem dX1_priceAll_31 : decode cX1_priceAll 31 = .ok (.invokevirtual 58, 3) := by decide +kernel
theorem dX1_priceAll_34 : decode cX1_priceAll 34 = .ok (.aload_n 0, 1) := by decide +kernel
theorem dX1_priceAll_35 : decode cX1_priceAll 35 = .ok (.getfield 32, 3) := by decide +kernel
theorem dX1_priceAll_38 : decode cX1_priceAll 38 = .ok (.iload_n 3, 1) := by decide +kernel
theorem dX1_priceAll_39 : decode cX1_priceAll 39 = .ok (.aload_n 0, 1) := by decide +kernel
theorem dX1_priceAll_40 : decode cX1_priceAll 40 = .ok (.getfield 15, 3) := by decide +kernel
theorem dX1_priceAll_43 : decode cX1_priceAll 43 = .ok (.iconst 0, 1) := by decide +kernel
theorem dX1_priceAll_44 : decode cX1_priceAll 44 = .ok (.iaload, 1) := by decide +kernel
theorem dX1_priceAll_45 : decode cX1_priceAll 45 = .ok (.iastore, 1) := by decide +kernel
theorem dX1_priceAll_46 : decode cX1_priceAll 46 = .ok (.iinc 3 1, 3) := by decide +kernel
theorem dX1_priceAll_49 : decode cX1_priceAll 49 = .ok (.goto (-39), 3) := by decide +kernel
theorem dX1_priceAll_52 : decode cX1_priceAll 52 = .ok (.aload_n 0, 1) := by decide +kernel
theorem dX1_priceAll_53 : decode cX1_priceAll 53 = .ok (.iconst 1, 1) := by decide +kernel
theorem dX1_priceAll_54 : decode cX1_priceAll 54 = .ok (.putfield 39, 3) := by decide +kernel
theorem dX1_priceAll_57 : decode cX1_priceAll 57 = .ok (.return_, 1) := by decide +kernel
set_option maxRecDepth 20000 in
theorem ggX1_measure_X1_holds : GoodIn wsX1_measure wsX1_holds := goodIn_r _ [20] (by decide +kernel) (by decide +kernel)
set_option maxRecDepth 20000 in
theorem gX1_measure_X1_holds : GoodIn wsX1_measure (wsV RX1 65 RX1 yX1_holds wsX1_holds) := goodIn_app (goodIn_of _ (by decide +kernel)) ggX1_measure_X1_holds
set_option maxRecDepth 20000 in
theorem ggX1_measure_X3_lay : GoodIn wsX1_measure wsX3_lay := goodIn_r _ [25, 26, 27, 28, 29, 30, 31, 32, 33, 34, 24, 35, 36, 37, 38, 39, 40, 41, 42, 43, 44, 45, 86, 87, 88, 89, 90, 91, 92, 93, 94, 75, 76, 77, 78, 79, 80, 81, 82, 83, 84, 85] (by decide +kernel) (by decide +kernel)
set_option maxRecDepth 20000 in
theorem gX1_measure_X3_lay : GoodIn wsX1_measure (wsV RX1 75 RX3 yX3_lay wsX3_lay) := goodIn_app (goodIn_of _ (by decide +kernel)) ggX1_measure_X3_lay
set_option maxRecDepth 20000 in
theorem ggX1_measure_X1_findChangedLines : GoodIn wsX1_measure wsX1_findChangedLines := goodIn_r _ [49, 50, 8, 10, 11, 12, 13, 51, 52, 53, 54, 55, 56, 57, 58, 24, 59, 26, 36, 67, 68, 69, 70, 71, 72, 73, 74, 75, 76, 77, 78, 79, 80, 81, 82, 83, 84, 85, 86, 87, 88, 89, 90, 91, 92, 93, 94] (by decide +kernel) (by decide +kernel)
set_option maxRecDepth 20000 in
theorem gX1_measure_X1_findChangedLines : GoodIn wsX1_measure (wsV RX1 88 RX1 yX1_findChangedLines wsX1_findChangedLines) := goodIn_app (goodIn_of _ (by decide +kernel)) ggX1_measure_X1_findChangedLines
set_option maxRecDepth 20000 in
theorem ggX1_measure_X1_countChanged : GoodIn wsX1_measure wsX1_countChanged := goodIn_r _ [63, 50, 3, 67, 68, 69, 70, 71, 72, 73, 74] (by decide +kernel) (by decide +kernel)
set_option maxRecDepth 20000 in
theorem gX1_measure_X1_countChanged : GoodIn wsX1_measure (wsV RX1 91 RX1 yX1_countChanged wsX1_countChanged) := goodIn_app (goodIn_of _ (by decide +kernel)) ggX1_measure_X1_countChanged
set_option maxRecDepth 20000 in
theorem ggX1_measure_X1_slipsFor : GoodIn wsX1_measure wsX1_slipsFor := goodIn_r _ [66] (by decide +kernel) (by decide +kernel)
set_option maxRecDepth 20000 in
theorem gX1_measure_X1_slipsFor : GoodIn wsX1_measure (va_wsS RX1 98 yX1_slipsFor wsX1_slipsFor) := goodIn_app (goodIn_of _ (by decide +kernel)) ggX1_measure_X1_slipsFor
theorem dX1_measure_0 : decode cX1_measure 0 = .ok (.iconst 0, 1) := by decide +kernel
theorem dX1_measure_1 : decode cX1_measure 1 = .ok (.istore 4, 2) := by decide +kernel
theorem dX1_measure_3 : decode cX1_measure 3 = .ok (.iload 4, 2) := by decide +kernel
theorem dX1_measure_5 : decode cX1_measure 5 = .ok (.bipush 24, 2) := by decide +kernel
theorem dX1_measure_7 : decode cX1_measure 7 = .ok (.if_icmp .ge 23, 3) := by decide +kernel
theorem dX1_measure_10 : decode cX1_measure 10 = .ok (.aload_n 0, 1) := by decide +kernel
theorem dX1_measure_11 : decode cX1_measure 11 = .ok (.getfield 25, 3) := by decide +kernel
theorem dX1_measure_14 : decode cX1_measure 14 = .ok (.iload 4, 2) := by decide +kernel
theorem dX1_measure_16 : decode cX1_measure 16 = .ok (.aload_n 1, 1) := by decide +kernel
theorem dX1_measure_17 : decode cX1_measure 17 = .ok (.getfield 62, 3) := by decide +kernel
theorem dX1_measure_20 : decode cX1_measure 20 = .ok (.iload 4, 2) := by decide +kernel
theorem dX1_measure_22 : decode cX1_measure 22 = .ok (.baload, 1) := by decide +kernel
theorem dX1_measure_23 : decode cX1_measure 23 = .ok (.bastore, 1) := by decide +kernel
theorem dX1_measure_24 : decode cX1_measure 24 = .ok (.iinc 4 1, 3) := by decide +kernel
theorem dX1_measure_27 : decode cX1_measure 27 = .ok (.goto (-24), 3) := by decide +kernel
theorem dX1_measure_30 : decode cX1_measure 30 = .ok (.aload_n 0, 1) := by decide +kernel
theorem dX1_measure_31 : decode cX1_measure 31 = .ok (.getfield 15, 3) := by decide +kernel
theorem dX1_measure_34 : decode cX1_measure 34 = .ok (.iconst 5, 1) := by decide +kernel
theorem dX1_measure_35 : decode cX1_measure 35 = .ok (.iconst 0, 1) := by decide +kernel
theorem dX1_measure_36 : decode cX1_measure 36 = .ok (.iastore, 1) := by decide +kernel
theorem dX1_measure_37 : decode cX1_measure 37 = .ok (.iconst 0, 1) := by decide +kernel
theorem dX1_measure_38 : decode cX1_measure 38 = .ok (.istore 4, 2) := by decide +kernel
theorem dX1_measure_40 : decode cX1_measure 40 = .ok (.iload 4, 2) := by decide +kernel
theorem dX1_measure_42 : decode cX1_measure 42 = .ok (.aload_n 0, 1) := by decide +kernel
theorem dX1_measure_43 : decode cX1_measure 43 = .ok (.getfield 35, 3) := by decide +kernel
theorem dX1_measure_46 : decode cX1_measure 46 = .ok (.if_icmp .ge 65, 3) := by decide +kernel
theorem dX1_measure_49 : decode cX1_measure 49 = .ok (.aload_n 0, 1) := by decide +kernel
theorem dX1_measure_50 : decode cX1_measure 50 = .ok (.getfield 9, 3) := by decide +kernel
theorem dX1_measure_53 : decode cX1_measure 53 = .ok (.iload 4, 2) := by decide +kernel
theorem dX1_measure_55 : decode cX1_measure 55 = .ok (.iaload, 1) := by decide +kernel
theorem dX1_measure_56 : decode cX1_measure 56 = .ok (.istore 5, 2) := by decide +kernel
theorem dX1_measure_58 : decode cX1_measure 58 = .ok (.aload_n 0, 1) := by decide +kernel
theorem dX1_measure_59 : decode cX1_measure 59 = .ok (.iload_n 3, 1) := by decide +kernel
theorem dX1_measure_60 : decode cX1_measure 60 = .ok (.iload 4, 2) := by decide +kernel
theorem dX1_measure_62 : decode cX1_measure 62 = .ok (.invokevirtual 65, 3) := by decide +kernel
theorem dX1_measure_65 : decode cX1_measure 65 = .ok (.ifCond .eq 20, 3) := by decide +kernel
theorem dX1_measure_68 : decode cX1_measure 68 = .ok (.aload_n 0, 1) := by decide +kernel
theorem dX1_measure_69 : decode cX1_measure 69 = .ok (.getfield 25, 3) := by decide +kernel
theorem dX1_measure_72 : decode cX1_measure 72 = .ok (.iload 5, 2) := by decide +kernel
theorem dX1_measure_74 : decode cX1_measure 74 = .ok (.aload_n 1, 1) := by decide +kernel
theorem dX1_measure_75 : decode cX1_measure 75 = .ok (.getfield 69, 3) := by decide +kernel
theorem dX1_measure_78 : decode cX1_measure 78 = .ok (.iload 5, 2) := by decide +kernel
theorem dX1_measure_80 : decode cX1_measure 80 = .ok (.baload, 1) := by decide +kernel
theorem dX1_measure_81 : decode cX1_measure 81 = .ok (.bastore, 1) := by decide +kernel
theorem dX1_measure_82 : decode cX1_measure 82 = .ok (.goto 23, 3) := by decide +kernel
theorem dX1_measure_85 : decode cX1_measure 85 = .ok (.aload_n 1, 1) := by decide +kernel
theorem dX1_measure_86 : decode cX1_measure 86 = .ok (.getfield 72, 3) := by decide +kernel
theorem dX1_measure_89 : decode cX1_measure 89 = .ok (.iload 5, 2) := by decide +kernel
theorem dX1_measure_91 : decode cX1_measure 91 = .ok (.baload, 1) := by decide +kernel
theorem dX1_measure_92 : decode cX1_measure 92 = .ok (.ifCond .ne 13, 3) := by decide +kernel
theorem dX1_measure_95 : decode cX1_measure 95 = .ok (.aload_n 0, 1) := by decide +kernel
theorem dX1_measure_96 : decode cX1_measure 96 = .ok (.getfield 15, 3) := by decide +kernel
theorem dX1_measure_99 : decode cX1_measure 99 = .ok (.iconst 5, 1) := by decide +kernel
theorem dX1_measure_100 : decode cX1_measure 100 = .ok (.dup2, 1) := by decide +kernel
theorem dX1_measure_101 : decode cX1_measure 101 = .ok (.iaload, 1) := by decide +kernel
theorem dX1_measure_102 : decode cX1_measure 102 = .ok (.iconst 1, 1) := by decide +kernel
theorem dX1_measure_103 : decode cX1_measure 103 = .ok (.iadd, 1) := by decide +kernel
theorem dX1_measure_104 : decode cX1_measure 104 = .ok (.iastore, 1) := by decide +kernel
theorem dX1_measure_105 : decode cX1_measure 105 = .ok (.iinc 4 1, 3) := by decide +kernel
theorem dX1_measure_108 : decode cX1_measure 108 = .ok (.goto (-68), 3) := by decide +kernel
theorem dX1_measure_111 : decode cX1_measure 111 = .ok (.aload_n 0, 1) := by decide +kernel
theorem dX1_measure_112 : decode cX1_measure 112 = .ok (.getfield 21, 3) := by decide +kernel
theorem dX1_measure_115 : decode cX1_measure 115 = .ok (.aload_n 1, 1) := by decide +kernel
theorem dX1_measure_116 : decode cX1_measure 116 = .ok (.aload_n 0, 1) := by decide +kernel
theorem dX1_measure_117 : decode cX1_measure 117 = .ok (.getfield 25, 3) := by decide +kernel
theorem dX1_measure_120 : decode cX1_measure 120 = .ok (.invokevirtual 75, 3) := by decide +kernel
theorem dX1_measure_123 : decode cX1_measure 123 = .ok (.aload_n 2, 1) := by decide +kernel
theorem dX1_measure_124 : decode cX1_measure 124 = .ok (.getfield 79, 3) := by decide +kernel
theorem dX1_measure_127 : decode cX1_measure 127 = .ok (.aload_n 0, 1) := by decide +kernel
theorem dX1_measure_128 : decode cX1_measure 128 = .ok (.getfield 21, 3) := by decide +kernel
theorem dX1_measure_131 : decode cX1_measure 131 = .ok (.getfield 79, 3) := by decide +kernel
theorem dX1_measure_134 : decode cX1_measure 134 = .ok (.invokestatic 82, 3) := by decide +kernel
theorem dX1_measure_137 : decode cX1_measure 137 = .ok (.istore 4, 2) := by decide +kernel
theorem dX1_measure_139 : decode cX1_measure 139 = .ok (.aload_n 0, 1) := by decide +kernel
theorem dX1_measure_140 : decode cX1_measure 140 = .ok (.aload_n 1, 1) := by decide +kernel
theorem dX1_measure_141 : decode cX1_measure 141 = .ok (.aload_n 2, 1) := by decide +kernel
theorem dX1_measure_142 : decode cX1_measure 142 = .ok (.iload 4, 2) := by decide +kernel
theorem dX1_measure_144 : decode cX1_measure 144 = .ok (.invokevirtual 88, 3) := by decide +kernel
theorem dX1_measure_147 : decode cX1_measure 147 = .ok (.aload_n 0, 1) := by decide +kernel
theorem dX1_measure_148 : decode cX1_measure 148 = .ok (.iload 4, 2) := by decide +kernel
theorem dX1_measure_150 : decode cX1_measure 150 = .ok (.invokevirtual 91, 3) := by decide +kernel
theorem dX1_measure_153 : decode cX1_measure 153 = .ok (.aload_n 0, 1) := by decide +kernel
theorem dX1_measure_154 : decode cX1_measure 154 = .ok (.getfield 15, 3) := by decide +kernel
theorem dX1_measure_157 : decode cX1_measure 157 = .ok (.iconst 4, 1) := by decide +kernel
theorem dX1_measure_158 : decode cX1_measure 158 = .ok (.aload_n 0, 1) := by decide +kernel
theorem dX1_measure_159 : decode cX1_measure 159 = .ok (.getfield 15, 3) := by decide +kernel
theorem dX1_measure_162 : decode cX1_measure 162 = .ok (.iconst 5, 1) := by decide +kernel
theorem dX1_measure_163 : decode cX1_measure 163 = .ok (.iaload, 1) := by decide +kernel
theorem dX1_measure_164 : decode cX1_measure 164 = .ok (.aload_n 1, 1) := by decide +kernel
theorem dX1_measure_165 : decode cX1_measure 165 = .ok (.getfield 95, 3) := by decide +kernel
theorem dX1_measure_168 : decode cX1_measure 168 = .ok (.invokestatic 98, 3) := by decide +kernel
theorem dX1_measure_171 : decode cX1_measure 171 = .ok (.iastore, 1) := by decide +kernel
theorem dX1_measure_172 : decode cX1_measure 172 = .ok (.aload_n 0, 1) := by decide +kernel
theorem dX1_measure_173 : decode cX1_measure 173 = .ok (.getfield 15, 3) := by decide +kernel
theorem dX1_measure_176 : decode cX1_measure 176 = .ok (.bipush 6, 2) := by decide +kernel
theorem dX1_measure_178 : decode cX1_measure 178 = .ok (.aload_n 0, 1) := by decide +kernel
theorem dX1_measure_179 : decode cX1_measure 179 = .ok (.getfield 21, 3) := by decide +kernel
theorem dX1_measure_182 : decode cX1_measure 182 = .ok (.getfield 79, 3) := by decide +kernel
theorem dX1_measure_185 : decode cX1_measure 185 = .ok (.iastore, 1) := by decide +kernel
theorem dX1_measure_186 : decode cX1_measure 186 = .ok (.aload_n 0, 1) := by decide +kernel
theorem dX1_measure_187 : decode cX1_measure 187 = .ok (.getfield 15, 3) := by decide +kernel
theorem dX1_measure_190 : decode cX1_measure 190 = .ok (.iconst 0, 1) := by decide +kernel
theorem dX1_measure_191 : decode cX1_measure 191 = .ok (.aload_n 0, 1) := by decide +kernel
theorem dX1_measure_192 : decode cX1_measure 192 = .ok (.getfield 15, 3) := by decide +kernel
theorem dX1_measure_195 : decode cX1_measure 195 = .ok (.iconst 1, 1) := by decide +kernel
theorem dX1_measure_196 : decode cX1_measure 196 = .ok (.iaload, 1) := by decide +kernel
theorem dX1_measure_197 : decode cX1_measure 197 = .ok (.aload_n 1, 1) := by decide +kernel
theorem dX1_measure_198 : decode cX1_measure 198 = .ok (.getfield 101, 3) := by decide +kernel
theorem dX1_measure_201 : decode cX1_measure 201 = .ok (.iconst 0, 1) := by decide +kernel
theorem dX1_measure_202 : decode cX1_measure 202 = .ok (.iaload, 1) := by decide +kernel
theorem dX1_measure_203 : decode cX1_measure 203 = .ok (.imul, 1) := by decide +kernel
theorem dX1_measure_204 : decode cX1_measure 204 = .ok (.aload_n 0, 1) := by decide +kernel
theorem dX1_measure_205 : decode cX1_measure 205 = .ok (.getfield 15, 3) := by decide +kernel
theorem dX1_measure_208 : decode cX1_measure 208 = .ok (.iconst 2, 1) := by decide +kernel
theorem dX1_measure_209 : decode cX1_measure 209 = .ok (.iaload, 1) := by decide +kernel
theorem dX1_measure_210 : decode cX1_measure 210 = .ok (.aload_n 1, 1) := by decide +kernel
theorem dX1_measure_211 : decode cX1_measure 211 = .ok (.getfield 101, 3) := by decide +kernel
theorem dX1_measure_214 : decode cX1_measure 214 = .ok (.iconst 1, 1) := by decide +kernel
theorem dX1_measure_215 : decode cX1_measure 215 = .ok (.iaload, 1) := by decide +kernel
theorem dX1_measure_216 : decode cX1_measure 216 = .ok (.imul, 1) := by decide +kernel
theorem dX1_measure_217 : decode cX1_measure 217 = .ok (.iadd, 1) := by decide +kernel
theorem dX1_measure_218 : decode cX1_measure 218 = .ok (.aload_n 0, 1) := by decide +kernel
theorem dX1_measure_219 : decode cX1_measure 219 = .ok (.getfield 15, 3) := by decide +kernel
theorem dX1_measure_222 : decode cX1_measure 222 = .ok (.iconst 3, 1) := by decide +kernel
theorem dX1_measure_223 : decode cX1_measure 223 = .ok (.iaload, 1) := by decide +kernel
theorem dX1_measure_224 : decode cX1_measure 224 = .ok (.aload_n 1, 1) := by decide +kernel
theorem dX1_measure_225 : decode cX1_measure 225 = .ok (.getfield 101, 3) := by decide +kernel
theorem dX1_measure_228 : decode cX1_measure 228 = .ok (.iconst 2, 1) := by decide +kernel
theorem dX1_measure_229 : decode cX1_measure 229 = .ok (.iaload, 1) := by decide +kernel
theorem dX1_measure_230 : decode cX1_measure 230 = .ok (.imul, 1) := by decide +kernel
theorem dX1_measure_231 : decode cX1_measure 231 = .ok (.iadd, 1) := by decide +kernel
theorem dX1_measure_232 : decode cX1_measure 232 = .ok (.aload_n 0, 1) := by decide +kernel
theorem dX1_measure_233 : decode cX1_measure 233 = .ok (.getfield 15, 3) := by decide +kernel
theorem dX1_measure_236 : decode cX1_measure 236 = .ok (.iconst 4, 1) := by decide +kernel
theorem dX1_measure_237 : decode cX1_measure 237 = .ok (.iaload, 1) := by decide +kernel
theorem dX1_measure_238 : decode cX1_measure 238 = .ok (.aload_n 1, 1) := by decide +kernel
theorem dX1_measure_239 : decode cX1_measure 239 = .ok (.getfield 101, 3) := by decide +kernel
theorem dX1_measure_242 : decode cX1_measure 242 = .ok (.iconst 3, 1) := by decide +kernel
theorem dX1_measure_243 : decode cX1_measure 243 = .ok (.iaload, 1) := by decide +kernel
theorem dX1_measure_244 : decode cX1_measure 244 = .ok (.imul, 1) := by decide +kernel
theorem dX1_measure_245 : decode cX1_measure 245 = .ok (.iadd, 1) := by decide +kernel
theorem dX1_measure_246 : decode cX1_measure 246 = .ok (.aload_n 0, 1) := by decide +kernel
theorem dX1_measure_247 : decode cX1_measure 247 = .ok (.getfield 15, 3) := by decide +kernel
theorem dX1_measure_250 : decode cX1_measure 250 = .ok (.iconst 5, 1) := by decide +kernel
theorem dX1_measure_251 : decode cX1_measure 251 = .ok (.iaload, 1) := by decide +kernel
