theorem dX1_measure_252 : decode cX1_measure 252 = .ok (.aload_n 1, 1) := by decide +kernel
theorem dX1_measure_253 : decode cX1_measure 253 = .ok (.getfield 101, 3) := by decide +kernel
theorem dX1_measure_256 : decode cX1_measure 256 = .ok (.iconst 4, 1) := by decide +kernel
theorem dX1_measure_257 : decode cX1_measure 257 = .ok (.iaload, 1) := by decide +kernel
theorem dX1_measure_258 : decode cX1_measure 258 = .ok (.imul, 1) := by decide +kernel
theorem dX1_measure_259 : decode cX1_measure 259 = .ok (.iadd, 1) := by decide +kernel
theorem dX1_measure_260 : decode cX1_measure 260 = .ok (.iastore, 1) := by decide +kernel
theorem dX1_measure_261 : decode cX1_measure 261 = .ok (.return_, 1) := by decide +kernel
set_option maxRecDepth 20000 in
theorem ggX1_findChangedLines_X3_linesUsedOn : GoodIn wsX1_findChangedLines wsX3_linesUsedOn := goodIn_r _ [16, 17, 18, 38, 39, 40, 41, 42, 43, 44, 45, 46] (by decide +kernel) (by decide +kernel)
set_option maxRecDepth 20000 in
theorem gX1_findChangedLines_X3_linesUsedOn : GoodIn wsX1_findChangedLines (wsV RX1 104 RX3 yX3_linesUsedOn wsX3_linesUsedOn) := goodIn_app (goodIn_of _ (by decide +kernel)) ggX1_findChangedLines_X3_linesUsedOn
theorem dX1_findChangedLines_0 : decode cX1_findChangedLines 0 = .ok (.iconst 0, 1) := by decide +kernel
theorem dX1_findChangedLines_1 : decode cX1_findChangedLines 1 = .ok (.istore 4, 2) := by decide +kernel
theorem dX1_findChangedLines_3 : decode cX1_findChangedLines 3 = .ok (.iload 4, 2) := by decide +kernel
theorem dX1_findChangedLines_5 : decode cX1_findChangedLines 5 = .ok (.iload_n 3, 1) := by decide +kernel
theorem dX1_findChangedLines_6 : decode cX1_findChangedLines 6 = .ok (.if_icmp .ge 41, 3) := by decide +kernel
theorem dX1_findChangedLines_9 : decode cX1_findChangedLines 9 = .ok (.iload 4, 2) := by decide +kernel
theorem dX1_findChangedLines_11 : decode cX1_findChangedLines 11 = .ok (.bipush 24, 2) := by decide +kernel
theorem dX1_findChangedLines_13 : decode cX1_findChangedLines 13 = .ok (.if_icmp .ge 34, 3) := by decide +kernel
theorem dX1_findChangedLines_16 : decode cX1_findChangedLines 16 = .ok (.aload_n 0, 1) := by decide +kernel
theorem dX1_findChangedLines_17 : decode cX1_findChangedLines 17 = .ok (.getfield 29, 3) := by decide +kernel
theorem dX1_findChangedLines_20 : decode cX1_findChangedLines 20 = .ok (.iload 4, 2) := by decide +kernel
theorem dX1_findChangedLines_22 : decode cX1_findChangedLines 22 = .ok (.aload_n 2, 1) := by decide +kernel
theorem dX1_findChangedLines_23 : decode cX1_findChangedLines 23 = .ok (.iload 4, 2) := by decide +kernel
theorem dX1_findChangedLines_25 : decode cX1_findChangedLines 25 = .ok (.invokevirtual 104, 3) := by decide +kernel
theorem dX1_findChangedLines_28 : decode cX1_findChangedLines 28 = .ok (.aload_n 0, 1) := by decide +kernel
theorem dX1_findChangedLines_29 : decode cX1_findChangedLines 29 = .ok (.getfield 21, 3) := by decide +kernel
theorem dX1_findChangedLines_32 : decode cX1_findChangedLines 32 = .ok (.iload 4, 2) := by decide +kernel
theorem dX1_findChangedLines_34 : decode cX1_findChangedLines 34 = .ok (.invokevirtual 104, 3) := by decide +kernel
theorem dX1_findChangedLines_37 : decode cX1_findChangedLines 37 = .ok (.invokestatic 82, 3) := by decide +kernel
theorem dX1_findChangedLines_40 : decode cX1_findChangedLines 40 = .ok (.iastore, 1) := by decide +kernel
theorem dX1_findChangedLines_41 : decode cX1_findChangedLines 41 = .ok (.iinc 4 1, 3) := by decide +kernel
theorem dX1_findChangedLines_44 : decode cX1_findChangedLines 44 = .ok (.goto (-41), 3) := by decide +kernel
theorem dX1_findChangedLines_47 : decode cX1_findChangedLines 47 = .ok (.iconst 0, 1) := by decide +kernel
theorem dX1_findChangedLines_48 : decode cX1_findChangedLines 48 = .ok (.istore 4, 2) := by decide +kernel
theorem dX1_findChangedLines_50 : decode cX1_findChangedLines 50 = .ok (.iload 4, 2) := by decide +kernel
theorem dX1_findChangedLines_52 : decode cX1_findChangedLines 52 = .ok (.aload_n 1, 1) := by decide +kernel
theorem dX1_findChangedLines_53 : decode cX1_findChangedLines 53 = .ok (.getfield 43, 3) := by decide +kernel
theorem dX1_findChangedLines_56 : decode cX1_findChangedLines 56 = .ok (.if_icmp .ge 138, 3) := by decide +kernel
theorem dX1_findChangedLines_59 : decode cX1_findChangedLines 59 = .ok (.aload_n 0, 1) := by decide +kernel
theorem dX1_findChangedLines_60 : decode cX1_findChangedLines 60 = .ok (.getfield 21, 3) := by decide +kernel
theorem dX1_findChangedLines_63 : decode cX1_findChangedLines 63 = .ok (.getfield 107, 3) := by decide +kernel
theorem dX1_findChangedLines_66 : decode cX1_findChangedLines 66 = .ok (.iload 4, 2) := by decide +kernel
theorem dX1_findChangedLines_68 : decode cX1_findChangedLines 68 = .ok (.iaload, 1) := by decide +kernel
theorem dX1_findChangedLines_69 : decode cX1_findChangedLines 69 = .ok (.istore 5, 2) := by decide +kernel
theorem dX1_findChangedLines_71 : decode cX1_findChangedLines 71 = .ok (.iload 5, 2) := by decide +kernel
theorem dX1_findChangedLines_73 : decode cX1_findChangedLines 73 = .ok (.aload_n 2, 1) := by decide +kernel
theorem dX1_findChangedLines_74 : decode cX1_findChangedLines 74 = .ok (.getfield 107, 3) := by decide +kernel
theorem dX1_findChangedLines_77 : decode cX1_findChangedLines 77 = .ok (.iload 4, 2) := by decide +kernel
theorem dX1_findChangedLines_79 : decode cX1_findChangedLines 79 = .ok (.iaload, 1) := by decide +kernel
theorem dX1_findChangedLines_80 : decode cX1_findChangedLines 80 = .ok (.if_icmp .ne 27, 3) := by decide +kernel
theorem dX1_findChangedLines_83 : decode cX1_findChangedLines 83 = .ok (.aload_n 0, 1) := by decide +kernel
theorem dX1_findChangedLines_84 : decode cX1_findChangedLines 84 = .ok (.getfield 21, 3) := by decide +kernel
theorem dX1_findChangedLines_87 : decode cX1_findChangedLines 87 = .ok (.getfield 110, 3) := by decide +kernel
theorem dX1_findChangedLines_90 : decode cX1_findChangedLines 90 = .ok (.iload 4, 2) := by decide +kernel
theorem dX1_findChangedLines_92 : decode cX1_findChangedLines 92 = .ok (.iaload, 1) := by decide +kernel
theorem dX1_findChangedLines_93 : decode cX1_findChangedLines 93 = .ok (.aload_n 2, 1) := by decide +kernel
theorem dX1_findChangedLines_94 : decode cX1_findChangedLines 94 = .ok (.getfield 110, 3) := by decide +kernel
theorem dX1_findChangedLines_97 : decode cX1_findChangedLines 97 = .ok (.iload 4, 2) := by decide +kernel
theorem dX1_findChangedLines_99 : decode cX1_findChangedLines 99 = .ok (.iaload, 1) := by decide +kernel
theorem dX1_findChangedLines_100 : decode cX1_findChangedLines 100 = .ok (.if_icmp .ne 7, 3) := by decide +kernel
theorem dX1_findChangedLines_103 : decode cX1_findChangedLines 103 = .ok (.iconst 1, 1) := by decide +kernel
theorem dX1_findChangedLines_104 : decode cX1_findChangedLines 104 = .ok (.goto 4, 3) := by decide +kernel
theorem dX1_findChangedLines_107 : decode cX1_findChangedLines 107 = .ok (.iconst 0, 1) := by decide +kernel
theorem dX1_findChangedLines_108 : decode cX1_findChangedLines 108 = .ok (.istore 6, 2) := by decide +kernel
theorem dX1_findChangedLines_110 : decode cX1_findChangedLines 110 = .ok (.iload 6, 2) := by decide +kernel
theorem dX1_findChangedLines_112 : decode cX1_findChangedLines 112 = .ok (.ifCond .eq 76, 3) := by decide +kernel
theorem dX1_findChangedLines_115 : decode cX1_findChangedLines 115 = .ok (.iload 5, 2) := by decide +kernel
theorem dX1_findChangedLines_117 : decode cX1_findChangedLines 117 = .ok (.ifCond .lt 71, 3) := by decide +kernel
theorem dX1_findChangedLines_120 : decode cX1_findChangedLines 120 = .ok (.iload 5, 2) := by decide +kernel
theorem dX1_findChangedLines_122 : decode cX1_findChangedLines 122 = .ok (.bipush 24, 2) := by decide +kernel
theorem dX1_findChangedLines_124 : decode cX1_findChangedLines 124 = .ok (.if_icmp .ge 64, 3) := by decide +kernel
theorem dX1_findChangedLines_127 : decode cX1_findChangedLines 127 = .ok (.aload_n 0, 1) := by decide +kernel
theorem dX1_findChangedLines_128 : decode cX1_findChangedLines 128 = .ok (.getfield 21, 3) := by decide +kernel
theorem dX1_findChangedLines_131 : decode cX1_findChangedLines 131 = .ok (.getfield 113, 3) := by decide +kernel
theorem dX1_findChangedLines_134 : decode cX1_findChangedLines 134 = .ok (.iload 4, 2) := by decide +kernel
theorem dX1_findChangedLines_136 : decode cX1_findChangedLines 136 = .ok (.iaload, 1) := by decide +kernel
theorem dX1_findChangedLines_137 : decode cX1_findChangedLines 137 = .ok (.aload_n 2, 1) := by decide +kernel
theorem dX1_findChangedLines_138 : decode cX1_findChangedLines 138 = .ok (.getfield 113, 3) := by decide +kernel
theorem dX1_findChangedLines_141 : decode cX1_findChangedLines 141 = .ok (.iload 4, 2) := by decide +kernel
theorem dX1_findChangedLines_143 : decode cX1_findChangedLines 143 = .ok (.iaload, 1) := by decide +kernel
theorem dX1_findChangedLines_144 : decode cX1_findChangedLines 144 = .ok (.if_icmp .ne 7, 3) := by decide +kernel
theorem dX1_findChangedLines_147 : decode cX1_findChangedLines 147 = .ok (.iconst 1, 1) := by decide +kernel
theorem dX1_findChangedLines_148 : decode cX1_findChangedLines 148 = .ok (.goto 4, 3) := by decide +kernel
theorem dX1_findChangedLines_151 : decode cX1_findChangedLines 151 = .ok (.iconst 0, 1) := by decide +kernel
theorem dX1_findChangedLines_152 : decode cX1_findChangedLines 152 = .ok (.istore 7, 2) := by decide +kernel
theorem dX1_findChangedLines_154 : decode cX1_findChangedLines 154 = .ok (.aload_n 0, 1) := by decide +kernel
theorem dX1_findChangedLines_155 : decode cX1_findChangedLines 155 = .ok (.getfield 29, 3) := by decide +kernel
theorem dX1_findChangedLines_158 : decode cX1_findChangedLines 158 = .ok (.iload 5, 2) := by decide +kernel
theorem dX1_findChangedLines_160 : decode cX1_findChangedLines 160 = .ok (.dup2, 1) := by decide +kernel
theorem dX1_findChangedLines_161 : decode cX1_findChangedLines 161 = .ok (.iaload, 1) := by decide +kernel
theorem dX1_findChangedLines_162 : decode cX1_findChangedLines 162 = .ok (.iload 7, 2) := by decide +kernel
theorem dX1_findChangedLines_164 : decode cX1_findChangedLines 164 = .ok (.ifCond .eq 13, 3) := by decide +kernel
theorem dX1_findChangedLines_167 : decode cX1_findChangedLines 167 = .ok (.aload_n 1, 1) := by decide +kernel
theorem dX1_findChangedLines_168 : decode cX1_findChangedLines 168 = .ok (.getfield 116, 3) := by decide +kernel
theorem dX1_findChangedLines_171 : decode cX1_findChangedLines 171 = .ok (.iload 4, 2) := by decide +kernel
theorem dX1_findChangedLines_173 : decode cX1_findChangedLines 173 = .ok (.iaload, 1) := by decide +kernel
theorem dX1_findChangedLines_174 : decode cX1_findChangedLines 174 = .ok (.goto 12, 3) := by decide +kernel
theorem dX1_findChangedLines_177 : decode cX1_findChangedLines 177 = .ok (.aload_n 1, 1) := by decide +kernel
theorem dX1_findChangedLines_178 : decode cX1_findChangedLines 178 = .ok (.getfield 116, 3) := by decide +kernel
theorem dX1_findChangedLines_181 : decode cX1_findChangedLines 181 = .ok (.iload 4, 2) := by decide +kernel
theorem dX1_findChangedLines_183 : decode cX1_findChangedLines 183 = .ok (.iaload, 1) := by decide +kernel
theorem dX1_findChangedLines_184 : decode cX1_findChangedLines 184 = .ok (.iconst 1, 1) := by decide +kernel
theorem dX1_findChangedLines_185 : decode cX1_findChangedLines 185 = .ok (.isub, 1) := by decide +kernel
theorem dX1_findChangedLines_186 : decode cX1_findChangedLines 186 = .ok (.isub, 1) := by decide +kernel
theorem dX1_findChangedLines_187 : decode cX1_findChangedLines 187 = .ok (.iastore, 1) := by decide +kernel
theorem dX1_findChangedLines_188 : decode cX1_findChangedLines 188 = .ok (.iinc 4 1, 3) := by decide +kernel
theorem dX1_findChangedLines_191 : decode cX1_findChangedLines 191 = .ok (.goto (-141), 3) := by decide +kernel
theorem dX1_findChangedLines_194 : decode cX1_findChangedLines 194 = .ok (.return_, 1) := by decide +kernel
theorem dX1_countChanged_0 : decode cX1_countChanged 0 = .ok (.iconst 0, 1) := by decide +kernel
theorem dX1_countChanged_1 : decode cX1_countChanged 1 = .ok (.istore_n 2, 1) := by decide +kernel
theorem dX1_countChanged_2 : decode cX1_countChanged 2 = .ok (.iconst 0, 1) := by decide +kernel
theorem dX1_countChanged_3 : decode cX1_countChanged 3 = .ok (.istore_n 3, 1) := by decide +kernel
theorem dX1_countChanged_4 : decode cX1_countChanged 4 = .ok (.iconst 0, 1) := by decide +kernel
theorem dX1_countChanged_5 : decode cX1_countChanged 5 = .ok (.istore 4, 2) := by decide +kernel
theorem dX1_countChanged_7 : decode cX1_countChanged 7 = .ok (.iconst (-1), 1) := by decide +kernel
theorem dX1_countChanged_8 : decode cX1_countChanged 8 = .ok (.istore 5, 2) := by decide +kernel
theorem dX1_countChanged_10 : decode cX1_countChanged 10 = .ok (.iconst 0, 1) := by decide +kernel
theorem dX1_countChanged_11 : decode cX1_countChanged 11 = .ok (.istore 6, 2) := by decide +kernel
theorem dX1_countChanged_13 : decode cX1_countChanged 13 = .ok (.iload 6, 2) := by decide +kernel
theorem dX1_countChanged_15 : decode cX1_countChanged 15 = .ok (.iload_n 1, 1) := by decide +kernel
theorem dX1_countChanged_16 : decode cX1_countChanged 16 = .ok (.if_icmp .ge 57, 3) := by decide +kernel
theorem dX1_countChanged_19 : decode cX1_countChanged 19 = .ok (.iload 6, 2) := by decide +kernel
theorem dX1_countChanged_21 : decode cX1_countChanged 21 = .ok (.bipush 24, 2) := by decide +kernel
theorem dX1_countChanged_23 : decode cX1_countChanged 23 = .ok (.if_icmp .ge 50, 3) := by decide +kernel
theorem dX1_countChanged_26 : decode cX1_countChanged 26 = .ok (.aload_n 0, 1) := by decide +kernel
theorem dX1_countChanged_27 : decode cX1_countChanged 27 = .ok (.getfield 29, 3) := by decide +kernel
theorem dX1_countChanged_30 : decode cX1_countChanged 30 = .ok (.iload 6, 2) := by decide +kernel
theorem dX1_countChanged_32 : decode cX1_countChanged 32 = .ok (.iaload, 1) := by decide +kernel
theorem dX1_countChanged_33 : decode cX1_countChanged 33 = .ok (.ifCond .le 34, 3) := by decide +kernel
theorem dX1_countChanged_36 : decode cX1_countChanged 36 = .ok (.iload_n 2, 1) := by decide +kernel
theorem dX1_countChanged_37 : decode cX1_countChanged 37 = .ok (.aload_n 0, 1) := by decide +kernel
theorem dX1_countChanged_38 : decode cX1_countChanged 38 = .ok (.getfield 29, 3) := by decide +kernel
theorem dX1_countChanged_41 : decode cX1_countChanged 41 = .ok (.iload 6, 2) := by decide +kernel
theorem dX1_countChanged_43 : decode cX1_countChanged 43 = .ok (.iaload, 1) := by decide +kernel
theorem dX1_countChanged_44 : decode cX1_countChanged 44 = .ok (.iadd, 1) := by decide +kernel
theorem dX1_countChanged_45 : decode cX1_countChanged 45 = .ok (.istore_n 2, 1) := by decide +kernel
theorem dX1_countChanged_46 : decode cX1_countChanged 46 = .ok (.iinc 3 1, 3) := by decide +kernel
theorem dX1_countChanged_49 : decode cX1_countChanged 49 = .ok (.iload 6, 2) := by decide +kernel
theorem dX1_countChanged_51 : decode cX1_countChanged 51 = .ok (.iconst 4, 1) := by decide +kernel
theorem dX1_countChanged_52 : decode cX1_countChanged 52 = .ok (.idiv, 1) := by decide +kernel
theorem dX1_countChanged_53 : decode cX1_countChanged 53 = .ok (.iload 5, 2) := by decide +kernel
theorem dX1_countChanged_55 : decode cX1_countChanged 55 = .ok (.if_icmp .eq 12, 3) := by decide +kernel
theorem dX1_countChanged_58 : decode cX1_countChanged 58 = .ok (.iload 6, 2) := by decide +kernel
theorem dX1_countChanged_60 : decode cX1_countChanged 60 = .ok (.iconst 4, 1) := by decide +kernel
theorem dX1_countChanged_61 : decode cX1_countChanged 61 = .ok (.idiv, 1) := by decide +kernel
theorem dX1_countChanged_62 : decode cX1_countChanged 62 = .ok (.istore 5, 2) := by decide +kernel
theorem dX1_countChanged_64 : decode cX1_countChanged 64 = .ok (.iinc 4 1, 3) := by decide +kernel
theorem dX1_countChanged_67 : decode cX1_countChanged 67 = .ok (.iinc 6 1, 3) := by decide +kernel
theorem dX1_countChanged_70 : decode cX1_countChanged 70 = .ok (.goto (-57), 3) := by decide +kernel
theorem dX1_countChanged_73 : decode cX1_countChanged 73 = .ok (.aload_n 0, 1) := by decide +kernel
theorem dX1_countChanged_74 : decode cX1_countChanged 74 = .ok (.getfield 15, 3) := by decide +kernel
theorem dX1_countChanged_77 : decode cX1_countChanged 77 = .ok (.iconst 1, 1) := by decide +kernel
theorem dX1_countChanged_78 : decode cX1_countChanged 78 = .ok (.iload_n 2, 1) := by decide +kernel
theorem dX1_countChanged_79 : decode cX1_countChanged 79 = .ok (.iastore, 1) := by decide +kernel
theorem dX1_countChanged_80 : decode cX1_countChanged 80 = .ok (.aload_n 0, 1) := by decide +kernel
theorem dX1_countChanged_81 : decode cX1_countChanged 81 = .ok (.getfield 15, 3) := by decide +kernel
theorem dX1_countChanged_84 : decode cX1_countChanged 84 = .ok (.iconst 2, 1) := by decide +kernel
theorem dX1_countChanged_85 : decode cX1_countChanged 85 = .ok (.iload_n 3, 1) := by decide +kernel
theorem dX1_countChanged_86 : decode cX1_countChanged 86 = .ok (.iastore, 1) := by decide +kernel
theorem dX1_countChanged_87 : decode cX1_countChanged 87 = .ok (.aload_n 0, 1) := by decide +kernel
theorem dX1_countChanged_88 : decode cX1_countChanged 88 = .ok (.getfield 15, 3) := by decide +kernel
theorem dX1_countChanged_91 : decode cX1_countChanged 91 = .ok (.iconst 3, 1) := by decide +kernel
theorem dX1_countChanged_92 : decode cX1_countChanged 92 = .ok (.iload 4, 2) := by decide +kernel
theorem dX1_countChanged_94 : decode cX1_countChanged 94 = .ok (.iastore, 1) := by decide +kernel
theorem dX1_countChanged_95 : decode cX1_countChanged 95 = .ok (.return_, 1) := by decide +kernel
theorem dX1_slipsFor_0 : decode cX1_slipsFor 0 = .ok (.iload_n 1, 1) := by decide +kernel
theorem dX1_slipsFor_1 : decode cX1_slipsFor 1 = .ok (.iconst 1, 1) := by decide +kernel
theorem dX1_slipsFor_2 : decode cX1_slipsFor 2 = .ok (.if_icmp .ge 7, 3) := by decide +kernel
theorem dX1_slipsFor_5 : decode cX1_slipsFor 5 = .ok (.iconst 0, 1) := by decide +kernel
theorem dX1_slipsFor_6 : decode cX1_slipsFor 6 = .ok (.goto 10, 3) := by decide +kernel
theorem dX1_slipsFor_9 : decode cX1_slipsFor 9 = .ok (.iload_n 0, 1) := by decide +kernel
theorem dX1_slipsFor_10 : decode cX1_slipsFor 10 = .ok (.iload_n 1, 1) := by decide +kernel
theorem dX1_slipsFor_11 : decode cX1_slipsFor 11 = .ok (.iadd, 1) := by decide +kernel
theorem dX1_slipsFor_12 : decode cX1_slipsFor 12 = .ok (.iconst 1, 1) := by decide +kernel
theorem dX1_slipsFor_13 : decode cX1_slipsFor 13 = .ok (.isub, 1) := by decide +kernel
theorem dX1_slipsFor_14 : decode cX1_slipsFor 14 = .ok (.iload_n 1, 1) := by decide +kernel
theorem dX1_slipsFor_15 : decode cX1_slipsFor 15 = .ok (.idiv, 1) := by decide +kernel
theorem dX1_slipsFor_16 : decode cX1_slipsFor 16 = .ok (.ireturn, 1) := by decide +kernel
set_option maxRecDepth 20000 in
theorem ggX2_init_X0_init : GoodIn wsX2_init wsX0_init := goodIn_r _ [10, 11, 2, 3, 12, 13, 14, 15, 16, 17, 18, 19, 20, 21, 22, 23, 7, 24, 25, 26, 27, 28, 32, 33, 34, 35, 36, 37, 38, 39, 40, 41, 42] (by decide +kernel) (by decide +kernel)
set_option maxRecDepth 20000 in
theorem gX2_init_X0_init : GoodIn wsX2_init (wsX0_init) := ggX2_init_X0_init
theorem dX2_init_0 : decode cX2_init 0 = .ok (.aload_n 0, 1) := by decide +kernel
theorem dX2_init_1 : decode cX2_init 1 = .ok (.invokespecial 3, 3) := by decide +kernel
theorem dX2_init_4 : decode cX2_init 4 = .ok (.aload_n 0, 1) := by decide +kernel
theorem dX2_init_5 : decode cX2_init 5 = .ok (.bipush 8, 2) := by decide +kernel
theorem dX2_init_7 : decode cX2_init 7 = .ok (.anewarray 9, 3) := by decide +kernel
theorem dX2_init_10 : decode cX2_init 10 = .ok (.putfield 11, 3) := by decide +kernel
theorem dX2_init_13 : decode cX2_init 13 = .ok (.iconst 0, 1) := by decide +kernel
theorem dX2_init_14 : decode cX2_init 14 = .ok (.istore_n 1, 1) := by decide +kernel
theorem dX2_init_15 : decode cX2_init 15 = .ok (.iload_n 1, 1) := by decide +kernel
theorem dX2_init_16 : decode cX2_init 16 = .ok (.bipush 8, 2) := by decide +kernel
theorem dX2_init_18 : decode cX2_init 18 = .ok (.if_icmp .ge 22, 3) := by decide +kernel
theorem dX2_init_21 : decode cX2_init 21 = .ok (.aload_n 0, 1) := by decide +kernel
theorem dX2_init_22 : decode cX2_init 22 = .ok (.getfield 11, 3) := by decide +kernel
theorem dX2_init_25 : decode cX2_init 25 = .ok (.iload_n 1, 1) := by decide +kernel
theorem dX2_init_26 : decode cX2_init 26 = .ok (.new 9, 3) := by decide +kernel
theorem dX2_init_29 : decode cX2_init 29 = .ok (.dup, 1) := by decide +kernel
theorem dX2_init_30 : decode cX2_init 30 = .ok (.invokespecial 17, 3) := by decide +kernel
theorem dX2_init_33 : decode cX2_init 33 = .ok (.aastore, 1) := by decide +kernel
theorem dX2_init_34 : decode cX2_init 34 = .ok (.iinc 1 1, 3) := by decide +kernel
theorem dX2_init_37 : decode cX2_init 37 = .ok (.goto (-22), 3) := by decide +kernel
theorem dX2_init_40 : decode cX2_init 40 = .ok (.return_, 1) := by decide +kernel
set_option maxRecDepth 20000 in
theorem ggX2_remember_X0_copyFrom : GoodIn wsX2_remember wsX0_copyFrom := goodIn_r _ [12, 13, 14, 15, 16, 17, 18, 19, 20, 21, 22, 23, 24, 25, 26, 27, 31, 32, 33, 34, 35, 36, 37, 38, 39, 40, 41] (by decide +kernel) (by decide +kernel)
set_option maxRecDepth 20000 in
theorem gX2_remember_X0_copyFrom : GoodIn wsX2_remember (wsV RX2 22 RX0 yX0_copyFrom wsX0_copyFrom) := goodIn_app (goodIn_of _ (by decide +kernel)) ggX2_remember_X0_copyFrom
theorem dX2_remember_0 : decode cX2_remember 0 = .ok (.aload_n 0, 1) := by decide +kernel
theorem dX2_remember_1 : decode cX2_remember 1 = .ok (.getfield 18, 3) := by decide +kernel
theorem dX2_remember_4 : decode cX2_remember 4 = .ok (.ifCond .lt 12, 3) := by decide +kernel
theorem dX2_remember_7 : decode cX2_remember 7 = .ok (.aload_n 0, 1) := by decide +kernel
theorem dX2_remember_8 : decode cX2_remember 8 = .ok (.getfield 18, 3) := by decide +kernel
theorem dX2_remember_11 : decode cX2_remember 11 = .ok (.bipush 8, 2) := by decide +kernel
theorem dX2_remember_13 : decode cX2_remember 13 = .ok (.if_icmp .lt 4, 3) := by decide +kernel
theorem dX2_remember_16 : decode cX2_remember 16 = .ok (.return_, 1) := by decide +kernel
theorem dX2_remember_17 : decode cX2_remember 17 = .ok (.aload_n 0, 1) := by decide +kernel
theorem dX2_remember_18 : decode cX2_remember 18 = .ok (.getfield 11, 3) := by decide +kernel
theorem dX2_remember_21 : decode cX2_remember 21 = .ok (.aload_n 0, 1) := by decide +kernel
theorem dX2_remember_22 : decode cX2_remember 22 = .ok (.getfield 18, 3) := by decide +kernel
theorem dX2_remember_25 : decode cX2_remember 25 = .ok (.aaload, 1) := by decide +kernel
theorem dX2_remember_26 : decode cX2_remember 26 = .ok (.astore_n 2, 1) := by decide +kernel
theorem dX2_remember_27 : decode cX2_remember 27 = .ok (.aload_n 2, 1) := by decide +kernel
theorem dX2_remember_28 : decode cX2_remember 28 = .ok (.ifnonnull 4, 3) := by decide +kernel
theorem dX2_remember_31 : decode cX2_remember 31 = .ok (.return_, 1) := by decide +kernel
theorem dX2_remember_32 : decode cX2_remember 32 = .ok (.aload_n 2, 1) := by decide +kernel
theorem dX2_remember_33 : decode cX2_remember 33 = .ok (.aload_n 1, 1) := by decide +kernel
theorem dX2_remember_34 : decode cX2_remember 34 = .ok (.invokevirtual 22, 3) := by decide +kernel
theorem dX2_remember_37 : decode cX2_remember 37 = .ok (.aload_n 0, 1) := by decide +kernel
theorem dX2_remember_38 : decode cX2_remember 38 = .ok (.aload_n 0, 1) := by decide +kernel
theorem dX2_remember_39 : decode cX2_remember 39 = .ok (.getfield 18, 3) := by decide +kernel
theorem dX2_remember_42 : decode cX2_remember 42 = .ok (.bipush 7, 2) := by decide +kernel
theorem dX2_remember_44 : decode cX2_remember 44 = .ok (.if_icmp .ne 7, 3) := by decide +kernel
theorem dX2_remember_47 : decode cX2_remember 47 = .ok (.iconst 0, 1) := by decide +kernel
theorem dX2_remember_48 : decode cX2_remember 48 = .ok (.goto 9, 3) := by decide +kernel
theorem dX2_remember_51 : decode cX2_remember 51 = .ok (.aload_n 0, 1) := by decide +kernel
theorem dX2_remember_52 : decode cX2_remember 52 = .ok (.getfield 18, 3) := by decide +kernel
theorem dX2_remember_55 : decode cX2_remember 55 = .ok (.iconst 1, 1) := by decide +kernel
theorem dX2_remember_56 : decode cX2_remember 56 = .ok (.iadd, 1) := by decide +kernel
theorem dX2_remember_57 : decode cX2_remember 57 = .ok (.putfield 18, 3) := by decide +kernel
theorem dX2_remember_60 : decode cX2_remember 60 = .ok (.aload_n 0, 1) := by decide +kernel
theorem dX2_remember_61 : decode cX2_remember 61 = .ok (.aload_n 0, 1) := by decide +kernel
theorem dX2_remember_62 : decode cX2_remember 62 = .ok (.getfield 26, 3) := by decide +kernel
theorem dX2_remember_65 : decode cX2_remember 65 = .ok (.iconst 1, 1) := by decide +kernel
theorem dX2_remember_66 : decode cX2_remember 66 = .ok (.iadd, 1) := by decide +kernel
theorem dX2_remember_67 : decode cX2_remember 67 = .ok (.bipush 8, 2) := by decide +kernel
theorem dX2_remember_69 : decode cX2_remember 69 = .ok (.invokestatic 29, 3) := by decide +kernel
theorem dX2_remember_72 : decode cX2_remember 72 = .ok (.putfield 26, 3) := by decide +kernel
theorem dX2_remember_75 : decode cX2_remember 75 = .ok (.return_, 1) := by decide +kernel
set_option maxRecDepth 20000 in
theorem ggX2_bringBack_X0_copyFrom : GoodIn wsX2_bringBack wsX0_copyFrom := goodIn_r _ [8, 9, 10, 11, 12, 13, 14, 15, 16, 17, 18, 19, 20, 21, 22, 23, 27, 28, 29, 30, 31, 32, 33, 34, 35, 36, 37] (by decide +kernel) (by decide +kernel)
set_option maxRecDepth 20000 in
theorem gX2_bringBack_X0_copyFrom : GoodIn wsX2_bringBack (wsV RX2 22 RX0 yX0_copyFrom wsX0_copyFrom) := goodIn_app (goodIn_of _ (by decide +kernel)) ggX2_bringBack_X0_copyFrom
theorem dX2_bringBack_0 : decode cX2_bringBack 0 = .ok (.aload_n 0, 1) := by decide +kernel
theorem dX2_bringBack_1 : decode cX2_bringBack 1 = .ok (.getfield 18, 3) := by decide +kernel
theorem dX2_bringBack_4 : decode cX2_bringBack 4 = .ok (.ifCond .ne 8, 3) := by decide +kernel
theorem dX2_bringBack_7 : decode cX2_bringBack 7 = .ok (.bipush 7, 2) := by decide +kernel
theorem dX2_bringBack_9 : decode cX2_bringBack 9 = .ok (.goto 9, 3) := by decide +kernel
theorem dX2_bringBack_12 : decode cX2_bringBack 12 = .ok (.aload_n 0, 1) := by decide +kernel
theorem dX2_bringBack_13 : decode cX2_bringBack 13 = .ok (.getfield 18, 3) := by decide +kernel
theorem dX2_bringBack_16 : decode cX2_bringBack 16 = .ok (.iconst 1, 1) := by decide +kernel
theorem dX2_bringBack_17 : decode cX2_bringBack 17 = .ok (.isub, 1) := by decide +kernel
theorem dX2_bringBack_18 : decode cX2_bringBack 18 = .ok (.istore_n 2, 1) := by decide +kernel
theorem dX2_bringBack_19 : decode cX2_bringBack 19 = .ok (.aload_n 0, 1) := by decide +kernel
theorem dX2_bringBack_20 : decode cX2_bringBack 20 = .ok (.getfield 26, 3) := by decide +kernel
theorem dX2_bringBack_23 : decode cX2_bringBack 23 = .ok (.ifCond .le 13, 3) := by decide +kernel
theorem dX2_bringBack_26 : decode cX2_bringBack 26 = .ok (.iload_n 2, 1) := by decide +kernel
theorem dX2_bringBack_27 : decode cX2_bringBack 27 = .ok (.ifCond .lt 9, 3) := by decide +kernel
theorem dX2_bringBack_30 : decode cX2_bringBack 30 = .ok (.iload_n 2, 1) := by decide +kernel
theorem dX2_bringBack_31 : decode cX2_bringBack 31 = .ok (.bipush 8, 2) := by decide +kernel
theorem dX2_bringBack_33 : decode cX2_bringBack 33 = .ok (.if_icmp .lt 5, 3) := by decide +kernel
theorem dX2_bringBack_36 : decode cX2_bringBack 36 = .ok (.iconst (-1), 1) := by decide +kernel
theorem dX2_bringBack_37 : decode cX2_bringBack 37 = .ok (.ireturn, 1) := by decide +kernel
theorem dX2_bringBack_38 : decode cX2_bringBack 38 = .ok (.aload_n 0, 1) := by decide +kernel
theorem dX2_bringBack_39 : decode cX2_bringBack 39 = .ok (.getfield 11, 3) := by decide +kernel
theorem dX2_bringBack_42 : decode cX2_bringBack 42 = .ok (.iload_n 2, 1) := by decide +kernel
theorem dX2_bringBack_43 : decode cX2_bringBack 43 = .ok (.aaload, 1) := by decide +kernel
theorem dX2_bringBack_44 : decode cX2_bringBack 44 = .ok (.astore_n 3, 1) := by decide +kernel
theorem dX2_bringBack_45 : decode cX2_bringBack 45 = .ok (.aload_n 3, 1) := by decide +kernel
theorem dX2_bringBack_46 : decode cX2_bringBack 46 = .ok (.ifnonnull 5, 3) := by decide +kernel
theorem dX2_bringBack_49 : decode cX2_bringBack 49 = .ok (.iconst (-1), 1) := by decide +kernel
theorem dX2_bringBack_50 : decode cX2_bringBack 50 = .ok (.ireturn, 1) := by decide +kernel
theorem dX2_bringBack_51 : decode cX2_bringBack 51 = .ok (.aload_n 1, 1) := by decide +kernel
theorem dX2_bringBack_52 : decode cX2_bringBack 52 = .ok (.aload_n 3, 1) := by decide +kernel
theorem dX2_bringBack_53 : decode cX2_bringBack 53 = .ok (.invokevirtual 22, 3) := by decide +kernel
theorem dX2_bringBack_56 : decode cX2_bringBack 56 = .ok (.aload_n 0, 1) := by decide +kernel
theorem dX2_bringBack_57 : decode cX2_bringBack 57 = .ok (.iload_n 2, 1) := by decide +kernel
theorem dX2_bringBack_58 : decode cX2_bringBack 58 = .ok (.putfield 18, 3) := by decide +kernel
theorem dX2_bringBack_61 : decode cX2_bringBack 61 = .ok (.aload_n 0, 1) := by decide +kernel
theorem dX2_bringBack_62 : decode cX2_bringBack 62 = .ok (.dup, 1) := by decide +kernel
theorem dX2_bringBack_63 : decode cX2_bringBack 63 = .ok (.getfield 26, 3) := by decide +kernel
theorem dX2_bringBack_66 : decode cX2_bringBack 66 = .ok (.iconst 1, 1) := by decide +kernel
theorem dX2_bringBack_67 : decode cX2_bringBack 67 = .ok (.isub, 1) := by decide +kernel
theorem dX2_bringBack_68 : decode cX2_bringBack 68 = .ok (.putfield 26, 3) := by decide +kernel
theorem dX2_bringBack_71 : decode cX2_bringBack 71 = .ok (.aload_n 0, 1) := by decide +kernel
theorem dX2_bringBack_72 : decode cX2_bringBack 72 = .ok (.getfield 26, 3) := by decide +kernel
theorem dX2_bringBack_75 : decode cX2_bringBack 75 = .ok (.ireturn, 1) := by decide +kernel
theorem dX3_init_0 : decode cX3_init 0 = .ok (.aload_n 0, 1) := by decide +kernel
theorem dX3_init_1 : decode cX3_init 1 = .ok (.invokespecial 3, 3) := by decide +kernel
theorem dX3_init_4 : decode cX3_init 4 = .ok (.aload_n 0, 1) := by decide +kernel
theorem dX3_init_5 : decode cX3_init 5 = .ok (.bipush 24, 2) := by decide +kernel
theorem dX3_init_7 : decode cX3_init 7 = .ok (.newarray .int, 2) := by decide +kernel
theorem dX3_init_9 : decode cX3_init 9 = .ok (.putfield 9, 3) := by decide +kernel
theorem dX3_init_12 : decode cX3_init 12 = .ok (.aload_n 0, 1) := by decide +kernel
theorem dX3_init_13 : decode cX3_init 13 = .ok (.bipush 24, 2) := by decide +kernel
theorem dX3_init_15 : decode cX3_init 15 = .ok (.newarray .int, 2) := by decide +kernel
theorem dX3_init_17 : decode cX3_init 17 = .ok (.putfield 15, 3) := by decide +kernel
theorem dX3_init_20 : decode cX3_init 20 = .ok (.aload_n 0, 1) := by decide +kernel
theorem dX3_init_21 : decode cX3_init 21 = .ok (.bipush 24, 2) := by decide +kernel
theorem dX3_init_23 : decode cX3_init 23 = .ok (.newarray .int, 2) := by decide +kernel
theorem dX3_init_25 : decode cX3_init 25 = .ok (.putfield 18, 3) := by decide +kernel
theorem dX3_init_28 : decode cX3_init 28 = .ok (.aload_n 0, 1) := by decide +kernel
theorem dX3_init_29 : decode cX3_init 29 = .ok (.bipush 24, 2) := by decide +kernel
theorem dX3_init_31 : decode cX3_init 31 = .ok (.newarray .int, 2) := by decide +kernel
theorem dX3_init_33 : decode cX3_init 33 = .ok (.putfield 21, 3) := by decide +kernel
theorem dX3_init_36 : decode cX3_init 36 = .ok (.aload_n 0, 1) := by decide +kernel
theorem dX3_init_37 : decode cX3_init 37 = .ok (.bipush 24, 2) := by decide +kernel
theorem dX3_init_39 : decode cX3_init 39 = .ok (.newarray .int, 2) := by decide +kernel
theorem dX3_init_41 : decode cX3_init 41 = .ok (.putfield 24, 3) := by decide +kernel
theorem dX3_init_44 : decode cX3_init 44 = .ok (.aload_n 0, 1) := by decide +kernel
theorem dX3_init_45 : decode cX3_init 45 = .ok (.bipush 24, 2) := by decide +kernel
theorem dX3_init_47 : decode cX3_init 47 = .ok (.newarray .int, 2) := by decide +kernel
theorem dX3_init_49 : decode cX3_init 49 = .ok (.putfield 27, 3) := by decide +kernel
theorem dX3_init_52 : decode cX3_init 52 = .ok (.return_, 1) := by decide +kernel
set_option maxRecDepth 20000 in
theorem ggX3_lay_X3_place : GoodIn wsX3_lay wsX3_place := goodIn_r _ [11, 1, 12, 13, 14, 2, 3, 15, 16, 17, 22, 23, 24, 25, 26, 27, 28, 29, 30] (by decide +kernel) (by decide +kernel)
set_option maxRecDepth 20000 in
theorem gX3_lay_X3_place : GoodIn wsX3_lay (wsV RX3 51 RX3 yX3_place wsX3_place) := goodIn_app (goodIn_of _ (by decide +kernel)) ggX3_lay_X3_place
set_option maxRecDepth 20000 in
theorem ggX3_lay_X3_leaveOut : GoodIn wsX3_lay wsX3_leaveOut := goodIn_r _ [21, 15, 16, 17, 22, 23, 24, 25, 26, 27, 28, 29, 30] (by decide +kernel) (by decide +kernel)
set_option maxRecDepth 20000 in
theorem gX3_lay_X3_leaveOut : GoodIn wsX3_lay (wsV RX3 55 RX3 yX3_leaveOut wsX3_leaveOut) := goodIn_app (goodIn_of _ (by decide +kernel)) ggX3_lay_X3_leaveOut
theorem dX3_lay_0 : decode cX3_lay 0 = .ok (.aload_n 0, 1) := by decide +kernel
theorem dX3_lay_1 : decode cX3_lay 1 = .ok (.iconst 0, 1) := by decide +kernel
theorem dX3_lay_2 : decode cX3_lay 2 = .ok (.putfield 30, 3) := by decide +kernel
theorem dX3_lay_5 : decode cX3_lay 5 = .ok (.aload_n 0, 1) := by decide +kernel
theorem dX3_lay_6 : decode cX3_lay 6 = .ok (.iconst 0, 1) := by decide +kernel
theorem dX3_lay_7 : decode cX3_lay 7 = .ok (.putfield 34, 3) := by decide +kernel
theorem dX3_lay_10 : decode cX3_lay 10 = .ok (.aload_n 0, 1) := by decide +kernel
theorem dX3_lay_11 : decode cX3_lay 11 = .ok (.iconst 0, 1) := by decide +kernel
theorem dX3_lay_12 : decode cX3_lay 12 = .ok (.putfield 37, 3) := by decide +kernel
theorem dX3_lay_15 : decode cX3_lay 15 = .ok (.iconst 0, 1) := by decide +kernel
theorem dX3_lay_16 : decode cX3_lay 16 = .ok (.istore_n 3, 1) := by decide +kernel
theorem dX3_lay_17 : decode cX3_lay 17 = .ok (.iload_n 3, 1) := by decide +kernel
theorem dX3_lay_18 : decode cX3_lay 18 = .ok (.aload_n 1, 1) := by decide +kernel
theorem dX3_lay_19 : decode cX3_lay 19 = .ok (.getfield 40, 3) := by decide +kernel
theorem dX3_lay_22 : decode cX3_lay 22 = .ok (.if_icmp .ge 44, 3) := by decide +kernel
theorem dX3_lay_25 : decode cX3_lay 25 = .ok (.iload_n 3, 1) := by decide +kernel
theorem dX3_lay_26 : decode cX3_lay 26 = .ok (.aload_n 2, 1) := by decide +kernel
theorem dX3_lay_27 : decode cX3_lay 27 = .ok (.arraylength, 1) := by decide +kernel
theorem dX3_lay_28 : decode cX3_lay 28 = .ok (.if_icmp .ge 38, 3) := by decide +kernel
theorem dX3_lay_31 : decode cX3_lay 31 = .ok (.aload_n 2, 1) := by decide +kernel
theorem dX3_lay_32 : decode cX3_lay 32 = .ok (.iload_n 3, 1) := by decide +kernel
theorem dX3_lay_33 : decode cX3_lay 33 = .ok (.baload, 1) := by decide +kernel
theorem dX3_lay_34 : decode cX3_lay 34 = .ok (.ifCond .eq 21, 3) := by decide +kernel
theorem dX3_lay_37 : decode cX3_lay 37 = .ok (.aload_n 0, 1) := by decide +kernel
theorem dX3_lay_38 : decode cX3_lay 38 = .ok (.iload_n 3, 1) := by decide +kernel
theorem dX3_lay_39 : decode cX3_lay 39 = .ok (.aload_n 1, 1) := by decide +kernel
theorem dX3_lay_40 : decode cX3_lay 40 = .ok (.getfield 45, 3) := by decide +kernel
theorem dX3_lay_43 : decode cX3_lay 43 = .ok (.iload_n 3, 1) := by decide +kernel
theorem dX3_lay_44 : decode cX3_lay 44 = .ok (.iaload, 1) := by decide +kernel
theorem dX3_lay_45 : decode cX3_lay 45 = .ok (.aload_n 1, 1) := by decide +kernel
theorem dX3_lay_46 : decode cX3_lay 46 = .ok (.getfield 48, 3) := by decide +kernel
theorem dX3_lay_49 : decode cX3_lay 49 = .ok (.invokevirtual 51, 3) := by decide +kernel
theorem dX3_lay_52 : decode cX3_lay 52 = .ok (.goto 8, 3) := by decide +kernel
theorem dX3_lay_55 : decode cX3_lay 55 = .ok (.aload_n 0, 1) := by decide +kernel
theorem dX3_lay_56 : decode cX3_lay 56 = .ok (.iload_n 3, 1) := by decide +kernel
theorem dX3_lay_57 : decode cX3_lay 57 = .ok (.invokevirtual 55, 3) := by decide +kernel
theorem dX3_lay_60 : decode cX3_lay 60 = .ok (.iinc 3 1, 3) := by decide +kernel
theorem dX3_lay_63 : decode cX3_lay 63 = .ok (.goto (-46), 3) := by decide +kernel
theorem dX3_lay_66 : decode cX3_lay 66 = .ok (.return_, 1) := by decide +kernel
theorem dX3_leaveOut_0 : decode cX3_leaveOut 0 = .ok (.aload_n 0, 1) := by decide +kernel
theorem dX3_leaveOut_1 : decode cX3_leaveOut 1 = .ok (.getfield 9, 3) := by decide +kernel
theorem dX3_leaveOut_4 : decode cX3_leaveOut 4 = .ok (.iload_n 1, 1) := by decide +kernel
theorem dX3_leaveOut_5 : decode cX3_leaveOut 5 = .ok (.iconst 0, 1) := by decide +kernel
theorem dX3_leaveOut_6 : decode cX3_leaveOut 6 = .ok (.iastore, 1) := by decide +kernel
theorem dX3_leaveOut_7 : decode cX3_leaveOut 7 = .ok (.aload_n 0, 1) := by decide +kernel
theorem dX3_leaveOut_8 : decode cX3_leaveOut 8 = .ok (.getfield 15, 3) := by decide +kernel
theorem dX3_leaveOut_11 : decode cX3_leaveOut 11 = .ok (.iload_n 1, 1) := by decide +kernel
theorem dX3_leaveOut_12 : decode cX3_leaveOut 12 = .ok (.iconst (-1), 1) := by decide +kernel
theorem dX3_leaveOut_13 : decode cX3_leaveOut 13 = .ok (.iastore, 1) := by decide +kernel
theorem dX3_leaveOut_14 : decode cX3_leaveOut 14 = .ok (.aload_n 0, 1) := by decide +kernel
theorem dX3_leaveOut_15 : decode cX3_leaveOut 15 = .ok (.getfield 18, 3) := by decide +kernel
theorem dX3_leaveOut_18 : decode cX3_leaveOut 18 = .ok (.iload_n 1, 1) := by decide +kernel
theorem dX3_leaveOut_19 : decode cX3_leaveOut 19 = .ok (.iconst (-1), 1) := by decide +kernel
theorem dX3_leaveOut_20 : decode cX3_leaveOut 20 = .ok (.iastore, 1) := by decide +kernel
theorem dX3_leaveOut_21 : decode cX3_leaveOut 21 = .ok (.return_, 1) := by decide +kernel
theorem dX3_place_0 : decode cX3_place 0 = .ok (.aload_n 0, 1) := by decide +kernel
theorem dX3_place_1 : decode cX3_place 1 = .ok (.getfield 30, 3) := by decide +kernel
theorem dX3_place_4 : decode cX3_place 4 = .ok (.ifCond .le 24, 3) := by decide +kernel
theorem dX3_place_7 : decode cX3_place 7 = .ok (.aload_n 0, 1) := by decide +kernel
theorem dX3_place_8 : decode cX3_place 8 = .ok (.getfield 21, 3) := by decide +kernel
theorem dX3_place_11 : decode cX3_place 11 = .ok (.aload_n 0, 1) := by decide +kernel
theorem dX3_place_12 : decode cX3_place 12 = .ok (.getfield 30, 3) := by decide +kernel
theorem dX3_place_15 : decode cX3_place 15 = .ok (.iconst 1, 1) := by decide +kernel
theorem dX3_place_16 : decode cX3_place 16 = .ok (.isub, 1) := by decide +kernel
theorem dX3_place_17 : decode cX3_place 17 = .ok (.iaload, 1) := by decide +kernel
theorem dX3_place_18 : decode cX3_place 18 = .ok (.iload_n 2, 1) := by decide +kernel
theorem dX3_place_19 : decode cX3_place 19 = .ok (.iadd, 1) := by decide +kernel
theorem dX3_place_20 : decode cX3_place 20 = .ok (.iload_n 3, 1) := by decide +kernel
theorem dX3_place_21 : decode cX3_place 21 = .ok (.if_icmp .gt 7, 3) := by decide +kernel
theorem dX3_place_24 : decode cX3_place 24 = .ok (.iconst 1, 1) := by decide +kernel
theorem dX3_place_25 : decode cX3_place 25 = .ok (.goto 4, 3) := by decide +kernel
theorem dX3_place_28 : decode cX3_place 28 = .ok (.iconst 0, 1) := by decide +kernel
theorem dX3_place_29 : decode cX3_place 29 = .ok (.istore 4, 2) := by decide +kernel
theorem dX3_place_31 : decode cX3_place 31 = .ok (.iload 4, 2) := by decide +kernel
theorem dX3_place_33 : decode cX3_place 33 = .ok (.ifCond .ne 52, 3) := by decide +kernel
theorem dX3_place_36 : decode cX3_place 36 = .ok (.aload_n 0, 1) := by decide +kernel
theorem dX3_place_37 : decode cX3_place 37 = .ok (.getfield 30, 3) := by decide +kernel
theorem dX3_place_40 : decode cX3_place 40 = .ok (.bipush 24, 2) := by decide +kernel
theorem dX3_place_42 : decode cX3_place 42 = .ok (.if_icmp .ge 43, 3) := by decide +kernel
theorem dX3_place_45 : decode cX3_place 45 = .ok (.aload_n 0, 1) := by decide +kernel
theorem dX3_place_46 : decode cX3_place 46 = .ok (.getfield 21, 3) := by decide +kernel
theorem dX3_place_49 : decode cX3_place 49 = .ok (.aload_n 0, 1) := by decide +kernel
theorem dX3_place_50 : decode cX3_place 50 = .ok (.getfield 30, 3) := by decide +kernel
theorem dX3_place_53 : decode cX3_place 53 = .ok (.iconst 0, 1) := by decide +kernel
theorem dX3_place_54 : decode cX3_place 54 = .ok (.iastore, 1) := by decide +kernel
theorem dX3_place_55 : decode cX3_place 55 = .ok (.aload_n 0, 1) := by decide +kernel
theorem dX3_place_56 : decode cX3_place 56 = .ok (.getfield 24, 3) := by decide +kernel
theorem dX3_place_59 : decode cX3_place 59 = .ok (.aload_n 0, 1) := by decide +kernel
theorem dX3_place_60 : decode cX3_place 60 = .ok (.getfield 30, 3) := by decide +kernel
theorem dX3_place_63 : decode cX3_place 63 = .ok (.iconst 0, 1) := by decide +kernel
theorem dX3_place_64 : decode cX3_place 64 = .ok (.iastore, 1) := by decide +kernel
theorem dX3_place_65 : decode cX3_place 65 = .ok (.aload_n 0, 1) := by decide +kernel
theorem dX3_place_66 : decode cX3_place 66 = .ok (.getfield 27, 3) := by decide +kernel
theorem dX3_place_69 : decode cX3_place 69 = .ok (.aload_n 0, 1) := by decide +kernel
theorem dX3_place_70 : decode cX3_place 70 = .ok (.getfield 30, 3) := by decide +kernel
theorem dX3_place_73 : decode cX3_place 73 = .ok (.iload_n 1, 1) := by decide +kernel
theorem dX3_place_74 : decode cX3_place 74 = .ok (.iastore, 1) := by decide +kernel
theorem dX3_place_75 : decode cX3_place 75 = .ok (.aload_n 0, 1) := by decide +kernel
theorem dX3_place_76 : decode cX3_place 76 = .ok (.dup, 1) := by decide +kernel
theorem dX3_place_77 : decode cX3_place 77 = .ok (.getfield 30, 3) := by decide +kernel
theorem dX3_place_80 : decode cX3_place 80 = .ok (.iconst 1, 1) := by decide +kernel
theorem dX3_place_81 : decode cX3_place 81 = .ok (.iadd, 1) := by decide +kernel
theorem dX3_place_82 : decode cX3_place 82 = .ok (.putfield 30, 3) := by decide +kernel
theorem dX3_place_85 : decode cX3_place 85 = .ok (.aload_n 0, 1) := by decide +kernel
theorem dX3_place_86 : decode cX3_place 86 = .ok (.getfield 30, 3) := by decide +kernel
theorem dX3_place_89 : decode cX3_place 89 = .ok (.iconst 1, 1) := by decide +kernel
theorem dX3_place_90 : decode cX3_place 90 = .ok (.isub, 1) := by decide +kernel
theorem dX3_place_91 : decode cX3_place 91 = .ok (.istore 5, 2) := by decide +kernel
theorem dX3_place_93 : decode cX3_place 93 = .ok (.aload_n 0, 1) := by decide +kernel
theorem dX3_place_94 : decode cX3_place 94 = .ok (.dup, 1) := by decide +kernel
theorem dX3_place_95 : decode cX3_place 95 = .ok (.getfield 34, 3) := by decide +kernel
theorem dX3_place_98 : decode cX3_place 98 = .ok (.iconst 1, 1) := by decide +kernel
theorem dX3_place_99 : decode cX3_place 99 = .ok (.iadd, 1) := by decide +kernel
theorem dX3_place_100 : decode cX3_place 100 = .ok (.putfield 34, 3) := by decide +kernel
theorem dX3_place_103 : decode cX3_place 103 = .ok (.aload_n 0, 1) := by decide +kernel
theorem dX3_place_104 : decode cX3_place 104 = .ok (.dup, 1) := by decide +kernel
theorem dX3_place_105 : decode cX3_place 105 = .ok (.getfield 37, 3) := by decide +kernel
theorem dX3_place_108 : decode cX3_place 108 = .ok (.iload_n 2, 1) := by decide +kernel
theorem dX3_place_109 : decode cX3_place 109 = .ok (.iadd, 1) := by decide +kernel
theorem dX3_place_110 : decode cX3_place 110 = .ok (.putfield 37, 3) := by decide +kernel
theorem dX3_place_113 : decode cX3_place 113 = .ok (.aload_n 0, 1) := by decide +kernel
theorem dX3_place_114 : decode cX3_place 114 = .ok (.getfield 9, 3) := by decide +kernel
theorem dX3_place_117 : decode cX3_place 117 = .ok (.iload_n 1, 1) := by decide +kernel
theorem dX3_place_118 : decode cX3_place 118 = .ok (.aload_n 0, 1) := by decide +kernel
theorem dX3_place_119 : decode cX3_place 119 = .ok (.getfield 34, 3) := by decide +kernel
theorem dX3_place_122 : decode cX3_place 122 = .ok (.iastore, 1) := by decide +kernel
theorem dX3_place_123 : decode cX3_place 123 = .ok (.aload_n 0, 1) := by decide +kernel
theorem dX3_place_124 : decode cX3_place 124 = .ok (.getfield 15, 3) := by decide +kernel
theorem dX3_place_127 : decode cX3_place 127 = .ok (.iload_n 1, 1) := by decide +kernel
theorem dX3_place_128 : decode cX3_place 128 = .ok (.iload 5, 2) := by decide +kernel
theorem dX3_place_130 : decode cX3_place 130 = .ok (.iastore, 1) := by decide +kernel
theorem dX3_place_131 : decode cX3_place 131 = .ok (.aload_n 0, 1) := by decide +kernel
theorem dX3_place_132 : decode cX3_place 132 = .ok (.getfield 18, 3) := by decide +kernel
theorem dX3_place_135 : decode cX3_place 135 = .ok (.iload_n 1, 1) := by decide +kernel
theorem dX3_place_136 : decode cX3_place 136 = .ok (.aload_n 0, 1) := by decide +kernel
theorem dX3_place_137 : decode cX3_place 137 = .ok (.getfield 21, 3) := by decide +kernel
theorem dX3_place_140 : decode cX3_place 140 = .ok (.iload 5, 2) := by decide +kernel
theorem dX3_place_142 : decode cX3_place 142 = .ok (.iaload, 1) := by decide +kernel
theorem dX3_place_143 : decode cX3_place 143 = .ok (.iastore, 1) := by decide +kernel
theorem dX3_place_144 : decode cX3_place 144 = .ok (.aload_n 0, 1) := by decide +kernel
theorem dX3_place_145 : decode cX3_place 145 = .ok (.getfield 21, 3) := by decide +kernel
theorem dX3_place_148 : decode cX3_place 148 = .ok (.iload 5, 2) := by decide +kernel
theorem dX3_place_150 : decode cX3_place 150 = .ok (.dup2, 1) := by decide +kernel
theorem dX3_place_151 : decode cX3_place 151 = .ok (.iaload, 1) := by decide +kernel
theorem dX3_place_152 : decode cX3_place 152 = .ok (.iload_n 2, 1) := by decide +kernel
theorem dX3_place_153 : decode cX3_place 153 = .ok (.iadd, 1) := by decide +kernel
theorem dX3_place_154 : decode cX3_place 154 = .ok (.iastore, 1) := by decide +kernel
theorem dX3_place_155 : decode cX3_place 155 = .ok (.aload_n 0, 1) := by decide +kernel
theorem dX3_place_156 : decode cX3_place 156 = .ok (.getfield 24, 3) := by decide +kernel
theorem dX3_place_159 : decode cX3_place 159 = .ok (.iload 5, 2) := by decide +kernel
theorem dX3_place_161 : decode cX3_place 161 = .ok (.dup2, 1) := by decide +kernel
theorem dX3_place_162 : decode cX3_place 162 = .ok (.iaload, 1) := by decide +kernel
theorem dX3_place_163 : decode cX3_place 163 = .ok (.iconst 1, 1) := by decide +kernel
theorem dX3_place_164 : decode cX3_place 164 = .ok (.iadd, 1) := by decide +kernel
theorem dX3_place_165 : decode cX3_place 165 = .ok (.iastore, 1) := by decide +kernel
theorem dX3_place_166 : decode cX3_place 166 = .ok (.return_, 1) := by decide +kernel
theorem dX3_gatherings_0 : decode cX3_gatherings 0 = .ok (.aload_n 0, 1) := by decide +kernel
theorem dX3_gatherings_1 : decode cX3_gatherings 1 = .ok (.getfield 30, 3) := by decide +kernel
theorem dX3_gatherings_4 : decode cX3_gatherings 4 = .ok (.iconst 4, 1) := by decide +kernel
theorem dX3_gatherings_5 : decode cX3_gatherings 5 = .ok (.iadd, 1) := by decide +kernel
theorem dX3_gatherings_6 : decode cX3_gatherings 6 = .ok (.iconst 1, 1) := by decide +kernel
theorem dX3_gatherings_7 : decode cX3_gatherings 7 = .ok (.isub, 1) := by decide +kernel
theorem dX3_gatherings_8 : decode cX3_gatherings 8 = .ok (.iconst 4, 1) := by decide +kernel
theorem dX3_gatherings_9 : decode cX3_gatherings 9 = .ok (.idiv, 1) := by decide +kernel
theorem dX3_gatherings_10 : decode cX3_gatherings 10 = .ok (.ireturn, 1) := by decide +kernel
theorem dX3_linesUsedOn_0 : decode cX3_linesUsedOn 0 = .ok (.iload_n 1, 1) := by decide +kernel
theorem dX3_linesUsedOn_1 : decode cX3_linesUsedOn 1 = .ok (.ifCond .lt 20, 3) := by decide +kernel
theorem dX3_linesUsedOn_4 : decode cX3_linesUsedOn 4 = .ok (.iload_n 1, 1) := by decide +kernel
theorem dX3_linesUsedOn_5 : decode cX3_linesUsedOn 5 = .ok (.aload_n 0, 1) := by decide +kernel
theorem dX3_linesUsedOn_6 : decode cX3_linesUsedOn 6 = .ok (.getfield 30, 3) := by decide +kernel
theorem dX3_linesUsedOn_9 : decode cX3_linesUsedOn 9 = .ok (.if_icmp .ge 12, 3) := by decide +kernel
theorem dX3_linesUsedOn_12 : decode cX3_linesUsedOn 12 = .ok (.aload_n 0, 1) := by decide +kernel
theorem dX3_linesUsedOn_13 : decode cX3_linesUsedOn 13 = .ok (.getfield 21, 3) := by decide +kernel
theorem dX3_linesUsedOn_16 : decode cX3_linesUsedOn 16 = .ok (.iload_n 1, 1) := by decide +kernel
theorem dX3_linesUsedOn_17 : decode cX3_linesUsedOn 17 = .ok (.iaload, 1) := by decide +kernel
theorem dX3_linesUsedOn_18 : decode cX3_linesUsedOn 18 = .ok (.goto 4, 3) := by decide +kernel
theorem dX3_linesUsedOn_21 : decode cX3_linesUsedOn 21 = .ok (.iconst 0, 1) := by decide +kernel
theorem dX3_linesUsedOn_22 : decode cX3_linesUsedOn 22 = .ok (.ireturn, 1) := by decide +kernel
theorem dX3_blankLinesAheadOfLastPage_0 : decode cX3_blankLinesAheadOfLastPage 0 = .ok (.iconst 0, 1) := by decide +kernel
theorem dX3_blankLinesAheadOfLastPage_1 : decode cX3_blankLinesAheadOfLastPage 1 = .ok (.istore_n 2, 1) := by decide +kernel
theorem dX3_blankLinesAheadOfLastPage_2 : decode cX3_blankLinesAheadOfLastPage 2 = .ok (.iconst 0, 1) := by decide +kernel
theorem dX3_blankLinesAheadOfLastPage_3 : decode cX3_blankLinesAheadOfLastPage 3 = .ok (.istore_n 3, 1) := by decide +kernel
theorem dX3_blankLinesAheadOfLastPage_4 : decode cX3_blankLinesAheadOfLastPage 4 = .ok (.iload_n 3, 1) := by decide +kernel
theorem dX3_blankLinesAheadOfLastPage_5 : decode cX3_blankLinesAheadOfLastPage 5 = .ok (.aload_n 0, 1) := by decide +kernel
theorem dX3_blankLinesAheadOfLastPage_6 : decode cX3_blankLinesAheadOfLastPage 6 = .ok (.getfield 30, 3) := by decide +kernel
theorem dX3_blankLinesAheadOfLastPage_9 : decode cX3_blankLinesAheadOfLastPage 9 = .ok (.iconst 1, 1) := by decide +kernel
theorem dX3_blankLinesAheadOfLastPage_10 : decode cX3_blankLinesAheadOfLastPage 10 = .ok (.isub, 1) := by decide +kernel
theorem dX3_blankLinesAheadOfLastPage_11 : decode cX3_blankLinesAheadOfLastPage 11 = .ok (.if_icmp .ge 20, 3) := by decide +kernel
theorem dX3_blankLinesAheadOfLastPage_14 : decode cX3_blankLinesAheadOfLastPage 14 = .ok (.iload_n 2, 1) := by decide +kernel
theorem dX3_blankLinesAheadOfLastPage_15 : decode cX3_blankLinesAheadOfLastPage 15 = .ok (.iload_n 1, 1) := by decide +kernel
theorem dX3_blankLinesAheadOfLastPage_16 : decode cX3_blankLinesAheadOfLastPage 16 = .ok (.aload_n 0, 1) := by decide +kernel
theorem dX3_blankLinesAheadOfLastPage_17 : decode cX3_blankLinesAheadOfLastPage 17 = .ok (.getfield 21, 3) := by decide +kernel
theorem dX3_blankLinesAheadOfLastPage_20 : decode cX3_blankLinesAheadOfLastPage 20 = .ok (.iload_n 3, 1) := by decide +kernel
theorem dX3_blankLinesAheadOfLastPage_21 : decode cX3_blankLinesAheadOfLastPage 21 = .ok (.iaload, 1) := by decide +kernel
theorem dX3_blankLinesAheadOfLastPage_22 : decode cX3_blankLinesAheadOfLastPage 22 = .ok (.isub, 1) := by decide +kernel
theorem dX3_blankLinesAheadOfLastPage_23 : decode cX3_blankLinesAheadOfLastPage 23 = .ok (.iadd, 1) := by decide +kernel
theorem dX3_blankLinesAheadOfLastPage_24 : decode cX3_blankLinesAheadOfLastPage 24 = .ok (.istore_n 2, 1) := by decide +kernel
theorem dX3_blankLinesAheadOfLastPage_25 : decode cX3_blankLinesAheadOfLastPage 25 = .ok (.iinc 3 1, 3) := by decide +kernel
theorem dX3_blankLinesAheadOfLastPage_28 : decode cX3_blankLinesAheadOfLastPage 28 = .ok (.goto (-24), 3) := by decide +kernel
theorem dX3_blankLinesAheadOfLastPage_31 : decode cX3_blankLinesAheadOfLastPage 31 = .ok (.iload_n 2, 1) := by decide +kernel
theorem dX3_blankLinesAheadOfLastPage_32 : decode cX3_blankLinesAheadOfLastPage 32 = .ok (.ireturn, 1) := by decide +kernel
