theorem dX6_load_98 : decode cX6_load 98 = .ok (.bipush 59, 2) := by decide +kernel
theorem dX6_load_100 : decode cX6_load 100 = .ok (.invokevirtual 149, 3) := by decide +kernel
theorem dX6_load_103 : decode cX6_load 103 = .ok (.aload_n 0, 1) := by decide +kernel
theorem dX6_load_104 : decode cX6_load 104 = .ok (.invokevirtual 86, 3) := by decide +kernel
theorem dX6_load_107 : decode cX6_load 107 = .ok (.ifCond .eq 18, 3) := by decide +kernel
theorem dX6_load_110 : decode cX6_load 110 = .ok (.aload_n 0, 1) := by decide +kernel
theorem dX6_load_111 : decode cX6_load 111 = .ok (.invokevirtual 90, 3) := by decide +kernel
theorem dX6_load_114 : decode cX6_load 114 = .ok (.iconst (-1), 1) := by decide +kernel
theorem dX6_load_115 : decode cX6_load 115 = .ok (.if_icmp .eq 10, 3) := by decide +kernel
theorem dX6_load_118 : decode cX6_load 118 = .ok (.aload_n 0, 1) := by decide +kernel
theorem dX6_load_119 : decode cX6_load 119 = .ok (.invokevirtual 158, 3) := by decide +kernel
theorem dX6_load_122 : decode cX6_load 122 = .ok (.goto (-19), 3) := by decide +kernel
theorem dX6_load_125 : decode cX6_load 125 = .ok (.aload_n 0, 1) := by decide +kernel
theorem dX6_load_126 : decode cX6_load 126 = .ok (.aload_n 0, 1) := by decide +kernel
theorem dX6_load_127 : decode cX6_load 127 = .ok (.getfield 79, 3) := by decide +kernel
theorem dX6_load_130 : decode cX6_load 130 = .ok (.putfield 13, 3) := by decide +kernel
theorem dX6_load_133 : decode cX6_load 133 = .ok (.aload_n 0, 1) := by decide +kernel
theorem dX6_load_134 : decode cX6_load 134 = .ok (.invokevirtual 86, 3) := by decide +kernel
theorem dX6_load_137 : decode cX6_load 137 = .ok (.ifCond .ne 8, 3) := by decide +kernel
theorem dX6_load_140 : decode cX6_load 140 = .ok (.aload_n 0, 1) := by decide +kernel
theorem dX6_load_141 : decode cX6_load 141 = .ok (.getfield 76, 3) := by decide +kernel
theorem dX6_load_144 : decode cX6_load 144 = .ok (.ireturn, 1) := by decide +kernel
theorem dX6_load_145 : decode cX6_load 145 = .ok (.aload_n 0, 1) := by decide +kernel
theorem dX6_load_146 : decode cX6_load 146 = .ok (.invokevirtual 161, 3) := by decide +kernel
theorem dX6_load_149 : decode cX6_load 149 = .ok (.aload_n 0, 1) := by decide +kernel
theorem dX6_load_150 : decode cX6_load 150 = .ok (.getfield 20, 3) := by decide +kernel
theorem dX6_load_153 : decode cX6_load 153 = .ok (.aload_n 0, 1) := by decide +kernel
theorem dX6_load_154 : decode cX6_load 154 = .ok (.getfield 17, 3) := by decide +kernel
theorem dX6_load_157 : decode cX6_load 157 = .ok (.invokestatic 164, 3) := by decide +kernel
theorem dX6_load_160 : decode cX6_load 160 = .ok (.aload_n 0, 1) := by decide +kernel
theorem dX6_load_161 : decode cX6_load 161 = .ok (.getfield 17, 3) := by decide +kernel
theorem dX6_load_164 : decode cX6_load 164 = .ok (.iconst 1, 1) := by decide +kernel
theorem dX6_load_165 : decode cX6_load 165 = .ok (.iaload, 1) := by decide +kernel
theorem dX6_load_166 : decode cX6_load 166 = .ok (.ireturn, 1) := by decide +kernel
theorem dX6_errorOffset_0 : decode cX6_errorOffset 0 = .ok (.aload_n 0, 1) := by decide +kernel
theorem dX6_errorOffset_1 : decode cX6_errorOffset 1 = .ok (.iconst 0, 1) := by decide +kernel
theorem dX6_errorOffset_2 : decode cX6_errorOffset 2 = .ok (.putfield 53, 3) := by decide +kernel
theorem dX6_errorOffset_5 : decode cX6_errorOffset 5 = .ok (.aload_n 0, 1) := by decide +kernel
theorem dX6_errorOffset_6 : decode cX6_errorOffset 6 = .ok (.getfield 13, 3) := by decide +kernel
theorem dX6_errorOffset_9 : decode cX6_errorOffset 9 = .ok (.ireturn, 1) := by decide +kernel
set_option maxRecDepth 20000 in
theorem ggX6_of_X6_lotAt : GoodIn wsX6_of wsX6_lotAt := goodIn_r _ [5] (by decide +kernel) (by decide +kernel)
set_option maxRecDepth 20000 in
theorem gX6_of_X6_lotAt : GoodIn wsX6_of (va_wsS RX6 56 yX6_lotAt wsX6_lotAt) := goodIn_app (goodIn_of _ (by decide +kernel)) ggX6_of_X6_lotAt
theorem dX6_of_0 : decode cX6_of 0 = .ok (.aload_n 0, 1) := by decide +kernel
theorem dX6_of_1 : decode cX6_of 1 = .ok (.getfield 17, 3) := by decide +kernel
theorem dX6_of_4 : decode cX6_of 4 = .ok (.iload_n 1, 1) := by decide +kernel
theorem dX6_of_5 : decode cX6_of 5 = .ok (.invokestatic 56, 3) := by decide +kernel
theorem dX6_of_8 : decode cX6_of 8 = .ok (.iload_n 2, 1) := by decide +kernel
theorem dX6_of_9 : decode cX6_of 9 = .ok (.iadd, 1) := by decide +kernel
theorem dX6_of_10 : decode cX6_of 10 = .ok (.iaload, 1) := by decide +kernel
theorem dX6_of_11 : decode cX6_of 11 = .ok (.ireturn, 1) := by decide +kernel
set_option maxRecDepth 20000 in
theorem ggX6_set_X6_lotAt : GoodIn wsX6_set wsX6_lotAt := goodIn_r _ [5] (by decide +kernel) (by decide +kernel)
set_option maxRecDepth 20000 in
theorem gX6_set_X6_lotAt : GoodIn wsX6_set (va_wsS RX6 56 yX6_lotAt wsX6_lotAt) := goodIn_app (goodIn_of _ (by decide +kernel)) ggX6_set_X6_lotAt
theorem dX6_set_0 : decode cX6_set 0 = .ok (.aload_n 0, 1) := by decide +kernel
theorem dX6_set_1 : decode cX6_set 1 = .ok (.getfield 17, 3) := by decide +kernel
theorem dX6_set_4 : decode cX6_set 4 = .ok (.iload_n 1, 1) := by decide +kernel
theorem dX6_set_5 : decode cX6_set 5 = .ok (.invokestatic 56, 3) := by decide +kernel
theorem dX6_set_8 : decode cX6_set 8 = .ok (.iload_n 2, 1) := by decide +kernel
theorem dX6_set_9 : decode cX6_set 9 = .ok (.iadd, 1) := by decide +kernel
theorem dX6_set_10 : decode cX6_set 10 = .ok (.iload_n 3, 1) := by decide +kernel
theorem dX6_set_11 : decode cX6_set 11 = .ok (.iastore, 1) := by decide +kernel
theorem dX6_set_12 : decode cX6_set 12 = .ok (.return_, 1) := by decide +kernel
set_option maxRecDepth 20000 in
theorem ggX6_isPrinted_X6_of : GoodIn wsX6_isPrinted wsX6_of := goodIn_r _ [5, 6, 7, 8, 4, 9, 10, 11, 12, 13, 14, 15, 16, 17, 18, 19, 20, 21, 22, 23, 24, 25, 26, 27, 28, 29, 30, 31] (by decide +kernel) (by decide +kernel)
set_option maxRecDepth 20000 in
theorem gX6_isPrinted_X6_of : GoodIn wsX6_isPrinted (wsV RX6 168 RX6 yX6_of wsX6_of) := goodIn_app (goodIn_of _ (by decide +kernel)) ggX6_isPrinted_X6_of
theorem dX6_isPrinted_0 : decode cX6_isPrinted 0 = .ok (.aload_n 0, 1) := by decide +kernel
theorem dX6_isPrinted_1 : decode cX6_isPrinted 1 = .ok (.iload_n 1, 1) := by decide +kernel
theorem dX6_isPrinted_2 : decode cX6_isPrinted 2 = .ok (.iconst 3, 1) := by decide +kernel
theorem dX6_isPrinted_3 : decode cX6_isPrinted 3 = .ok (.invokevirtual 168, 3) := by decide +kernel
theorem dX6_isPrinted_6 : decode cX6_isPrinted 6 = .ok (.iconst 1, 1) := by decide +kernel
theorem dX6_isPrinted_7 : decode cX6_isPrinted 7 = .ok (.if_icmp .ne 7, 3) := by decide +kernel
theorem dX6_isPrinted_10 : decode cX6_isPrinted 10 = .ok (.iconst 1, 1) := by decide +kernel
theorem dX6_isPrinted_11 : decode cX6_isPrinted 11 = .ok (.goto 4, 3) := by decide +kernel
theorem dX6_isPrinted_14 : decode cX6_isPrinted 14 = .ok (.iconst 0, 1) := by decide +kernel
theorem dX6_isPrinted_15 : decode cX6_isPrinted 15 = .ok (.ireturn, 1) := by decide +kernel
set_option maxRecDepth 20000 in
theorem ggX6_lay_X6_isPrinted : GoodIn wsX6_lay wsX6_isPrinted := goodIn_r _ [11, 12, 13, 14, 10, 15, 1, 16, 17, 18, 19, 20, 21, 22, 23, 24, 25, 26, 27, 28, 29, 30, 31, 32, 33, 34, 35, 36, 37, 38, 39, 40] (by decide +kernel) (by decide +kernel)
set_option maxRecDepth 20000 in
theorem gX6_lay_X6_isPrinted : GoodIn wsX6_lay (wsV RX6 174 RX6 yX6_isPrinted wsX6_isPrinted) := goodIn_app (goodIn_of _ (by decide +kernel)) ggX6_lay_X6_isPrinted
set_option maxRecDepth 20000 in
theorem ggX6_lay_X6_of : GoodIn wsX6_lay wsX6_of := goodIn_r _ [15, 1, 16, 17, 10, 18, 19, 20, 21, 22, 23, 24, 25, 26, 27, 28, 29, 30, 31, 32, 33, 34, 35, 36, 37, 38, 39, 40] (by decide +kernel) (by decide +kernel)
set_option maxRecDepth 20000 in
theorem gX6_lay_X6_of : GoodIn wsX6_lay (wsV RX6 168 RX6 yX6_of wsX6_of) := goodIn_app (goodIn_of _ (by decide +kernel)) ggX6_lay_X6_of
theorem dX6_lay_0 : decode cX6_lay 0 = .ok (.aload_n 0, 1) := by decide +kernel
theorem dX6_lay_1 : decode cX6_lay 1 = .ok (.getfield 17, 3) := by decide +kernel
theorem dX6_lay_4 : decode cX6_lay 4 = .ok (.iconst 0, 1) := by decide +kernel
theorem dX6_lay_5 : decode cX6_lay 5 = .ok (.iaload, 1) := by decide +kernel
theorem dX6_lay_6 : decode cX6_lay 6 = .ok (.istore_n 1, 1) := by decide +kernel
theorem dX6_lay_7 : decode cX6_lay 7 = .ok (.iconst 0, 1) := by decide +kernel
theorem dX6_lay_8 : decode cX6_lay 8 = .ok (.istore_n 2, 1) := by decide +kernel
theorem dX6_lay_9 : decode cX6_lay 9 = .ok (.iconst 0, 1) := by decide +kernel
theorem dX6_lay_10 : decode cX6_lay 10 = .ok (.istore_n 3, 1) := by decide +kernel
theorem dX6_lay_11 : decode cX6_lay 11 = .ok (.aload_n 0, 1) := by decide +kernel
theorem dX6_lay_12 : decode cX6_lay 12 = .ok (.iconst 0, 1) := by decide +kernel
theorem dX6_lay_13 : decode cX6_lay 13 = .ok (.putfield 171, 3) := by decide +kernel
theorem dX6_lay_16 : decode cX6_lay 16 = .ok (.iconst 0, 1) := by decide +kernel
theorem dX6_lay_17 : decode cX6_lay 17 = .ok (.istore 4, 2) := by decide +kernel
theorem dX6_lay_19 : decode cX6_lay 19 = .ok (.iload 4, 2) := by decide +kernel
theorem dX6_lay_21 : decode cX6_lay 21 = .ok (.sipush 960, 3) := by decide +kernel
theorem dX6_lay_24 : decode cX6_lay 24 = .ok (.if_icmp .ge 17, 3) := by decide +kernel
theorem dX6_lay_27 : decode cX6_lay 27 = .ok (.aload_n 0, 1) := by decide +kernel
theorem dX6_lay_28 : decode cX6_lay 28 = .ok (.getfield 37, 3) := by decide +kernel
theorem dX6_lay_31 : decode cX6_lay 31 = .ok (.iload 4, 2) := by decide +kernel
theorem dX6_lay_33 : decode cX6_lay 33 = .ok (.iconst (-1), 1) := by decide +kernel
theorem dX6_lay_34 : decode cX6_lay 34 = .ok (.iastore, 1) := by decide +kernel
theorem dX6_lay_35 : decode cX6_lay 35 = .ok (.iinc 4 1, 3) := by decide +kernel
theorem dX6_lay_38 : decode cX6_lay 38 = .ok (.goto (-19), 3) := by decide +kernel
theorem dX6_lay_41 : decode cX6_lay 41 = .ok (.iconst 0, 1) := by decide +kernel
theorem dX6_lay_42 : decode cX6_lay 42 = .ok (.istore 4, 2) := by decide +kernel
theorem dX6_lay_44 : decode cX6_lay 44 = .ok (.iload 4, 2) := by decide +kernel
theorem dX6_lay_46 : decode cX6_lay 46 = .ok (.aload_n 0, 1) := by decide +kernel
theorem dX6_lay_47 : decode cX6_lay 47 = .ok (.getfield 17, 3) := by decide +kernel
theorem dX6_lay_50 : decode cX6_lay 50 = .ok (.iconst 1, 1) := by decide +kernel
theorem dX6_lay_51 : decode cX6_lay 51 = .ok (.iaload, 1) := by decide +kernel
theorem dX6_lay_52 : decode cX6_lay 52 = .ok (.if_icmp .ge 166, 3) := by decide +kernel
theorem dX6_lay_55 : decode cX6_lay 55 = .ok (.aload_n 0, 1) := by decide +kernel
theorem dX6_lay_56 : decode cX6_lay 56 = .ok (.getfield 28, 3) := by decide +kernel
theorem dX6_lay_59 : decode cX6_lay 59 = .ok (.iload 4, 2) := by decide +kernel
theorem dX6_lay_61 : decode cX6_lay 61 = .ok (.iconst 0, 1) := by decide +kernel
theorem dX6_lay_62 : decode cX6_lay 62 = .ok (.iastore, 1) := by decide +kernel
theorem dX6_lay_63 : decode cX6_lay 63 = .ok (.aload_n 0, 1) := by decide +kernel
theorem dX6_lay_64 : decode cX6_lay 64 = .ok (.getfield 31, 3) := by decide +kernel
theorem dX6_lay_67 : decode cX6_lay 67 = .ok (.iload 4, 2) := by decide +kernel
theorem dX6_lay_69 : decode cX6_lay 69 = .ok (.iconst (-1), 1) := by decide +kernel
theorem dX6_lay_70 : decode cX6_lay 70 = .ok (.iastore, 1) := by decide +kernel
theorem dX6_lay_71 : decode cX6_lay 71 = .ok (.aload_n 0, 1) := by decide +kernel
theorem dX6_lay_72 : decode cX6_lay 72 = .ok (.getfield 34, 3) := by decide +kernel
theorem dX6_lay_75 : decode cX6_lay 75 = .ok (.iload 4, 2) := by decide +kernel
theorem dX6_lay_77 : decode cX6_lay 77 = .ok (.iconst (-1), 1) := by decide +kernel
theorem dX6_lay_78 : decode cX6_lay 78 = .ok (.iastore, 1) := by decide +kernel
theorem dX6_lay_79 : decode cX6_lay 79 = .ok (.aload_n 0, 1) := by decide +kernel
theorem dX6_lay_80 : decode cX6_lay 80 = .ok (.iload 4, 2) := by decide +kernel
theorem dX6_lay_82 : decode cX6_lay 82 = .ok (.invokevirtual 174, 3) := by decide +kernel
theorem dX6_lay_85 : decode cX6_lay 85 = .ok (.ifCond .ne 6, 3) := by decide +kernel
theorem dX6_lay_88 : decode cX6_lay 88 = .ok (.goto 124, 3) := by decide +kernel
theorem dX6_lay_91 : decode cX6_lay 91 = .ok (.aload_n 0, 1) := by decide +kernel
theorem dX6_lay_92 : decode cX6_lay 92 = .ok (.getfield 171, 3) := by decide +kernel
theorem dX6_lay_95 : decode cX6_lay 95 = .ok (.ifCond .eq 16, 3) := by decide +kernel
theorem dX6_lay_98 : decode cX6_lay 98 = .ok (.iload_n 2, 1) := by decide +kernel
theorem dX6_lay_99 : decode cX6_lay 99 = .ok (.aload_n 0, 1) := by decide +kernel
theorem dX6_lay_100 : decode cX6_lay 100 = .ok (.iload 4, 2) := by decide +kernel
theorem dX6_lay_102 : decode cX6_lay 102 = .ok (.iconst 0, 1) := by decide +kernel
theorem dX6_lay_103 : decode cX6_lay 103 = .ok (.invokevirtual 168, 3) := by decide +kernel
theorem dX6_lay_106 : decode cX6_lay 106 = .ok (.iadd, 1) := by decide +kernel
theorem dX6_lay_107 : decode cX6_lay 107 = .ok (.iload_n 1, 1) := by decide +kernel
theorem dX6_lay_108 : decode cX6_lay 108 = .ok (.if_icmp .le 15, 3) := by decide +kernel
theorem dX6_lay_111 : decode cX6_lay 111 = .ok (.aload_n 0, 1) := by decide +kernel
theorem dX6_lay_112 : decode cX6_lay 112 = .ok (.dup, 1) := by decide +kernel
theorem dX6_lay_113 : decode cX6_lay 113 = .ok (.getfield 171, 3) := by decide +kernel
theorem dX6_lay_116 : decode cX6_lay 116 = .ok (.iconst 1, 1) := by decide +kernel
theorem dX6_lay_117 : decode cX6_lay 117 = .ok (.iadd, 1) := by decide +kernel
theorem dX6_lay_118 : decode cX6_lay 118 = .ok (.putfield 171, 3) := by decide +kernel
theorem dX6_lay_121 : decode cX6_lay 121 = .ok (.iconst 0, 1) := by decide +kernel
theorem dX6_lay_122 : decode cX6_lay 122 = .ok (.istore_n 2, 1) := by decide +kernel
theorem dX6_lay_123 : decode cX6_lay 123 = .ok (.iinc 3 1, 3) := by decide +kernel
theorem dX6_lay_126 : decode cX6_lay 126 = .ok (.aload_n 0, 1) := by decide +kernel
theorem dX6_lay_127 : decode cX6_lay 127 = .ok (.getfield 28, 3) := by decide +kernel
theorem dX6_lay_130 : decode cX6_lay 130 = .ok (.iload 4, 2) := by decide +kernel
theorem dX6_lay_132 : decode cX6_lay 132 = .ok (.iload_n 3, 1) := by decide +kernel
theorem dX6_lay_133 : decode cX6_lay 133 = .ok (.iastore, 1) := by decide +kernel
theorem dX6_lay_134 : decode cX6_lay 134 = .ok (.aload_n 0, 1) := by decide +kernel
theorem dX6_lay_135 : decode cX6_lay 135 = .ok (.getfield 31, 3) := by decide +kernel
theorem dX6_lay_138 : decode cX6_lay 138 = .ok (.iload 4, 2) := by decide +kernel
theorem dX6_lay_140 : decode cX6_lay 140 = .ok (.aload_n 0, 1) := by decide +kernel
theorem dX6_lay_141 : decode cX6_lay 141 = .ok (.getfield 171, 3) := by decide +kernel
theorem dX6_lay_144 : decode cX6_lay 144 = .ok (.iconst 1, 1) := by decide +kernel
theorem dX6_lay_145 : decode cX6_lay 145 = .ok (.isub, 1) := by decide +kernel
theorem dX6_lay_146 : decode cX6_lay 146 = .ok (.iastore, 1) := by decide +kernel
theorem dX6_lay_147 : decode cX6_lay 147 = .ok (.aload_n 0, 1) := by decide +kernel
theorem dX6_lay_148 : decode cX6_lay 148 = .ok (.getfield 34, 3) := by decide +kernel
theorem dX6_lay_151 : decode cX6_lay 151 = .ok (.iload 4, 2) := by decide +kernel
theorem dX6_lay_153 : decode cX6_lay 153 = .ok (.iload_n 2, 1) := by decide +kernel
theorem dX6_lay_154 : decode cX6_lay 154 = .ok (.iastore, 1) := by decide +kernel
theorem dX6_lay_155 : decode cX6_lay 155 = .ok (.iconst 0, 1) := by decide +kernel
theorem dX6_lay_156 : decode cX6_lay 156 = .ok (.istore 5, 2) := by decide +kernel
theorem dX6_lay_158 : decode cX6_lay 158 = .ok (.iload 5, 2) := by decide +kernel
theorem dX6_lay_160 : decode cX6_lay 160 = .ok (.aload_n 0, 1) := by decide +kernel
theorem dX6_lay_161 : decode cX6_lay 161 = .ok (.iload 4, 2) := by decide +kernel
theorem dX6_lay_163 : decode cX6_lay 163 = .ok (.iconst 0, 1) := by decide +kernel
theorem dX6_lay_164 : decode cX6_lay 164 = .ok (.invokevirtual 168, 3) := by decide +kernel
theorem dX6_lay_167 : decode cX6_lay 167 = .ok (.if_icmp .ge 35, 3) := by decide +kernel
theorem dX6_lay_170 : decode cX6_lay 170 = .ok (.aload_n 0, 1) := by decide +kernel
theorem dX6_lay_171 : decode cX6_lay 171 = .ok (.getfield 37, 3) := by decide +kernel
theorem dX6_lay_174 : decode cX6_lay 174 = .ok (.iload_n 1, 1) := by decide +kernel
theorem dX6_lay_175 : decode cX6_lay 175 = .ok (.aload_n 0, 1) := by decide +kernel
theorem dX6_lay_176 : decode cX6_lay 176 = .ok (.getfield 171, 3) := by decide +kernel
theorem dX6_lay_179 : decode cX6_lay 179 = .ok (.iconst 1, 1) := by decide +kernel
theorem dX6_lay_180 : decode cX6_lay 180 = .ok (.isub, 1) := by decide +kernel
theorem dX6_lay_181 : decode cX6_lay 181 = .ok (.imul, 1) := by decide +kernel
theorem dX6_lay_182 : decode cX6_lay 182 = .ok (.iload_n 2, 1) := by decide +kernel
theorem dX6_lay_183 : decode cX6_lay 183 = .ok (.iadd, 1) := by decide +kernel
theorem dX6_lay_184 : decode cX6_lay 184 = .ok (.iload 5, 2) := by decide +kernel
theorem dX6_lay_186 : decode cX6_lay 186 = .ok (.iadd, 1) := by decide +kernel
theorem dX6_lay_187 : decode cX6_lay 187 = .ok (.bipush 10, 2) := by decide +kernel
theorem dX6_lay_189 : decode cX6_lay 189 = .ok (.iload 4, 2) := by decide +kernel
theorem dX6_lay_191 : decode cX6_lay 191 = .ok (.imul, 1) := by decide +kernel
theorem dX6_lay_192 : decode cX6_lay 192 = .ok (.iload 5, 2) := by decide +kernel
theorem dX6_lay_194 : decode cX6_lay 194 = .ok (.iadd, 1) := by decide +kernel
theorem dX6_lay_195 : decode cX6_lay 195 = .ok (.iastore, 1) := by decide +kernel
theorem dX6_lay_196 : decode cX6_lay 196 = .ok (.iinc 5 1, 3) := by decide +kernel
theorem dX6_lay_199 : decode cX6_lay 199 = .ok (.goto (-41), 3) := by decide +kernel
theorem dX6_lay_202 : decode cX6_lay 202 = .ok (.iload_n 2, 1) := by decide +kernel
theorem dX6_lay_203 : decode cX6_lay 203 = .ok (.aload_n 0, 1) := by decide +kernel
theorem dX6_lay_204 : decode cX6_lay 204 = .ok (.iload 4, 2) := by decide +kernel
theorem dX6_lay_206 : decode cX6_lay 206 = .ok (.iconst 0, 1) := by decide +kernel
theorem dX6_lay_207 : decode cX6_lay 207 = .ok (.invokevirtual 168, 3) := by decide +kernel
theorem dX6_lay_210 : decode cX6_lay 210 = .ok (.iadd, 1) := by decide +kernel
theorem dX6_lay_211 : decode cX6_lay 211 = .ok (.istore_n 2, 1) := by decide +kernel
theorem dX6_lay_212 : decode cX6_lay 212 = .ok (.iinc 4 1, 3) := by decide +kernel
theorem dX6_lay_215 : decode cX6_lay 215 = .ok (.goto (-171), 3) := by decide +kernel
theorem dX6_lay_218 : decode cX6_lay 218 = .ok (.return_, 1) := by decide +kernel
theorem dX6_signOf_0 : decode cX6_signOf 0 = .ok (.aload_n 0, 1) := by decide +kernel
theorem dX6_signOf_1 : decode cX6_signOf 1 = .ok (.getfield 37, 3) := by decide +kernel
theorem dX6_signOf_4 : decode cX6_signOf 4 = .ok (.iload_n 1, 1) := by decide +kernel
theorem dX6_signOf_5 : decode cX6_signOf 5 = .ok (.iaload, 1) := by decide +kernel
theorem dX6_signOf_6 : decode cX6_signOf 6 = .ok (.iconst (-1), 1) := by decide +kernel
theorem dX6_signOf_7 : decode cX6_signOf 7 = .ok (.if_icmp .ne 7, 3) := by decide +kernel
theorem dX6_signOf_10 : decode cX6_signOf 10 = .ok (.iconst (-1), 1) := by decide +kernel
theorem dX6_signOf_11 : decode cX6_signOf 11 = .ok (.goto 44, 3) := by decide +kernel
theorem dX6_signOf_14 : decode cX6_signOf 14 = .ok (.aload_n 0, 1) := by decide +kernel
theorem dX6_signOf_15 : decode cX6_signOf 15 = .ok (.getfield 37, 3) := by decide +kernel
theorem dX6_signOf_18 : decode cX6_signOf 18 = .ok (.iload_n 1, 1) := by decide +kernel
theorem dX6_signOf_19 : decode cX6_signOf 19 = .ok (.iaload, 1) := by decide +kernel
theorem dX6_signOf_20 : decode cX6_signOf 20 = .ok (.aload_n 0, 1) := by decide +kernel
theorem dX6_signOf_21 : decode cX6_signOf 21 = .ok (.getfield 37, 3) := by decide +kernel
theorem dX6_signOf_24 : decode cX6_signOf 24 = .ok (.iload_n 1, 1) := by decide +kernel
theorem dX6_signOf_25 : decode cX6_signOf 25 = .ok (.iaload, 1) := by decide +kernel
theorem dX6_signOf_26 : decode cX6_signOf 26 = .ok (.bipush 10, 2) := by decide +kernel
theorem dX6_signOf_28 : decode cX6_signOf 28 = .ok (.irem, 1) := by decide +kernel
theorem dX6_signOf_29 : decode cX6_signOf 29 = .ok (.ifCond .ne 24, 3) := by decide +kernel
theorem dX6_signOf_32 : decode cX6_signOf 32 = .ok (.sipush 1000, 3) := by decide +kernel
theorem dX6_signOf_35 : decode cX6_signOf 35 = .ok (.aload_n 0, 1) := by decide +kernel
theorem dX6_signOf_36 : decode cX6_signOf 36 = .ok (.getfield 28, 3) := by decide +kernel
theorem dX6_signOf_39 : decode cX6_signOf 39 = .ok (.aload_n 0, 1) := by decide +kernel
theorem dX6_signOf_40 : decode cX6_signOf 40 = .ok (.getfield 37, 3) := by decide +kernel
theorem dX6_signOf_43 : decode cX6_signOf 43 = .ok (.iload_n 1, 1) := by decide +kernel
theorem dX6_signOf_44 : decode cX6_signOf 44 = .ok (.iaload, 1) := by decide +kernel
theorem dX6_signOf_45 : decode cX6_signOf 45 = .ok (.bipush 10, 2) := by decide +kernel
theorem dX6_signOf_47 : decode cX6_signOf 47 = .ok (.idiv, 1) := by decide +kernel
theorem dX6_signOf_48 : decode cX6_signOf 48 = .ok (.iaload, 1) := by decide +kernel
theorem dX6_signOf_49 : decode cX6_signOf 49 = .ok (.imul, 1) := by decide +kernel
theorem dX6_signOf_50 : decode cX6_signOf 50 = .ok (.goto 4, 3) := by decide +kernel
theorem dX6_signOf_53 : decode cX6_signOf 53 = .ok (.iconst 0, 1) := by decide +kernel
theorem dX6_signOf_54 : decode cX6_signOf 54 = .ok (.iadd, 1) := by decide +kernel
theorem dX6_signOf_55 : decode cX6_signOf 55 = .ok (.ireturn, 1) := by decide +kernel
set_option maxRecDepth 20000 in
theorem ggX6_placeOf_X6_differs : GoodIn wsX6_placeOf wsX6_differs := goodIn_r _ [5, 6, 7, 4, 8] (by decide +kernel) (by decide +kernel)
set_option maxRecDepth 20000 in
theorem gX6_placeOf_X6_differs : GoodIn wsX6_placeOf (va_wsS RX6 60 yX6_differs wsX6_differs) := goodIn_app (goodIn_of _ (by decide +kernel)) ggX6_placeOf_X6_differs
theorem dX6_placeOf_0 : decode cX6_placeOf 0 = .ok (.iconst 0, 1) := by decide +kernel
theorem dX6_placeOf_1 : decode cX6_placeOf 1 = .ok (.istore_n 2, 1) := by decide +kernel
theorem dX6_placeOf_2 : decode cX6_placeOf 2 = .ok (.iconst 0, 1) := by decide +kernel
theorem dX6_placeOf_3 : decode cX6_placeOf 3 = .ok (.istore_n 3, 1) := by decide +kernel
theorem dX6_placeOf_4 : decode cX6_placeOf 4 = .ok (.iload_n 3, 1) := by decide +kernel
theorem dX6_placeOf_5 : decode cX6_placeOf 5 = .ok (.iload_n 1, 1) := by decide +kernel
theorem dX6_placeOf_6 : decode cX6_placeOf 6 = .ok (.if_icmp .ge 28, 3) := by decide +kernel
theorem dX6_placeOf_9 : decode cX6_placeOf 9 = .ok (.iload_n 2, 1) := by decide +kernel
theorem dX6_placeOf_10 : decode cX6_placeOf 10 = .ok (.aload_n 0, 1) := by decide +kernel
theorem dX6_placeOf_11 : decode cX6_placeOf 11 = .ok (.getfield 17, 3) := by decide +kernel
theorem dX6_placeOf_14 : decode cX6_placeOf 14 = .ok (.iload_n 3, 1) := by decide +kernel
theorem dX6_placeOf_15 : decode cX6_placeOf 15 = .ok (.invokestatic 60, 3) := by decide +kernel
theorem dX6_placeOf_18 : decode cX6_placeOf 18 = .ok (.ifCond .eq 7, 3) := by decide +kernel
theorem dX6_placeOf_21 : decode cX6_placeOf 21 = .ok (.iconst 1, 1) := by decide +kernel
theorem dX6_placeOf_22 : decode cX6_placeOf 22 = .ok (.goto 4, 3) := by decide +kernel
theorem dX6_placeOf_25 : decode cX6_placeOf 25 = .ok (.iconst 0, 1) := by decide +kernel
theorem dX6_placeOf_26 : decode cX6_placeOf 26 = .ok (.iadd, 1) := by decide +kernel
theorem dX6_placeOf_27 : decode cX6_placeOf 27 = .ok (.istore_n 2, 1) := by decide +kernel
theorem dX6_placeOf_28 : decode cX6_placeOf 28 = .ok (.iinc 3 1, 3) := by decide +kernel
theorem dX6_placeOf_31 : decode cX6_placeOf 31 = .ok (.goto (-27), 3) := by decide +kernel
theorem dX6_placeOf_34 : decode cX6_placeOf 34 = .ok (.iload_n 2, 1) := by decide +kernel
theorem dX6_placeOf_35 : decode cX6_placeOf 35 = .ok (.ireturn, 1) := by decide +kernel
set_option maxRecDepth 20000 in
theorem ggX6_isChosen_X6_differs : GoodIn wsX6_isChosen wsX6_differs := goodIn_r _ [5, 6, 7, 4, 8] (by decide +kernel) (by decide +kernel)
set_option maxRecDepth 20000 in
theorem gX6_isChosen_X6_differs : GoodIn wsX6_isChosen (va_wsS RX6 60 yX6_differs wsX6_differs) := goodIn_app (goodIn_of _ (by decide +kernel)) ggX6_isChosen_X6_differs
set_option maxRecDepth 20000 in
theorem ggX6_isChosen_X6_placeOf : GoodIn wsX6_isChosen wsX6_placeOf := goodIn_r _ [12, 1, 2, 3, 4, 5, 6, 7, 8, 13, 14, 15, 16, 17, 18, 19, 20, 21, 22, 23, 24, 25, 26, 27, 28, 29, 30, 31, 32, 33, 34] (by decide +kernel) (by decide +kernel)
set_option maxRecDepth 20000 in
theorem gX6_isChosen_X6_placeOf : GoodIn wsX6_isChosen (wsV RX6 177 RX6 yX6_placeOf wsX6_placeOf) := goodIn_app (goodIn_of _ (by decide +kernel)) ggX6_isChosen_X6_placeOf
theorem dX6_isChosen_0 : decode cX6_isChosen 0 = .ok (.aload_n 0, 1) := by decide +kernel
theorem dX6_isChosen_1 : decode cX6_isChosen 1 = .ok (.getfield 17, 3) := by decide +kernel
theorem dX6_isChosen_4 : decode cX6_isChosen 4 = .ok (.iload_n 2, 1) := by decide +kernel
theorem dX6_isChosen_5 : decode cX6_isChosen 5 = .ok (.invokestatic 60, 3) := by decide +kernel
theorem dX6_isChosen_8 : decode cX6_isChosen 8 = .ok (.ifCond .eq 20, 3) := by decide +kernel
theorem dX6_isChosen_11 : decode cX6_isChosen 11 = .ok (.iload_n 1, 1) := by decide +kernel
theorem dX6_isChosen_12 : decode cX6_isChosen 12 = .ok (.aload_n 0, 1) := by decide +kernel
theorem dX6_isChosen_13 : decode cX6_isChosen 13 = .ok (.iload_n 2, 1) := by decide +kernel
theorem dX6_isChosen_14 : decode cX6_isChosen 14 = .ok (.invokevirtual 177, 3) := by decide +kernel
theorem dX6_isChosen_17 : decode cX6_isChosen 17 = .ok (.ishr, 1) := by decide +kernel
theorem dX6_isChosen_18 : decode cX6_isChosen 18 = .ok (.iconst 1, 1) := by decide +kernel
theorem dX6_isChosen_19 : decode cX6_isChosen 19 = .ok (.iand, 1) := by decide +kernel
theorem dX6_isChosen_20 : decode cX6_isChosen 20 = .ok (.iconst 1, 1) := by decide +kernel
theorem dX6_isChosen_21 : decode cX6_isChosen 21 = .ok (.if_icmp .ne 7, 3) := by decide +kernel
theorem dX6_isChosen_24 : decode cX6_isChosen 24 = .ok (.iconst 1, 1) := by decide +kernel
theorem dX6_isChosen_25 : decode cX6_isChosen 25 = .ok (.goto 4, 3) := by decide +kernel
theorem dX6_isChosen_28 : decode cX6_isChosen 28 = .ok (.iconst 0, 1) := by decide +kernel
theorem dX6_isChosen_29 : decode cX6_isChosen 29 = .ok (.ireturn, 1) := by decide +kernel
set_option maxRecDepth 20000 in
theorem ggX6_entries_X6_differs : GoodIn wsX6_entries wsX6_differs := goodIn_r _ [5, 6, 7, 4, 8] (by decide +kernel) (by decide +kernel)
set_option maxRecDepth 20000 in
theorem gX6_entries_X6_differs : GoodIn wsX6_entries (va_wsS RX6 60 yX6_differs wsX6_differs) := goodIn_app (goodIn_of _ (by decide +kernel)) ggX6_entries_X6_differs
set_option maxRecDepth 20000 in
theorem ggX6_entries_X6_isChosen : GoodIn wsX6_entries wsX6_isChosen := goodIn_r _ [12, 1, 2, 3, 4, 5, 6, 7, 8, 13, 14, 15, 16, 21, 22, 23, 24, 25, 26, 27, 28, 29, 30, 31, 32, 33, 34, 35, 36, 37, 38, 39, 40, 41, 42] (by decide +kernel) (by decide +kernel)
set_option maxRecDepth 20000 in
theorem gX6_entries_X6_isChosen : GoodIn wsX6_entries (wsV RX6 180 RX6 yX6_isChosen wsX6_isChosen) := goodIn_app (goodIn_of _ (by decide +kernel)) ggX6_entries_X6_isChosen
set_option maxRecDepth 20000 in
theorem ggX6_entries_X6_of : GoodIn wsX6_entries wsX6_of := goodIn_r _ [20, 1, 6, 7, 4, 8, 21, 22, 23, 24, 25, 26, 27, 28, 29, 30, 31, 32, 33, 34, 35, 36, 37, 38, 39, 40, 41, 42] (by decide +kernel) (by decide +kernel)
set_option maxRecDepth 20000 in
theorem gX6_entries_X6_of : GoodIn wsX6_entries (wsV RX6 168 RX6 yX6_of wsX6_of) := goodIn_app (goodIn_of _ (by decide +kernel)) ggX6_entries_X6_of
theorem dX6_entries_0 : decode cX6_entries 0 = .ok (.iconst 0, 1) := by decide +kernel
theorem dX6_entries_1 : decode cX6_entries 1 = .ok (.istore_n 2, 1) := by decide +kernel
theorem dX6_entries_2 : decode cX6_entries 2 = .ok (.iconst 0, 1) := by decide +kernel
theorem dX6_entries_3 : decode cX6_entries 3 = .ok (.istore_n 3, 1) := by decide +kernel
theorem dX6_entries_4 : decode cX6_entries 4 = .ok (.iload_n 3, 1) := by decide +kernel
theorem dX6_entries_5 : decode cX6_entries 5 = .ok (.aload_n 0, 1) := by decide +kernel
theorem dX6_entries_6 : decode cX6_entries 6 = .ok (.getfield 17, 3) := by decide +kernel
theorem dX6_entries_9 : decode cX6_entries 9 = .ok (.iconst 1, 1) := by decide +kernel
theorem dX6_entries_10 : decode cX6_entries 10 = .ok (.iaload, 1) := by decide +kernel
theorem dX6_entries_11 : decode cX6_entries 11 = .ok (.if_icmp .ge 46, 3) := by decide +kernel
theorem dX6_entries_14 : decode cX6_entries 14 = .ok (.iload_n 2, 1) := by decide +kernel
theorem dX6_entries_15 : decode cX6_entries 15 = .ok (.aload_n 0, 1) := by decide +kernel
theorem dX6_entries_16 : decode cX6_entries 16 = .ok (.getfield 17, 3) := by decide +kernel
theorem dX6_entries_19 : decode cX6_entries 19 = .ok (.iload_n 3, 1) := by decide +kernel
theorem dX6_entries_20 : decode cX6_entries 20 = .ok (.invokestatic 60, 3) := by decide +kernel
theorem dX6_entries_23 : decode cX6_entries 23 = .ok (.ifCond .eq 25, 3) := by decide +kernel
theorem dX6_entries_26 : decode cX6_entries 26 = .ok (.aload_n 0, 1) := by decide +kernel
theorem dX6_entries_27 : decode cX6_entries 27 = .ok (.iload_n 1, 1) := by decide +kernel
theorem dX6_entries_28 : decode cX6_entries 28 = .ok (.iload_n 3, 1) := by decide +kernel
theorem dX6_entries_29 : decode cX6_entries 29 = .ok (.invokevirtual 180, 3) := by decide +kernel
theorem dX6_entries_32 : decode cX6_entries 32 = .ok (.ifCond .ne 16, 3) := by decide +kernel
theorem dX6_entries_35 : decode cX6_entries 35 = .ok (.aload_n 0, 1) := by decide +kernel
theorem dX6_entries_36 : decode cX6_entries 36 = .ok (.iload_n 3, 1) := by decide +kernel
theorem dX6_entries_37 : decode cX6_entries 37 = .ok (.iconst 5, 1) := by decide +kernel
theorem dX6_entries_38 : decode cX6_entries 38 = .ok (.invokevirtual 168, 3) := by decide +kernel
theorem dX6_entries_41 : decode cX6_entries 41 = .ok (.ifCond .ne 7, 3) := by decide +kernel
theorem dX6_entries_44 : decode cX6_entries 44 = .ok (.iconst 1, 1) := by decide +kernel
theorem dX6_entries_45 : decode cX6_entries 45 = .ok (.goto 4, 3) := by decide +kernel
theorem dX6_entries_48 : decode cX6_entries 48 = .ok (.iconst 0, 1) := by decide +kernel
theorem dX6_entries_49 : decode cX6_entries 49 = .ok (.iadd, 1) := by decide +kernel
theorem dX6_entries_50 : decode cX6_entries 50 = .ok (.istore_n 2, 1) := by decide +kernel
theorem dX6_entries_51 : decode cX6_entries 51 = .ok (.iinc 3 1, 3) := by decide +kernel
theorem dX6_entries_54 : decode cX6_entries 54 = .ok (.goto (-50), 3) := by decide +kernel
theorem dX6_entries_57 : decode cX6_entries 57 = .ok (.iload_n 2, 1) := by decide +kernel
theorem dX6_entries_58 : decode cX6_entries 58 = .ok (.ireturn, 1) := by decide +kernel
set_option maxRecDepth 20000 in
theorem ggX6_layChoice_X6_entries : GoodIn wsX6_layChoice wsX6_entries := goodIn_r _ [10, 1, 11, 12, 9, 13, 14, 15, 16, 17, 18, 19, 20, 21, 22, 23, 24, 25, 26, 27, 28, 49, 50, 51, 52, 53, 54, 55, 56, 57, 58, 59, 60, 61, 62, 63, 64, 65, 66, 67, 68, 69, 70] (by decide +kernel) (by decide +kernel)
set_option maxRecDepth 20000 in
theorem gX6_layChoice_X6_entries : GoodIn wsX6_layChoice (wsV RX6 184 RX6 yX6_entries wsX6_entries) := goodIn_app (goodIn_of _ (by decide +kernel)) ggX6_layChoice_X6_entries
set_option maxRecDepth 20000 in
theorem ggX6_layChoice_X6_lay : GoodIn wsX6_layChoice wsX6_lay := goodIn_r _ [32, 1, 5, 33, 34, 35, 36, 37, 38, 39, 9, 40, 25, 26, 27, 28, 14, 15, 16, 49, 50, 51, 52, 53, 54, 55, 56, 57, 58, 59, 60, 61, 62, 63, 64, 65, 66, 67, 68, 69, 70] (by decide +kernel) (by decide +kernel)
set_option maxRecDepth 20000 in
theorem gX6_layChoice_X6_lay : GoodIn wsX6_layChoice (wsV RX6 187 RX6 yX6_lay wsX6_lay) := goodIn_app (goodIn_of _ (by decide +kernel)) ggX6_layChoice_X6_lay
set_option maxRecDepth 20000 in
theorem ggX6_layChoice_X6_signOf : GoodIn wsX6_layChoice wsX6_signOf := goodIn_r _ [44, 33, 34, 49, 50, 51, 52, 53, 54, 55, 56, 57, 58, 59, 60, 61, 62, 63, 64, 65, 66, 67, 68, 69, 70] (by decide +kernel) (by decide +kernel)
set_option maxRecDepth 20000 in
theorem gX6_layChoice_X6_signOf : GoodIn wsX6_layChoice (wsV RX6 190 RX6 yX6_signOf wsX6_signOf) := goodIn_app (goodIn_of _ (by decide +kernel)) ggX6_layChoice_X6_signOf
set_option maxRecDepth 20000 in
theorem ggX6_layChoice_X6_isChosen : GoodIn wsX6_layChoice wsX6_isChosen := goodIn_r _ [20, 1, 11, 12, 9, 13, 14, 15, 16, 21, 22, 23, 24, 49, 50, 51, 52, 53, 54, 55, 56, 57, 58, 59, 60, 61, 62, 63, 64, 65, 66, 67, 68, 69, 70] (by decide +kernel) (by decide +kernel)
set_option maxRecDepth 20000 in
theorem gX6_layChoice_X6_isChosen : GoodIn wsX6_layChoice (wsV RX6 180 RX6 yX6_isChosen wsX6_isChosen) := goodIn_app (goodIn_of _ (by decide +kernel)) ggX6_layChoice_X6_isChosen
set_option maxRecDepth 20000 in
theorem ggX6_layChoice_X6_of : GoodIn wsX6_layChoice wsX6_of := goodIn_r _ [28, 1, 14, 15, 9, 16, 49, 50, 51, 52, 53, 54, 55, 56, 57, 58, 59, 60, 61, 62, 63, 64, 65, 66, 67, 68, 69, 70] (by decide +kernel) (by decide +kernel)
set_option maxRecDepth 20000 in
theorem gX6_layChoice_X6_of : GoodIn wsX6_layChoice (wsV RX6 168 RX6 yX6_of wsX6_of) := goodIn_app (goodIn_of _ (by decide +kernel)) ggX6_layChoice_X6_of
set_option maxRecDepth 20000 in
theorem ggX6_layChoice_X6_set : GoodIn wsX6_layChoice wsX6_set := goodIn_r _ [48, 1, 14, 15, 9, 16, 49, 50, 51, 52, 53, 54, 55, 56, 57, 58, 59, 60, 61, 62, 63, 64, 65, 66, 67, 68, 69, 70] (by decide +kernel) (by decide +kernel)
set_option maxRecDepth 20000 in
theorem gX6_layChoice_X6_set : GoodIn wsX6_layChoice (wsV RX6 193 RX6 yX6_set wsX6_set) := goodIn_app (goodIn_of _ (by decide +kernel)) ggX6_layChoice_X6_set
theorem dX6_layChoice_0 : decode cX6_layChoice 0 = .ok (.aload_n 0, 1) := by decide +kernel
theorem dX6_layChoice_1 : decode cX6_layChoice 1 = .ok (.getfield 17, 3) := by decide +kernel
theorem dX6_layChoice_4 : decode cX6_layChoice 4 = .ok (.iconst 0, 1) := by decide +kernel
theorem dX6_layChoice_5 : decode cX6_layChoice 5 = .ok (.iaload, 1) := by decide +kernel
theorem dX6_layChoice_6 : decode cX6_layChoice 6 = .ok (.istore_n 2, 1) := by decide +kernel
theorem dX6_layChoice_7 : decode cX6_layChoice 7 = .ok (.iconst 0, 1) := by decide +kernel
theorem dX6_layChoice_8 : decode cX6_layChoice 8 = .ok (.istore_n 3, 1) := by decide +kernel
theorem dX6_layChoice_9 : decode cX6_layChoice 9 = .ok (.iconst 0, 1) := by decide +kernel
theorem dX6_layChoice_10 : decode cX6_layChoice 10 = .ok (.istore 4, 2) := by decide +kernel
theorem dX6_layChoice_12 : decode cX6_layChoice 12 = .ok (.iconst 0, 1) := by decide +kernel
theorem dX6_layChoice_13 : decode cX6_layChoice 13 = .ok (.istore 5, 2) := by decide +kernel
theorem dX6_layChoice_15 : decode cX6_layChoice 15 = .ok (.iconst (-1), 1) := by decide +kernel
theorem dX6_layChoice_16 : decode cX6_layChoice 16 = .ok (.istore 6, 2) := by decide +kernel
theorem dX6_layChoice_18 : decode cX6_layChoice 18 = .ok (.iconst (-1), 1) := by decide +kernel
theorem dX6_layChoice_19 : decode cX6_layChoice 19 = .ok (.istore 7, 2) := by decide +kernel
theorem dX6_layChoice_21 : decode cX6_layChoice 21 = .ok (.aload_n 0, 1) := by decide +kernel
theorem dX6_layChoice_22 : decode cX6_layChoice 22 = .ok (.iload_n 1, 1) := by decide +kernel
theorem dX6_layChoice_23 : decode cX6_layChoice 23 = .ok (.invokevirtual 184, 3) := by decide +kernel
theorem dX6_layChoice_26 : decode cX6_layChoice 26 = .ok (.istore 8, 2) := by decide +kernel
theorem dX6_layChoice_28 : decode cX6_layChoice 28 = .ok (.iconst 0, 1) := by decide +kernel
theorem dX6_layChoice_29 : decode cX6_layChoice 29 = .ok (.istore 9, 2) := by decide +kernel
theorem dX6_layChoice_31 : decode cX6_layChoice 31 = .ok (.aload_n 0, 1) := by decide +kernel
theorem dX6_layChoice_32 : decode cX6_layChoice 32 = .ok (.invokevirtual 187, 3) := by decide +kernel
theorem dX6_layChoice_35 : decode cX6_layChoice 35 = .ok (.iconst 0, 1) := by decide +kernel
theorem dX6_layChoice_36 : decode cX6_layChoice 36 = .ok (.istore 10, 2) := by decide +kernel
theorem dX6_layChoice_38 : decode cX6_layChoice 38 = .ok (.iload 10, 2) := by decide +kernel
theorem dX6_layChoice_40 : decode cX6_layChoice 40 = .ok (.sipush 960, 3) := by decide +kernel
theorem dX6_layChoice_43 : decode cX6_layChoice 43 = .ok (.if_icmp .ge 22, 3) := by decide +kernel
theorem dX6_layChoice_46 : decode cX6_layChoice 46 = .ok (.aload_n 0, 1) := by decide +kernel
theorem dX6_layChoice_47 : decode cX6_layChoice 47 = .ok (.getfield 40, 3) := by decide +kernel
theorem dX6_layChoice_50 : decode cX6_layChoice 50 = .ok (.iload 10, 2) := by decide +kernel
theorem dX6_layChoice_52 : decode cX6_layChoice 52 = .ok (.aload_n 0, 1) := by decide +kernel
theorem dX6_layChoice_53 : decode cX6_layChoice 53 = .ok (.iload 10, 2) := by decide +kernel
theorem dX6_layChoice_55 : decode cX6_layChoice 55 = .ok (.invokevirtual 190, 3) := by decide +kernel
theorem dX6_layChoice_58 : decode cX6_layChoice 58 = .ok (.iastore, 1) := by decide +kernel
theorem dX6_layChoice_59 : decode cX6_layChoice 59 = .ok (.iinc 10 1, 3) := by decide +kernel
theorem dX6_layChoice_62 : decode cX6_layChoice 62 = .ok (.goto (-24), 3) := by decide +kernel
theorem dX6_layChoice_65 : decode cX6_layChoice 65 = .ok (.iconst 0, 1) := by decide +kernel
theorem dX6_layChoice_66 : decode cX6_layChoice 66 = .ok (.istore 10, 2) := by decide +kernel
theorem dX6_layChoice_68 : decode cX6_layChoice 68 = .ok (.iload 10, 2) := by decide +kernel
theorem dX6_layChoice_70 : decode cX6_layChoice 70 = .ok (.aload_n 0, 1) := by decide +kernel
theorem dX6_layChoice_71 : decode cX6_layChoice 71 = .ok (.getfield 17, 3) := by decide +kernel
theorem dX6_layChoice_74 : decode cX6_layChoice 74 = .ok (.iconst 1, 1) := by decide +kernel
theorem dX6_layChoice_75 : decode cX6_layChoice 75 = .ok (.iaload, 1) := by decide +kernel
theorem dX6_layChoice_76 : decode cX6_layChoice 76 = .ok (.if_icmp .ge 28, 3) := by decide +kernel
theorem dX6_layChoice_79 : decode cX6_layChoice 79 = .ok (.aload_n 0, 1) := by decide +kernel
theorem dX6_layChoice_80 : decode cX6_layChoice 80 = .ok (.iload_n 1, 1) := by decide +kernel
theorem dX6_layChoice_81 : decode cX6_layChoice 81 = .ok (.iload 10, 2) := by decide +kernel
theorem dX6_layChoice_83 : decode cX6_layChoice 83 = .ok (.invokevirtual 180, 3) := by decide +kernel
theorem dX6_layChoice_86 : decode cX6_layChoice 86 = .ok (.ifCond .eq 12, 3) := by decide +kernel
theorem dX6_layChoice_89 : decode cX6_layChoice 89 = .ok (.iload 9, 2) := by decide +kernel
theorem dX6_layChoice_91 : decode cX6_layChoice 91 = .ok (.iconst 1, 1) := by decide +kernel
theorem dX6_layChoice_92 : decode cX6_layChoice 92 = .ok (.iload 10, 2) := by decide +kernel
theorem dX6_layChoice_94 : decode cX6_layChoice 94 = .ok (.ishl, 1) := by decide +kernel
theorem dX6_layChoice_95 : decode cX6_layChoice 95 = .ok (.ior, 1) := by decide +kernel
theorem dX6_layChoice_96 : decode cX6_layChoice 96 = .ok (.istore 9, 2) := by decide +kernel
theorem dX6_layChoice_98 : decode cX6_layChoice 98 = .ok (.iinc 10 1, 3) := by decide +kernel
theorem dX6_layChoice_101 : decode cX6_layChoice 101 = .ok (.goto (-33), 3) := by decide +kernel
theorem dX6_layChoice_104 : decode cX6_layChoice 104 = .ok (.iconst 0, 1) := by decide +kernel
theorem dX6_layChoice_105 : decode cX6_layChoice 105 = .ok (.istore 10, 2) := by decide +kernel
theorem dX6_layChoice_107 : decode cX6_layChoice 107 = .ok (.iload 10, 2) := by decide +kernel
theorem dX6_layChoice_109 : decode cX6_layChoice 109 = .ok (.aload_n 0, 1) := by decide +kernel
theorem dX6_layChoice_110 : decode cX6_layChoice 110 = .ok (.getfield 17, 3) := by decide +kernel
theorem dX6_layChoice_113 : decode cX6_layChoice 113 = .ok (.iconst 1, 1) := by decide +kernel
theorem dX6_layChoice_114 : decode cX6_layChoice 114 = .ok (.iaload, 1) := by decide +kernel
theorem dX6_layChoice_115 : decode cX6_layChoice 115 = .ok (.if_icmp .ge 48, 3) := by decide +kernel
theorem dX6_layChoice_118 : decode cX6_layChoice 118 = .ok (.aload_n 0, 1) := by decide +kernel
theorem dX6_layChoice_119 : decode cX6_layChoice 119 = .ok (.getfield 46, 3) := by decide +kernel
theorem dX6_layChoice_122 : decode cX6_layChoice 122 = .ok (.iload 10, 2) := by decide +kernel
theorem dX6_layChoice_124 : decode cX6_layChoice 124 = .ok (.aload_n 0, 1) := by decide +kernel
theorem dX6_layChoice_125 : decode cX6_layChoice 125 = .ok (.iload 10, 2) := by decide +kernel
theorem dX6_layChoice_127 : decode cX6_layChoice 127 = .ok (.iconst 3, 1) := by decide +kernel
theorem dX6_layChoice_128 : decode cX6_layChoice 128 = .ok (.invokevirtual 168, 3) := by decide +kernel
theorem dX6_layChoice_131 : decode cX6_layChoice 131 = .ok (.iastore, 1) := by decide +kernel
theorem dX6_layChoice_132 : decode cX6_layChoice 132 = .ok (.iload 9, 2) := by decide +kernel
theorem dX6_layChoice_134 : decode cX6_layChoice 134 = .ok (.iload 10, 2) := by decide +kernel
theorem dX6_layChoice_136 : decode cX6_layChoice 136 = .ok (.ishr, 1) := by decide +kernel
theorem dX6_layChoice_137 : decode cX6_layChoice 137 = .ok (.iconst 1, 1) := by decide +kernel
theorem dX6_layChoice_138 : decode cX6_layChoice 138 = .ok (.iand, 1) := by decide +kernel
theorem dX6_layChoice_139 : decode cX6_layChoice 139 = .ok (.iconst 1, 1) := by decide +kernel
theorem dX6_layChoice_140 : decode cX6_layChoice 140 = .ok (.if_icmp .ne 17, 3) := by decide +kernel
theorem dX6_layChoice_143 : decode cX6_layChoice 143 = .ok (.aload_n 0, 1) := by decide +kernel
theorem dX6_layChoice_144 : decode cX6_layChoice 144 = .ok (.iload 10, 2) := by decide +kernel
theorem dX6_layChoice_146 : decode cX6_layChoice 146 = .ok (.iconst 3, 1) := by decide +kernel
theorem dX6_layChoice_147 : decode cX6_layChoice 147 = .ok (.aload_n 0, 1) := by decide +kernel
theorem dX6_layChoice_148 : decode cX6_layChoice 148 = .ok (.iload 10, 2) := by decide +kernel
theorem dX6_layChoice_150 : decode cX6_layChoice 150 = .ok (.iconst 4, 1) := by decide +kernel
theorem dX6_layChoice_151 : decode cX6_layChoice 151 = .ok (.invokevirtual 168, 3) := by decide +kernel
theorem dX6_layChoice_154 : decode cX6_layChoice 154 = .ok (.invokevirtual 193, 3) := by decide +kernel
theorem dX6_layChoice_157 : decode cX6_layChoice 157 = .ok (.iinc 10 1, 3) := by decide +kernel
theorem dX6_layChoice_160 : decode cX6_layChoice 160 = .ok (.goto (-53), 3) := by decide +kernel
theorem dX6_layChoice_163 : decode cX6_layChoice 163 = .ok (.aload_n 0, 1) := by decide +kernel
theorem dX6_layChoice_164 : decode cX6_layChoice 164 = .ok (.invokevirtual 187, 3) := by decide +kernel
theorem dX6_layChoice_167 : decode cX6_layChoice 167 = .ok (.iconst 0, 1) := by decide +kernel
theorem dX6_layChoice_168 : decode cX6_layChoice 168 = .ok (.istore 10, 2) := by decide +kernel
theorem dX6_layChoice_170 : decode cX6_layChoice 170 = .ok (.iload 10, 2) := by decide +kernel
theorem dX6_layChoice_172 : decode cX6_layChoice 172 = .ok (.aload_n 0, 1) := by decide +kernel
theorem dX6_layChoice_173 : decode cX6_layChoice 173 = .ok (.getfield 17, 3) := by decide +kernel
theorem dX6_layChoice_176 : decode cX6_layChoice 176 = .ok (.iconst 1, 1) := by decide +kernel
theorem dX6_layChoice_177 : decode cX6_layChoice 177 = .ok (.iaload, 1) := by decide +kernel
theorem dX6_layChoice_178 : decode cX6_layChoice 178 = .ok (.if_icmp .ge 23, 3) := by decide +kernel
theorem dX6_layChoice_181 : decode cX6_layChoice 181 = .ok (.aload_n 0, 1) := by decide +kernel
theorem dX6_layChoice_182 : decode cX6_layChoice 182 = .ok (.iload 10, 2) := by decide +kernel
theorem dX6_layChoice_184 : decode cX6_layChoice 184 = .ok (.iconst 3, 1) := by decide +kernel
theorem dX6_layChoice_185 : decode cX6_layChoice 185 = .ok (.aload_n 0, 1) := by decide +kernel
theorem dX6_layChoice_186 : decode cX6_layChoice 186 = .ok (.getfield 46, 3) := by decide +kernel
theorem dX6_layChoice_189 : decode cX6_layChoice 189 = .ok (.iload 10, 2) := by decide +kernel
theorem dX6_layChoice_191 : decode cX6_layChoice 191 = .ok (.iaload, 1) := by decide +kernel
theorem dX6_layChoice_192 : decode cX6_layChoice 192 = .ok (.invokevirtual 193, 3) := by decide +kernel
theorem dX6_layChoice_195 : decode cX6_layChoice 195 = .ok (.iinc 10 1, 3) := by decide +kernel
theorem dX6_layChoice_198 : decode cX6_layChoice 198 = .ok (.goto (-28), 3) := by decide +kernel
theorem dX6_layChoice_201 : decode cX6_layChoice 201 = .ok (.iconst 0, 1) := by decide +kernel
theorem dX6_layChoice_202 : decode cX6_layChoice 202 = .ok (.istore 10, 2) := by decide +kernel
theorem dX6_layChoice_204 : decode cX6_layChoice 204 = .ok (.iload 10, 2) := by decide +kernel
theorem dX6_layChoice_206 : decode cX6_layChoice 206 = .ok (.sipush 960, 3) := by decide +kernel
theorem dX6_layChoice_209 : decode cX6_layChoice 209 = .ok (.if_icmp .ge 83, 3) := by decide +kernel
theorem dX6_layChoice_212 : decode cX6_layChoice 212 = .ok (.aload_n 0, 1) := by decide +kernel
theorem dX6_layChoice_213 : decode cX6_layChoice 213 = .ok (.getfield 40, 3) := by decide +kernel
theorem dX6_layChoice_216 : decode cX6_layChoice 216 = .ok (.iload 10, 2) := by decide +kernel
theorem dX6_layChoice_218 : decode cX6_layChoice 218 = .ok (.iaload, 1) := by decide +kernel
theorem dX6_layChoice_219 : decode cX6_layChoice 219 = .ok (.aload_n 0, 1) := by decide +kernel
theorem dX6_layChoice_220 : decode cX6_layChoice 220 = .ok (.iload 10, 2) := by decide +kernel
theorem dX6_layChoice_222 : decode cX6_layChoice 222 = .ok (.invokevirtual 190, 3) := by decide +kernel
theorem dX6_layChoice_225 : decode cX6_layChoice 225 = .ok (.if_icmp .ne 6, 3) := by decide +kernel
theorem dX6_layChoice_228 : decode cX6_layChoice 228 = .ok (.goto 58, 3) := by decide +kernel
theorem dX6_layChoice_231 : decode cX6_layChoice 231 = .ok (.iload 10, 2) := by decide +kernel
theorem dX6_layChoice_233 : decode cX6_layChoice 233 = .ok (.iload_n 2, 1) := by decide +kernel
theorem dX6_layChoice_234 : decode cX6_layChoice 234 = .ok (.idiv, 1) := by decide +kernel
theorem dX6_layChoice_235 : decode cX6_layChoice 235 = .ok (.istore 11, 2) := by decide +kernel
theorem dX6_layChoice_237 : decode cX6_layChoice 237 = .ok (.iinc 3 1, 3) := by decide +kernel
theorem dX6_layChoice_240 : decode cX6_layChoice 240 = .ok (.iload 4, 2) := by decide +kernel
theorem dX6_layChoice_242 : decode cX6_layChoice 242 = .ok (.iload 11, 2) := by decide +kernel
theorem dX6_layChoice_244 : decode cX6_layChoice 244 = .ok (.iload 6, 2) := by decide +kernel
theorem dX6_layChoice_246 : decode cX6_layChoice 246 = .ok (.if_icmp .eq 7, 3) := by decide +kernel
theorem dX6_layChoice_249 : decode cX6_layChoice 249 = .ok (.iconst 1, 1) := by decide +kernel
theorem dX6_layChoice_250 : decode cX6_layChoice 250 = .ok (.goto 4, 3) := by decide +kernel
theorem dX6_layChoice_253 : decode cX6_layChoice 253 = .ok (.iconst 0, 1) := by decide +kernel
theorem dX6_layChoice_254 : decode cX6_layChoice 254 = .ok (.iadd, 1) := by decide +kernel
theorem dX6_layChoice_255 : decode cX6_layChoice 255 = .ok (.istore 4, 2) := by decide +kernel
theorem dX6_layChoice_257 : decode cX6_layChoice 257 = .ok (.iload 5, 2) := by decide +kernel
theorem dX6_layChoice_259 : decode cX6_layChoice 259 = .ok (.iload 11, 2) := by decide +kernel
theorem dX6_layChoice_261 : decode cX6_layChoice 261 = .ok (.iconst 4, 1) := by decide +kernel
theorem dX6_layChoice_262 : decode cX6_layChoice 262 = .ok (.idiv, 1) := by decide +kernel
theorem dX6_layChoice_263 : decode cX6_layChoice 263 = .ok (.iload 7, 2) := by decide +kernel
theorem dX6_layChoice_265 : decode cX6_layChoice 265 = .ok (.if_icmp .eq 7, 3) := by decide +kernel
theorem dX6_layChoice_268 : decode cX6_layChoice 268 = .ok (.iconst 1, 1) := by decide +kernel
theorem dX6_layChoice_269 : decode cX6_layChoice 269 = .ok (.goto 4, 3) := by decide +kernel
theorem dX6_layChoice_272 : decode cX6_layChoice 272 = .ok (.iconst 0, 1) := by decide +kernel
theorem dX6_layChoice_273 : decode cX6_layChoice 273 = .ok (.iadd, 1) := by decide +kernel
theorem dX6_layChoice_274 : decode cX6_layChoice 274 = .ok (.istore 5, 2) := by decide +kernel
theorem dX6_layChoice_276 : decode cX6_layChoice 276 = .ok (.iload 11, 2) := by decide +kernel
theorem dX6_layChoice_278 : decode cX6_layChoice 278 = .ok (.istore 6, 2) := by decide +kernel
theorem dX6_layChoice_280 : decode cX6_layChoice 280 = .ok (.iload 11, 2) := by decide +kernel
theorem dX6_layChoice_282 : decode cX6_layChoice 282 = .ok (.iconst 4, 1) := by decide +kernel
theorem dX6_layChoice_283 : decode cX6_layChoice 283 = .ok (.idiv, 1) := by decide +kernel
theorem dX6_layChoice_284 : decode cX6_layChoice 284 = .ok (.istore 7, 2) := by decide +kernel
theorem dX6_layChoice_286 : decode cX6_layChoice 286 = .ok (.iinc 10 1, 3) := by decide +kernel
theorem dX6_layChoice_289 : decode cX6_layChoice 289 = .ok (.goto (-85), 3) := by decide +kernel
theorem dX6_layChoice_292 : decode cX6_layChoice 292 = .ok (.aload_n 0, 1) := by decide +kernel
theorem dX6_layChoice_293 : decode cX6_layChoice 293 = .ok (.getfield 43, 3) := by decide +kernel
theorem dX6_layChoice_296 : decode cX6_layChoice 296 = .ok (.iconst 1, 1) := by decide +kernel
theorem dX6_layChoice_297 : decode cX6_layChoice 297 = .ok (.iload_n 3, 1) := by decide +kernel
theorem dX6_layChoice_298 : decode cX6_layChoice 298 = .ok (.iastore, 1) := by decide +kernel
theorem dX6_layChoice_299 : decode cX6_layChoice 299 = .ok (.aload_n 0, 1) := by decide +kernel
theorem dX6_layChoice_300 : decode cX6_layChoice 300 = .ok (.getfield 43, 3) := by decide +kernel
theorem dX6_layChoice_303 : decode cX6_layChoice 303 = .ok (.iconst 2, 1) := by decide +kernel
theorem dX6_layChoice_304 : decode cX6_layChoice 304 = .ok (.iload 4, 2) := by decide +kernel
theorem dX6_layChoice_306 : decode cX6_layChoice 306 = .ok (.iastore, 1) := by decide +kernel
theorem dX6_layChoice_307 : decode cX6_layChoice 307 = .ok (.aload_n 0, 1) := by decide +kernel
theorem dX6_layChoice_308 : decode cX6_layChoice 308 = .ok (.getfield 43, 3) := by decide +kernel
theorem dX6_layChoice_311 : decode cX6_layChoice 311 = .ok (.iconst 3, 1) := by decide +kernel
theorem dX6_layChoice_312 : decode cX6_layChoice 312 = .ok (.iload 5, 2) := by decide +kernel
theorem dX6_layChoice_314 : decode cX6_layChoice 314 = .ok (.iastore, 1) := by decide +kernel
theorem dX6_layChoice_315 : decode cX6_layChoice 315 = .ok (.aload_n 0, 1) := by decide +kernel
theorem dX6_layChoice_316 : decode cX6_layChoice 316 = .ok (.getfield 43, 3) := by decide +kernel
theorem dX6_layChoice_319 : decode cX6_layChoice 319 = .ok (.iconst 4, 1) := by decide +kernel
theorem dX6_layChoice_320 : decode cX6_layChoice 320 = .ok (.iload 8, 2) := by decide +kernel
theorem dX6_layChoice_322 : decode cX6_layChoice 322 = .ok (.aload_n 0, 1) := by decide +kernel
theorem dX6_layChoice_323 : decode cX6_layChoice 323 = .ok (.getfield 17, 3) := by decide +kernel
theorem dX6_layChoice_326 : decode cX6_layChoice 326 = .ok (.iconst 3, 1) := by decide +kernel
theorem dX6_layChoice_327 : decode cX6_layChoice 327 = .ok (.iaload, 1) := by decide +kernel
theorem dX6_layChoice_328 : decode cX6_layChoice 328 = .ok (.iadd, 1) := by decide +kernel
theorem dX6_layChoice_329 : decode cX6_layChoice 329 = .ok (.iconst 1, 1) := by decide +kernel
theorem dX6_layChoice_330 : decode cX6_layChoice 330 = .ok (.isub, 1) := by decide +kernel
theorem dX6_layChoice_331 : decode cX6_layChoice 331 = .ok (.aload_n 0, 1) := by decide +kernel
theorem dX6_layChoice_332 : decode cX6_layChoice 332 = .ok (.getfield 17, 3) := by decide +kernel
theorem dX6_layChoice_335 : decode cX6_layChoice 335 = .ok (.iconst 3, 1) := by decide +kernel
theorem dX6_layChoice_336 : decode cX6_layChoice 336 = .ok (.iaload, 1) := by decide +kernel
theorem dX6_layChoice_337 : decode cX6_layChoice 337 = .ok (.idiv, 1) := by decide +kernel
theorem dX6_layChoice_338 : decode cX6_layChoice 338 = .ok (.iastore, 1) := by decide +kernel
theorem dX6_layChoice_339 : decode cX6_layChoice 339 = .ok (.aload_n 0, 1) := by decide +kernel
theorem dX6_layChoice_340 : decode cX6_layChoice 340 = .ok (.getfield 43, 3) := by decide +kernel
theorem dX6_layChoice_343 : decode cX6_layChoice 343 = .ok (.iconst 5, 1) := by decide +kernel
theorem dX6_layChoice_344 : decode cX6_layChoice 344 = .ok (.iload 8, 2) := by decide +kernel
theorem dX6_layChoice_346 : decode cX6_layChoice 346 = .ok (.iastore, 1) := by decide +kernel
theorem dX6_layChoice_347 : decode cX6_layChoice 347 = .ok (.aload_n 0, 1) := by decide +kernel
theorem dX6_layChoice_348 : decode cX6_layChoice 348 = .ok (.getfield 43, 3) := by decide +kernel
theorem dX6_layChoice_351 : decode cX6_layChoice 351 = .ok (.bipush 6, 2) := by decide +kernel
theorem dX6_layChoice_353 : decode cX6_layChoice 353 = .ok (.aload_n 0, 1) := by decide +kernel
theorem dX6_layChoice_354 : decode cX6_layChoice 354 = .ok (.getfield 171, 3) := by decide +kernel
theorem dX6_layChoice_357 : decode cX6_layChoice 357 = .ok (.iastore, 1) := by decide +kernel
theorem dX6_layChoice_358 : decode cX6_layChoice 358 = .ok (.aload_n 0, 1) := by decide +kernel
theorem dX6_layChoice_359 : decode cX6_layChoice 359 = .ok (.getfield 43, 3) := by decide +kernel
theorem dX6_layChoice_362 : decode cX6_layChoice 362 = .ok (.iconst 0, 1) := by decide +kernel
theorem dX6_layChoice_363 : decode cX6_layChoice 363 = .ok (.iconst 0, 1) := by decide +kernel
theorem dX6_layChoice_364 : decode cX6_layChoice 364 = .ok (.iastore, 1) := by decide +kernel
theorem dX6_layChoice_365 : decode cX6_layChoice 365 = .ok (.iconst 0, 1) := by decide +kernel
theorem dX6_layChoice_366 : decode cX6_layChoice 366 = .ok (.istore 10, 2) := by decide +kernel
theorem dX6_layChoice_368 : decode cX6_layChoice 368 = .ok (.iload 10, 2) := by decide +kernel
theorem dX6_layChoice_370 : decode cX6_layChoice 370 = .ok (.iconst 5, 1) := by decide +kernel
theorem dX6_layChoice_371 : decode cX6_layChoice 371 = .ok (.if_icmp .ge 37, 3) := by decide +kernel
theorem dX6_layChoice_374 : decode cX6_layChoice 374 = .ok (.aload_n 0, 1) := by decide +kernel
theorem dX6_layChoice_375 : decode cX6_layChoice 375 = .ok (.getfield 43, 3) := by decide +kernel
theorem dX6_layChoice_378 : decode cX6_layChoice 378 = .ok (.iconst 0, 1) := by decide +kernel
theorem dX6_layChoice_379 : decode cX6_layChoice 379 = .ok (.dup2, 1) := by decide +kernel
theorem dX6_layChoice_380 : decode cX6_layChoice 380 = .ok (.iaload, 1) := by decide +kernel
theorem dX6_layChoice_381 : decode cX6_layChoice 381 = .ok (.aload_n 0, 1) := by decide +kernel
theorem dX6_layChoice_382 : decode cX6_layChoice 382 = .ok (.getfield 43, 3) := by decide +kernel
theorem dX6_layChoice_385 : decode cX6_layChoice 385 = .ok (.iload 10, 2) := by decide +kernel
theorem dX6_layChoice_387 : decode cX6_layChoice 387 = .ok (.iconst 1, 1) := by decide +kernel
theorem dX6_layChoice_388 : decode cX6_layChoice 388 = .ok (.iadd, 1) := by decide +kernel
theorem dX6_layChoice_389 : decode cX6_layChoice 389 = .ok (.iaload, 1) := by decide +kernel
theorem dX6_layChoice_390 : decode cX6_layChoice 390 = .ok (.aload_n 0, 1) := by decide +kernel
theorem dX6_layChoice_391 : decode cX6_layChoice 391 = .ok (.getfield 17, 3) := by decide +kernel
theorem dX6_layChoice_394 : decode cX6_layChoice 394 = .ok (.iconst 4, 1) := by decide +kernel
theorem dX6_layChoice_395 : decode cX6_layChoice 395 = .ok (.iload 10, 2) := by decide +kernel
theorem dX6_layChoice_397 : decode cX6_layChoice 397 = .ok (.iadd, 1) := by decide +kernel
theorem dX6_layChoice_398 : decode cX6_layChoice 398 = .ok (.iaload, 1) := by decide +kernel
theorem dX6_layChoice_399 : decode cX6_layChoice 399 = .ok (.imul, 1) := by decide +kernel
theorem dX6_layChoice_400 : decode cX6_layChoice 400 = .ok (.iadd, 1) := by decide +kernel
theorem dX6_layChoice_401 : decode cX6_layChoice 401 = .ok (.iastore, 1) := by decide +kernel
theorem dX6_layChoice_402 : decode cX6_layChoice 402 = .ok (.iinc 10 1, 3) := by decide +kernel
theorem dX6_layChoice_405 : decode cX6_layChoice 405 = .ok (.goto (-37), 3) := by decide +kernel
theorem dX6_layChoice_408 : decode cX6_layChoice 408 = .ok (.return_, 1) := by decide +kernel
set_option maxRecDepth 20000 in
theorem ggX6_costsOf_X6_layChoice : GoodIn wsX6_costsOf wsX6_layChoice := goodIn_r _ [6, 7, 8, 9, 1, 10, 11, 12, 13, 5, 14, 15, 16, 17, 18, 19, 20, 21, 22, 23, 24, 25, 26, 27, 28, 29, 30, 31, 32, 33, 34, 35, 36, 37, 38, 39, 40, 41, 42, 43, 44, 45, 46, 47, 48, 49, 50, 51, 52, 53, 54, 55, 56, 57, 58, 59, 60, 61, 62, 63, 64, 65, 66, 67, 68, 69, 70, 71, 72, 73, 74] (by decide +kernel) (by decide +kernel)
set_option maxRecDepth 20000 in
theorem gX6_costsOf_X6_layChoice : GoodIn wsX6_costsOf (wsV RX6 197 RX6 yX6_layChoice wsX6_layChoice) := goodIn_app (goodIn_of _ (by decide +kernel)) ggX6_costsOf_X6_layChoice
theorem dX6_costsOf_0 : decode cX6_costsOf 0 = .ok (.aload_n 0, 1) := by decide +kernel
theorem dX6_costsOf_1 : decode cX6_costsOf 1 = .ok (.iload_n 1, 1) := by decide +kernel
theorem dX6_costsOf_2 : decode cX6_costsOf 2 = .ok (.invokevirtual 197, 3) := by decide +kernel
theorem dX6_costsOf_5 : decode cX6_costsOf 5 = .ok (.aload_n 0, 1) := by decide +kernel
theorem dX6_costsOf_6 : decode cX6_costsOf 6 = .ok (.getfield 43, 3) := by decide +kernel
theorem dX6_costsOf_9 : decode cX6_costsOf 9 = .ok (.iconst 0, 1) := by decide +kernel
theorem dX6_costsOf_10 : decode cX6_costsOf 10 = .ok (.iaload, 1) := by decide +kernel
theorem dX6_costsOf_11 : decode cX6_costsOf 11 = .ok (.ireturn, 1) := by decide +kernel
set_option maxRecDepth 20000 in
theorem ggX6_bestOf_X6_different : GoodIn wsX6_bestOf wsX6_different := goodIn_r _ [5, 6, 7, 4, 8, 9, 10, 11] (by decide +kernel) (by decide +kernel)
set_option maxRecDepth 20000 in
theorem gX6_bestOf_X6_different : GoodIn wsX6_bestOf (va_wsS RX6 132 yX6_different wsX6_different) := goodIn_app (goodIn_of _ (by decide +kernel)) ggX6_bestOf_X6_different
set_option maxRecDepth 20000 in
theorem ggX6_bestOf_X6_costsOf : GoodIn wsX6_bestOf wsX6_costsOf := goodIn_r _ [15, 16, 17, 18, 19, 4, 20, 1, 21, 22, 23, 24, 25, 26, 27, 6, 7, 8, 9, 10, 11, 28, 29, 30, 31, 32, 33, 34, 35, 36, 37, 38, 39, 40, 41, 42, 43, 44, 45, 46, 47, 48, 49, 50, 51, 52, 53, 54, 55, 56, 57, 58, 59, 60, 61, 62, 63, 64, 65, 66, 67, 68, 69, 70, 71, 72, 73, 74, 75, 76, 77, 78, 79, 80, 81] (by decide +kernel) (by decide +kernel)
set_option maxRecDepth 20000 in
theorem gX6_bestOf_X6_costsOf : GoodIn wsX6_bestOf (wsV RX6 200 RX6 yX6_costsOf wsX6_costsOf) := goodIn_app (goodIn_of _ (by decide +kernel)) ggX6_bestOf_X6_costsOf
theorem dX6_bestOf_0 : decode cX6_bestOf 0 = .ok (.iconst (-1), 1) := by decide +kernel
theorem dX6_bestOf_1 : decode cX6_bestOf 1 = .ok (.istore_n 3, 1) := by decide +kernel
theorem dX6_bestOf_2 : decode cX6_bestOf 2 = .ok (.iconst 0, 1) := by decide +kernel
theorem dX6_bestOf_3 : decode cX6_bestOf 3 = .ok (.istore 4, 2) := by decide +kernel
theorem dX6_bestOf_5 : decode cX6_bestOf 5 = .ok (.iconst 0, 1) := by decide +kernel
theorem dX6_bestOf_6 : decode cX6_bestOf 6 = .ok (.istore 5, 2) := by decide +kernel
theorem dX6_bestOf_8 : decode cX6_bestOf 8 = .ok (.iload 5, 2) := by decide +kernel
theorem dX6_bestOf_10 : decode cX6_bestOf 10 = .ok (.iconst 1, 1) := by decide +kernel
theorem dX6_bestOf_11 : decode cX6_bestOf 11 = .ok (.aload_n 0, 1) := by decide +kernel
theorem dX6_bestOf_12 : decode cX6_bestOf 12 = .ok (.getfield 17, 3) := by decide +kernel
theorem dX6_bestOf_15 : decode cX6_bestOf 15 = .ok (.invokestatic 132, 3) := by decide +kernel
theorem dX6_bestOf_18 : decode cX6_bestOf 18 = .ok (.ishl, 1) := by decide +kernel
theorem dX6_bestOf_19 : decode cX6_bestOf 19 = .ok (.if_icmp .ge 57, 3) := by decide +kernel
theorem dX6_bestOf_22 : decode cX6_bestOf 22 = .ok (.iload 5, 2) := by decide +kernel
theorem dX6_bestOf_24 : decode cX6_bestOf 24 = .ok (.iload_n 1, 1) := by decide +kernel
theorem dX6_bestOf_25 : decode cX6_bestOf 25 = .ok (.iand, 1) := by decide +kernel
theorem dX6_bestOf_26 : decode cX6_bestOf 26 = .ok (.iload_n 1, 1) := by decide +kernel
theorem dX6_bestOf_27 : decode cX6_bestOf 27 = .ok (.if_icmp .ne 43, 3) := by decide +kernel
theorem dX6_bestOf_30 : decode cX6_bestOf 30 = .ok (.iload 5, 2) := by decide +kernel
theorem dX6_bestOf_32 : decode cX6_bestOf 32 = .ok (.iload_n 2, 1) := by decide +kernel
theorem dX6_bestOf_33 : decode cX6_bestOf 33 = .ok (.iand, 1) := by decide +kernel
theorem dX6_bestOf_34 : decode cX6_bestOf 34 = .ok (.ifCond .eq 6, 3) := by decide +kernel
theorem dX6_bestOf_37 : decode cX6_bestOf 37 = .ok (.goto 33, 3) := by decide +kernel
theorem dX6_bestOf_40 : decode cX6_bestOf 40 = .ok (.aload_n 0, 1) := by decide +kernel
theorem dX6_bestOf_41 : decode cX6_bestOf 41 = .ok (.iload 5, 2) := by decide +kernel
theorem dX6_bestOf_43 : decode cX6_bestOf 43 = .ok (.invokevirtual 200, 3) := by decide +kernel
theorem dX6_bestOf_46 : decode cX6_bestOf 46 = .ok (.istore 6, 2) := by decide +kernel
theorem dX6_bestOf_48 : decode cX6_bestOf 48 = .ok (.iload_n 3, 1) := by decide +kernel
theorem dX6_bestOf_49 : decode cX6_bestOf 49 = .ok (.iconst (-1), 1) := by decide +kernel
theorem dX6_bestOf_50 : decode cX6_bestOf 50 = .ok (.if_icmp .eq 13, 3) := by decide +kernel
theorem dX6_bestOf_53 : decode cX6_bestOf 53 = .ok (.iload 6, 2) := by decide +kernel
theorem dX6_bestOf_55 : decode cX6_bestOf 55 = .ok (.iload 4, 2) := by decide +kernel
theorem dX6_bestOf_57 : decode cX6_bestOf 57 = .ok (.if_icmp .lt 6, 3) := by decide +kernel
theorem dX6_bestOf_60 : decode cX6_bestOf 60 = .ok (.goto 10, 3) := by decide +kernel
theorem dX6_bestOf_63 : decode cX6_bestOf 63 = .ok (.iload 5, 2) := by decide +kernel
theorem dX6_bestOf_65 : decode cX6_bestOf 65 = .ok (.istore_n 3, 1) := by decide +kernel
theorem dX6_bestOf_66 : decode cX6_bestOf 66 = .ok (.iload 6, 2) := by decide +kernel
theorem dX6_bestOf_68 : decode cX6_bestOf 68 = .ok (.istore 4, 2) := by decide +kernel
theorem dX6_bestOf_70 : decode cX6_bestOf 70 = .ok (.iinc 5 1, 3) := by decide +kernel
theorem dX6_bestOf_73 : decode cX6_bestOf 73 = .ok (.goto (-65), 3) := by decide +kernel
theorem dX6_bestOf_76 : decode cX6_bestOf 76 = .ok (.iload_n 3, 1) := by decide +kernel
theorem dX6_bestOf_77 : decode cX6_bestOf 77 = .ok (.ireturn, 1) := by decide +kernel
set_option maxRecDepth 20000 in
theorem ggX6_carryNow_X6_costsOf : GoodIn wsX6_carryNow wsX6_costsOf := goodIn_r _ [6, 7, 8, 9, 10, 5, 11, 1, 12, 13, 14, 15, 16, 17, 18, 19, 20, 21, 22, 23, 24, 25, 26, 27, 28, 29, 30, 31, 32, 33, 34, 35, 36, 37, 38, 39, 40, 41, 42, 43, 44, 45, 46, 47, 48, 49, 50, 51, 52, 53, 54, 55, 56, 57, 58, 59, 60, 61, 62, 63, 64, 65, 66, 67, 68, 69, 70, 71, 72, 73, 74, 75, 76, 77, 78] (by decide +kernel) (by decide +kernel)
set_option maxRecDepth 20000 in
theorem gX6_carryNow_X6_costsOf : GoodIn wsX6_carryNow (wsV RX6 200 RX6 yX6_costsOf wsX6_costsOf) := goodIn_app (goodIn_of _ (by decide +kernel)) ggX6_carryNow_X6_costsOf
set_option maxRecDepth 20000 in
theorem ggX6_carryNow_X6_isChosen : GoodIn wsX6_carryNow wsX6_isChosen := goodIn_r _ [28, 1, 19, 20, 5, 21, 22, 23, 24, 29, 30, 31, 32, 57, 58, 59, 60, 61, 62, 63, 64, 65, 66, 67, 68, 69, 70, 71, 72, 73, 74, 75, 76, 77, 78] (by decide +kernel) (by decide +kernel)
set_option maxRecDepth 20000 in
theorem gX6_carryNow_X6_isChosen : GoodIn wsX6_carryNow (wsV RX6 180 RX6 yX6_isChosen wsX6_isChosen) := goodIn_app (goodIn_of _ (by decide +kernel)) ggX6_carryNow_X6_isChosen
set_option maxRecDepth 20000 in
theorem ggX6_carryNow_X6_differs : GoodIn wsX6_carryNow wsX6_differs := goodIn_r _ [21, 22, 23, 5, 24] (by decide +kernel) (by decide +kernel)
set_option maxRecDepth 20000 in
theorem gX6_carryNow_X6_differs : GoodIn wsX6_carryNow (va_wsS RX6 60 yX6_differs wsX6_differs) := goodIn_app (goodIn_of _ (by decide +kernel)) ggX6_carryNow_X6_differs
set_option maxRecDepth 20000 in
theorem ggX6_carryNow_X6_set : GoodIn wsX6_carryNow wsX6_set := goodIn_r _ [56, 1, 22, 23, 5, 24, 57, 58, 59, 60, 61, 62, 63, 64, 65, 66, 67, 68, 69, 70, 71, 72, 73, 74, 75, 76, 77, 78] (by decide +kernel) (by decide +kernel)
set_option maxRecDepth 20000 in
theorem gX6_carryNow_X6_set : GoodIn wsX6_carryNow (wsV RX6 193 RX6 yX6_set wsX6_set) := goodIn_app (goodIn_of _ (by decide +kernel)) ggX6_carryNow_X6_set
set_option maxRecDepth 20000 in
theorem ggX6_carryNow_X6_of : GoodIn wsX6_carryNow wsX6_of := goodIn_r _ [36, 1, 22, 23, 5, 24, 57, 58, 59, 60, 61, 62, 63, 64, 65, 66, 67, 68, 69, 70, 71, 72, 73, 74, 75, 76, 77, 78] (by decide +kernel) (by decide +kernel)
set_option maxRecDepth 20000 in
theorem gX6_carryNow_X6_of : GoodIn wsX6_carryNow (wsV RX6 168 RX6 yX6_of wsX6_of) := goodIn_app (goodIn_of _ (by decide +kernel)) ggX6_carryNow_X6_of
theorem dX6_carryNow_0 : decode cX6_carryNow 0 = .ok (.aload_n 0, 1) := by decide +kernel
theorem dX6_carryNow_1 : decode cX6_carryNow 1 = .ok (.iload_n 1, 1) := by decide +kernel
theorem dX6_carryNow_2 : decode cX6_carryNow 2 = .ok (.invokevirtual 200, 3) := by decide +kernel
theorem dX6_carryNow_5 : decode cX6_carryNow 5 = .ok (.istore_n 2, 1) := by decide +kernel
theorem dX6_carryNow_6 : decode cX6_carryNow 6 = .ok (.iconst 0, 1) := by decide +kernel
theorem dX6_carryNow_7 : decode cX6_carryNow 7 = .ok (.istore_n 3, 1) := by decide +kernel
theorem dX6_carryNow_8 : decode cX6_carryNow 8 = .ok (.iconst 0, 1) := by decide +kernel
theorem dX6_carryNow_9 : decode cX6_carryNow 9 = .ok (.istore 4, 2) := by decide +kernel
theorem dX6_carryNow_11 : decode cX6_carryNow 11 = .ok (.iload 4, 2) := by decide +kernel
theorem dX6_carryNow_13 : decode cX6_carryNow 13 = .ok (.aload_n 0, 1) := by decide +kernel
theorem dX6_carryNow_14 : decode cX6_carryNow 14 = .ok (.getfield 17, 3) := by decide +kernel
theorem dX6_carryNow_17 : decode cX6_carryNow 17 = .ok (.iconst 1, 1) := by decide +kernel
theorem dX6_carryNow_18 : decode cX6_carryNow 18 = .ok (.iaload, 1) := by decide +kernel
theorem dX6_carryNow_19 : decode cX6_carryNow 19 = .ok (.if_icmp .ge 30, 3) := by decide +kernel
theorem dX6_carryNow_22 : decode cX6_carryNow 22 = .ok (.iload_n 3, 1) := by decide +kernel
theorem dX6_carryNow_23 : decode cX6_carryNow 23 = .ok (.aload_n 0, 1) := by decide +kernel
theorem dX6_carryNow_24 : decode cX6_carryNow 24 = .ok (.iload_n 1, 1) := by decide +kernel
theorem dX6_carryNow_25 : decode cX6_carryNow 25 = .ok (.iload 4, 2) := by decide +kernel
theorem dX6_carryNow_27 : decode cX6_carryNow 27 = .ok (.invokevirtual 180, 3) := by decide +kernel
theorem dX6_carryNow_30 : decode cX6_carryNow 30 = .ok (.ifCond .eq 10, 3) := by decide +kernel
theorem dX6_carryNow_33 : decode cX6_carryNow 33 = .ok (.iconst 1, 1) := by decide +kernel
theorem dX6_carryNow_34 : decode cX6_carryNow 34 = .ok (.iload 4, 2) := by decide +kernel
theorem dX6_carryNow_36 : decode cX6_carryNow 36 = .ok (.ishl, 1) := by decide +kernel
theorem dX6_carryNow_37 : decode cX6_carryNow 37 = .ok (.goto 4, 3) := by decide +kernel
theorem dX6_carryNow_40 : decode cX6_carryNow 40 = .ok (.iconst 0, 1) := by decide +kernel
theorem dX6_carryNow_41 : decode cX6_carryNow 41 = .ok (.ior, 1) := by decide +kernel
theorem dX6_carryNow_42 : decode cX6_carryNow 42 = .ok (.istore_n 3, 1) := by decide +kernel
theorem dX6_carryNow_43 : decode cX6_carryNow 43 = .ok (.iinc 4 1, 3) := by decide +kernel
theorem dX6_carryNow_46 : decode cX6_carryNow 46 = .ok (.goto (-35), 3) := by decide +kernel
theorem dX6_carryNow_49 : decode cX6_carryNow 49 = .ok (.iconst 0, 1) := by decide +kernel
theorem dX6_carryNow_50 : decode cX6_carryNow 50 = .ok (.istore 4, 2) := by decide +kernel
theorem dX6_carryNow_52 : decode cX6_carryNow 52 = .ok (.iload 4, 2) := by decide +kernel
theorem dX6_carryNow_54 : decode cX6_carryNow 54 = .ok (.aload_n 0, 1) := by decide +kernel
theorem dX6_carryNow_55 : decode cX6_carryNow 55 = .ok (.getfield 17, 3) := by decide +kernel
theorem dX6_carryNow_58 : decode cX6_carryNow 58 = .ok (.iconst 1, 1) := by decide +kernel
theorem dX6_carryNow_59 : decode cX6_carryNow 59 = .ok (.iaload, 1) := by decide +kernel
theorem dX6_carryNow_60 : decode cX6_carryNow 60 = .ok (.if_icmp .ge 77, 3) := by decide +kernel
theorem dX6_carryNow_63 : decode cX6_carryNow 63 = .ok (.aload_n 0, 1) := by decide +kernel
theorem dX6_carryNow_64 : decode cX6_carryNow 64 = .ok (.getfield 17, 3) := by decide +kernel
theorem dX6_carryNow_67 : decode cX6_carryNow 67 = .ok (.iload 4, 2) := by decide +kernel
theorem dX6_carryNow_69 : decode cX6_carryNow 69 = .ok (.invokestatic 60, 3) := by decide +kernel
theorem dX6_carryNow_72 : decode cX6_carryNow 72 = .ok (.ifCond .ne 6, 3) := by decide +kernel
theorem dX6_carryNow_75 : decode cX6_carryNow 75 = .ok (.goto 56, 3) := by decide +kernel
theorem dX6_carryNow_78 : decode cX6_carryNow 78 = .ok (.iload_n 3, 1) := by decide +kernel
theorem dX6_carryNow_79 : decode cX6_carryNow 79 = .ok (.iload 4, 2) := by decide +kernel
theorem dX6_carryNow_81 : decode cX6_carryNow 81 = .ok (.ishr, 1) := by decide +kernel
theorem dX6_carryNow_82 : decode cX6_carryNow 82 = .ok (.iconst 1, 1) := by decide +kernel
theorem dX6_carryNow_83 : decode cX6_carryNow 83 = .ok (.iand, 1) := by decide +kernel
theorem dX6_carryNow_84 : decode cX6_carryNow 84 = .ok (.iconst 1, 1) := by decide +kernel
theorem dX6_carryNow_85 : decode cX6_carryNow 85 = .ok (.if_icmp .ne 7, 3) := by decide +kernel
theorem dX6_carryNow_88 : decode cX6_carryNow 88 = .ok (.iconst 1, 1) := by decide +kernel
theorem dX6_carryNow_89 : decode cX6_carryNow 89 = .ok (.goto 4, 3) := by decide +kernel
theorem dX6_carryNow_92 : decode cX6_carryNow 92 = .ok (.iconst 0, 1) := by decide +kernel
theorem dX6_carryNow_93 : decode cX6_carryNow 93 = .ok (.istore 5, 2) := by decide +kernel
theorem dX6_carryNow_95 : decode cX6_carryNow 95 = .ok (.aload_n 0, 1) := by decide +kernel
theorem dX6_carryNow_96 : decode cX6_carryNow 96 = .ok (.iload 4, 2) := by decide +kernel
theorem dX6_carryNow_98 : decode cX6_carryNow 98 = .ok (.iconst 5, 1) := by decide +kernel
theorem dX6_carryNow_99 : decode cX6_carryNow 99 = .ok (.iload 5, 2) := by decide +kernel
theorem dX6_carryNow_101 : decode cX6_carryNow 101 = .ok (.ifCond .eq 7, 3) := by decide +kernel
theorem dX6_carryNow_104 : decode cX6_carryNow 104 = .ok (.iconst 0, 1) := by decide +kernel
theorem dX6_carryNow_105 : decode cX6_carryNow 105 = .ok (.goto 4, 3) := by decide +kernel
theorem dX6_carryNow_108 : decode cX6_carryNow 108 = .ok (.iconst 1, 1) := by decide +kernel
theorem dX6_carryNow_109 : decode cX6_carryNow 109 = .ok (.invokevirtual 193, 3) := by decide +kernel
theorem dX6_carryNow_112 : decode cX6_carryNow 112 = .ok (.iload 5, 2) := by decide +kernel
theorem dX6_carryNow_114 : decode cX6_carryNow 114 = .ok (.ifCond .eq 17, 3) := by decide +kernel
theorem dX6_carryNow_117 : decode cX6_carryNow 117 = .ok (.aload_n 0, 1) := by decide +kernel
theorem dX6_carryNow_118 : decode cX6_carryNow 118 = .ok (.iload 4, 2) := by decide +kernel
theorem dX6_carryNow_120 : decode cX6_carryNow 120 = .ok (.iconst 3, 1) := by decide +kernel
theorem dX6_carryNow_121 : decode cX6_carryNow 121 = .ok (.aload_n 0, 1) := by decide +kernel
theorem dX6_carryNow_122 : decode cX6_carryNow 122 = .ok (.iload 4, 2) := by decide +kernel
theorem dX6_carryNow_124 : decode cX6_carryNow 124 = .ok (.iconst 4, 1) := by decide +kernel
theorem dX6_carryNow_125 : decode cX6_carryNow 125 = .ok (.invokevirtual 168, 3) := by decide +kernel
theorem dX6_carryNow_128 : decode cX6_carryNow 128 = .ok (.invokevirtual 193, 3) := by decide +kernel
theorem dX6_carryNow_131 : decode cX6_carryNow 131 = .ok (.iinc 4 1, 3) := by decide +kernel
theorem dX6_carryNow_134 : decode cX6_carryNow 134 = .ok (.goto (-82), 3) := by decide +kernel
theorem dX6_carryNow_137 : decode cX6_carryNow 137 = .ok (.aload_n 0, 1) := by decide +kernel
theorem dX6_carryNow_138 : decode cX6_carryNow 138 = .ok (.getfield 17, 3) := by decide +kernel
theorem dX6_carryNow_141 : decode cX6_carryNow 141 = .ok (.iconst 2, 1) := by decide +kernel
theorem dX6_carryNow_142 : decode cX6_carryNow 142 = .ok (.dup2, 1) := by decide +kernel
theorem dX6_carryNow_143 : decode cX6_carryNow 143 = .ok (.iaload, 1) := by decide +kernel
theorem dX6_carryNow_144 : decode cX6_carryNow 144 = .ok (.iload_n 2, 1) := by decide +kernel
theorem dX6_carryNow_145 : decode cX6_carryNow 145 = .ok (.iadd, 1) := by decide +kernel
theorem dX6_carryNow_146 : decode cX6_carryNow 146 = .ok (.iastore, 1) := by decide +kernel
theorem dX6_carryNow_147 : decode cX6_carryNow 147 = .ok (.iload_n 2, 1) := by decide +kernel
theorem dX6_carryNow_148 : decode cX6_carryNow 148 = .ok (.ireturn, 1) := by decide +kernel
set_option maxRecDepth 20000 in
theorem ggX6_noLot_X6_in : GoodIn wsX6_noLot wsX6_in := goodIn_r _ [5] (by decide +kernel) (by decide +kernel)
set_option maxRecDepth 20000 in
theorem gX6_noLot_X6_in : GoodIn wsX6_noLot (va_wsS RX6 82 yX6_in wsX6_in) := goodIn_app (goodIn_of _ (by decide +kernel)) ggX6_noLot_X6_in
set_option maxRecDepth 20000 in
theorem ggX6_noLot_X6_fails : GoodIn wsX6_noLot wsX6_fails := goodIn_r _ [9, 10, 11, 12, 13, 14, 15, 16, 17, 18, 19, 20, 21, 22, 23, 24, 25, 26, 27, 28, 29, 30, 31, 32] (by decide +kernel) (by decide +kernel)
set_option maxRecDepth 20000 in
theorem gX6_noLot_X6_fails : GoodIn wsX6_noLot (wsV RX6 152 RX6 yX6_fails wsX6_fails) := goodIn_app (goodIn_of _ (by decide +kernel)) ggX6_noLot_X6_fails
theorem dX6_noLot_0 : decode cX6_noLot 0 = .ok (.aload_n 0, 1) := by decide +kernel
theorem dX6_noLot_1 : decode cX6_noLot 1 = .ok (.iload_n 1, 1) := by decide +kernel
theorem dX6_noLot_2 : decode cX6_noLot 2 = .ok (.iconst 0, 1) := by decide +kernel
theorem dX6_noLot_3 : decode cX6_noLot 3 = .ok (.aload_n 0, 1) := by decide +kernel
theorem dX6_noLot_4 : decode cX6_noLot 4 = .ok (.getfield 17, 3) := by decide +kernel
theorem dX6_noLot_7 : decode cX6_noLot 7 = .ok (.iconst 1, 1) := by decide +kernel
theorem dX6_noLot_8 : decode cX6_noLot 8 = .ok (.iaload, 1) := by decide +kernel
theorem dX6_noLot_9 : decode cX6_noLot 9 = .ok (.iconst 1, 1) := by decide +kernel
theorem dX6_noLot_10 : decode cX6_noLot 10 = .ok (.isub, 1) := by decide +kernel
theorem dX6_noLot_11 : decode cX6_noLot 11 = .ok (.invokestatic 82, 3) := by decide +kernel
theorem dX6_noLot_14 : decode cX6_noLot 14 = .ok (.ifCond .ne 7, 3) := by decide +kernel
theorem dX6_noLot_17 : decode cX6_noLot 17 = .ok (.iconst 1, 1) := by decide +kernel
theorem dX6_noLot_18 : decode cX6_noLot 18 = .ok (.goto 4, 3) := by decide +kernel
theorem dX6_noLot_21 : decode cX6_noLot 21 = .ok (.iconst 0, 1) := by decide +kernel
theorem dX6_noLot_22 : decode cX6_noLot 22 = .ok (.iconst 1, 1) := by decide +kernel
theorem dX6_noLot_23 : decode cX6_noLot 23 = .ok (.invokevirtual 152, 3) := by decide +kernel
theorem dX6_noLot_26 : decode cX6_noLot 26 = .ok (.ireturn, 1) := by decide +kernel
set_option maxRecDepth 20000 in
theorem ggX6_sumOf_X6_of : GoodIn wsX6_sumOf wsX6_of := goodIn_r _ [6, 1, 7, 8, 5, 9, 10, 11, 12, 13, 14, 15, 16, 17, 18, 19, 20, 21, 22, 23, 24, 25, 26, 27, 28, 29, 30, 31] (by decide +kernel) (by decide +kernel)
set_option maxRecDepth 20000 in
theorem gX6_sumOf_X6_of : GoodIn wsX6_sumOf (wsV RX6 168 RX6 yX6_of wsX6_of) := goodIn_app (goodIn_of _ (by decide +kernel)) ggX6_sumOf_X6_of
theorem dX6_sumOf_0 : decode cX6_sumOf 0 = .ok (.iconst 0, 1) := by decide +kernel
theorem dX6_sumOf_1 : decode cX6_sumOf 1 = .ok (.istore_n 2, 1) := by decide +kernel
theorem dX6_sumOf_2 : decode cX6_sumOf 2 = .ok (.iconst 0, 1) := by decide +kernel
theorem dX6_sumOf_3 : decode cX6_sumOf 3 = .ok (.istore_n 3, 1) := by decide +kernel
theorem dX6_sumOf_4 : decode cX6_sumOf 4 = .ok (.iload_n 3, 1) := by decide +kernel
theorem dX6_sumOf_5 : decode cX6_sumOf 5 = .ok (.aload_n 0, 1) := by decide +kernel
theorem dX6_sumOf_6 : decode cX6_sumOf 6 = .ok (.getfield 17, 3) := by decide +kernel
theorem dX6_sumOf_9 : decode cX6_sumOf 9 = .ok (.iconst 1, 1) := by decide +kernel
theorem dX6_sumOf_10 : decode cX6_sumOf 10 = .ok (.iaload, 1) := by decide +kernel
theorem dX6_sumOf_11 : decode cX6_sumOf 11 = .ok (.if_icmp .ge 18, 3) := by decide +kernel
theorem dX6_sumOf_14 : decode cX6_sumOf 14 = .ok (.iload_n 2, 1) := by decide +kernel
theorem dX6_sumOf_15 : decode cX6_sumOf 15 = .ok (.aload_n 0, 1) := by decide +kernel
theorem dX6_sumOf_16 : decode cX6_sumOf 16 = .ok (.iload_n 3, 1) := by decide +kernel
theorem dX6_sumOf_17 : decode cX6_sumOf 17 = .ok (.iload_n 1, 1) := by decide +kernel
theorem dX6_sumOf_18 : decode cX6_sumOf 18 = .ok (.invokevirtual 168, 3) := by decide +kernel
theorem dX6_sumOf_21 : decode cX6_sumOf 21 = .ok (.iadd, 1) := by decide +kernel
theorem dX6_sumOf_22 : decode cX6_sumOf 22 = .ok (.istore_n 2, 1) := by decide +kernel
theorem dX6_sumOf_23 : decode cX6_sumOf 23 = .ok (.iinc 3 1, 3) := by decide +kernel
theorem dX6_sumOf_26 : decode cX6_sumOf 26 = .ok (.goto (-22), 3) := by decide +kernel
theorem dX6_sumOf_29 : decode cX6_sumOf 29 = .ok (.iload_n 2, 1) := by decide +kernel
theorem dX6_sumOf_30 : decode cX6_sumOf 30 = .ok (.ireturn, 1) := by decide +kernel
set_option maxRecDepth 20000 in
theorem ggX6_wantedEstimates_X6_of : GoodIn wsX6_wantedEstimates wsX6_of := goodIn_r _ [6, 1, 7, 8, 5, 9, 10, 11, 12, 13, 14, 15, 16, 17, 18, 19, 20, 21, 22, 23, 24, 25, 26, 27, 28, 29, 30, 31] (by decide +kernel) (by decide +kernel)
set_option maxRecDepth 20000 in
theorem gX6_wantedEstimates_X6_of : GoodIn wsX6_wantedEstimates (wsV RX6 168 RX6 yX6_of wsX6_of) := goodIn_app (goodIn_of _ (by decide +kernel)) ggX6_wantedEstimates_X6_of
theorem dX6_wantedEstimates_0 : decode cX6_wantedEstimates 0 = .ok (.iconst 0, 1) := by decide +kernel
theorem dX6_wantedEstimates_1 : decode cX6_wantedEstimates 1 = .ok (.istore_n 1, 1) := by decide +kernel
theorem dX6_wantedEstimates_2 : decode cX6_wantedEstimates 2 = .ok (.iconst 0, 1) := by decide +kernel
theorem dX6_wantedEstimates_3 : decode cX6_wantedEstimates 3 = .ok (.istore_n 2, 1) := by decide +kernel
theorem dX6_wantedEstimates_4 : decode cX6_wantedEstimates 4 = .ok (.iload_n 2, 1) := by decide +kernel
theorem dX6_wantedEstimates_5 : decode cX6_wantedEstimates 5 = .ok (.aload_n 0, 1) := by decide +kernel
theorem dX6_wantedEstimates_6 : decode cX6_wantedEstimates 6 = .ok (.getfield 17, 3) := by decide +kernel
theorem dX6_wantedEstimates_9 : decode cX6_wantedEstimates 9 = .ok (.iconst 1, 1) := by decide +kernel
theorem dX6_wantedEstimates_10 : decode cX6_wantedEstimates 10 = .ok (.iaload, 1) := by decide +kernel
theorem dX6_wantedEstimates_11 : decode cX6_wantedEstimates 11 = .ok (.if_icmp .ge 25, 3) := by decide +kernel
theorem dX6_wantedEstimates_14 : decode cX6_wantedEstimates 14 = .ok (.iload_n 1, 1) := by decide +kernel
theorem dX6_wantedEstimates_15 : decode cX6_wantedEstimates 15 = .ok (.aload_n 0, 1) := by decide +kernel
theorem dX6_wantedEstimates_16 : decode cX6_wantedEstimates 16 = .ok (.iload_n 2, 1) := by decide +kernel
theorem dX6_wantedEstimates_17 : decode cX6_wantedEstimates 17 = .ok (.iconst 4, 1) := by decide +kernel
theorem dX6_wantedEstimates_18 : decode cX6_wantedEstimates 18 = .ok (.invokevirtual 168, 3) := by decide +kernel
theorem dX6_wantedEstimates_21 : decode cX6_wantedEstimates 21 = .ok (.aload_n 0, 1) := by decide +kernel
theorem dX6_wantedEstimates_22 : decode cX6_wantedEstimates 22 = .ok (.iload_n 2, 1) := by decide +kernel
theorem dX6_wantedEstimates_23 : decode cX6_wantedEstimates 23 = .ok (.iconst 1, 1) := by decide +kernel
theorem dX6_wantedEstimates_24 : decode cX6_wantedEstimates 24 = .ok (.invokevirtual 168, 3) := by decide +kernel
theorem dX6_wantedEstimates_27 : decode cX6_wantedEstimates 27 = .ok (.imul, 1) := by decide +kernel
theorem dX6_wantedEstimates_28 : decode cX6_wantedEstimates 28 = .ok (.iadd, 1) := by decide +kernel
theorem dX6_wantedEstimates_29 : decode cX6_wantedEstimates 29 = .ok (.istore_n 1, 1) := by decide +kernel
theorem dX6_wantedEstimates_30 : decode cX6_wantedEstimates 30 = .ok (.iinc 2 1, 3) := by decide +kernel
theorem dX6_wantedEstimates_33 : decode cX6_wantedEstimates 33 = .ok (.goto (-29), 3) := by decide +kernel
theorem dX6_wantedEstimates_36 : decode cX6_wantedEstimates 36 = .ok (.iload_n 1, 1) := by decide +kernel
theorem dX6_wantedEstimates_37 : decode cX6_wantedEstimates 37 = .ok (.ireturn, 1) := by decide +kernel
set_option maxRecDepth 20000 in
theorem ggX6_printedLines_X6_of : GoodIn wsX6_printedLines wsX6_of := goodIn_r _ [6, 1, 7, 8, 5, 9, 10, 11, 12, 13, 14, 15, 16, 17, 18, 19, 20, 21, 22, 23, 24, 25, 26, 27, 28, 29, 30, 31] (by decide +kernel) (by decide +kernel)
set_option maxRecDepth 20000 in
theorem gX6_printedLines_X6_of : GoodIn wsX6_printedLines (wsV RX6 168 RX6 yX6_of wsX6_of) := goodIn_app (goodIn_of _ (by decide +kernel)) ggX6_printedLines_X6_of
theorem dX6_printedLines_0 : decode cX6_printedLines 0 = .ok (.iconst 0, 1) := by decide +kernel
theorem dX6_printedLines_1 : decode cX6_printedLines 1 = .ok (.istore_n 1, 1) := by decide +kernel
theorem dX6_printedLines_2 : decode cX6_printedLines 2 = .ok (.iconst 0, 1) := by decide +kernel
theorem dX6_printedLines_3 : decode cX6_printedLines 3 = .ok (.istore_n 2, 1) := by decide +kernel
theorem dX6_printedLines_4 : decode cX6_printedLines 4 = .ok (.iload_n 2, 1) := by decide +kernel
theorem dX6_printedLines_5 : decode cX6_printedLines 5 = .ok (.aload_n 0, 1) := by decide +kernel
theorem dX6_printedLines_6 : decode cX6_printedLines 6 = .ok (.getfield 17, 3) := by decide +kernel
theorem dX6_printedLines_9 : decode cX6_printedLines 9 = .ok (.iconst 1, 1) := by decide +kernel
theorem dX6_printedLines_10 : decode cX6_printedLines 10 = .ok (.iaload, 1) := by decide +kernel
theorem dX6_printedLines_11 : decode cX6_printedLines 11 = .ok (.if_icmp .ge 25, 3) := by decide +kernel
theorem dX6_printedLines_14 : decode cX6_printedLines 14 = .ok (.iload_n 1, 1) := by decide +kernel
theorem dX6_printedLines_15 : decode cX6_printedLines 15 = .ok (.aload_n 0, 1) := by decide +kernel
theorem dX6_printedLines_16 : decode cX6_printedLines 16 = .ok (.iload_n 2, 1) := by decide +kernel
theorem dX6_printedLines_17 : decode cX6_printedLines 17 = .ok (.iconst 3, 1) := by decide +kernel
theorem dX6_printedLines_18 : decode cX6_printedLines 18 = .ok (.invokevirtual 168, 3) := by decide +kernel
theorem dX6_printedLines_21 : decode cX6_printedLines 21 = .ok (.aload_n 0, 1) := by decide +kernel
theorem dX6_printedLines_22 : decode cX6_printedLines 22 = .ok (.iload_n 2, 1) := by decide +kernel
theorem dX6_printedLines_23 : decode cX6_printedLines 23 = .ok (.iconst 0, 1) := by decide +kernel
theorem dX6_printedLines_24 : decode cX6_printedLines 24 = .ok (.invokevirtual 168, 3) := by decide +kernel
theorem dX6_printedLines_27 : decode cX6_printedLines 27 = .ok (.imul, 1) := by decide +kernel
theorem dX6_printedLines_28 : decode cX6_printedLines 28 = .ok (.iadd, 1) := by decide +kernel
theorem dX6_printedLines_29 : decode cX6_printedLines 29 = .ok (.istore_n 1, 1) := by decide +kernel
theorem dX6_printedLines_30 : decode cX6_printedLines 30 = .ok (.iinc 2 1, 3) := by decide +kernel
theorem dX6_printedLines_33 : decode cX6_printedLines 33 = .ok (.goto (-29), 3) := by decide +kernel
theorem dX6_printedLines_36 : decode cX6_printedLines 36 = .ok (.iload_n 1, 1) := by decide +kernel
theorem dX6_printedLines_37 : decode cX6_printedLines 37 = .ok (.ireturn, 1) := by decide +kernel
set_option maxRecDepth 20000 in
theorem ggX6_ofPage_X6_of : GoodIn wsX6_ofPage wsX6_of := goodIn_r _ [7, 1, 8, 9, 6, 10, 11, 12, 13, 14, 15, 16, 17, 18, 19, 20, 21, 22, 23, 24, 25, 26, 27, 28, 29, 30, 31, 32] (by decide +kernel) (by decide +kernel)
set_option maxRecDepth 20000 in
theorem gX6_ofPage_X6_of : GoodIn wsX6_ofPage (wsV RX6 168 RX6 yX6_of wsX6_of) := goodIn_app (goodIn_of _ (by decide +kernel)) ggX6_ofPage_X6_of
theorem dX6_ofPage_0 : decode cX6_ofPage 0 = .ok (.iconst 0, 1) := by decide +kernel
theorem dX6_ofPage_1 : decode cX6_ofPage 1 = .ok (.istore_n 3, 1) := by decide +kernel
theorem dX6_ofPage_2 : decode cX6_ofPage 2 = .ok (.iconst (-1), 1) := by decide +kernel
theorem dX6_ofPage_3 : decode cX6_ofPage 3 = .ok (.istore 4, 2) := by decide +kernel
theorem dX6_ofPage_5 : decode cX6_ofPage 5 = .ok (.aload_n 0, 1) := by decide +kernel
theorem dX6_ofPage_6 : decode cX6_ofPage 6 = .ok (.getfield 17, 3) := by decide +kernel
theorem dX6_ofPage_9 : decode cX6_ofPage 9 = .ok (.iconst 0, 1) := by decide +kernel
theorem dX6_ofPage_10 : decode cX6_ofPage 10 = .ok (.iaload, 1) := by decide +kernel
theorem dX6_ofPage_11 : decode cX6_ofPage 11 = .ok (.istore 5, 2) := by decide +kernel
theorem dX6_ofPage_13 : decode cX6_ofPage 13 = .ok (.iconst 0, 1) := by decide +kernel
theorem dX6_ofPage_14 : decode cX6_ofPage 14 = .ok (.istore 6, 2) := by decide +kernel
theorem dX6_ofPage_16 : decode cX6_ofPage 16 = .ok (.iconst 0, 1) := by decide +kernel
theorem dX6_ofPage_17 : decode cX6_ofPage 17 = .ok (.istore 7, 2) := by decide +kernel
