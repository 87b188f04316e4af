theorem dX6_told_129 : decode cX6_told 129 = .ok (.if_icmp .ge 22, 3) := by decide +kernel
theorem dX6_told_132 : decode cX6_told 132 = .ok (.iload 4, 2) := by decide +kernel
theorem dX6_told_134 : decode cX6_told 134 = .ok (.aload_n 0, 1) := by decide +kernel
theorem dX6_told_135 : decode cX6_told 135 = .ok (.aload_n 2, 1) := by decide +kernel
theorem dX6_told_136 : decode cX6_told 136 = .ok (.iload 5, 2) := by decide +kernel
theorem dX6_told_138 : decode cX6_told 138 = .ok (.iconst 2, 1) := by decide +kernel
theorem dX6_told_139 : decode cX6_told 139 = .ok (.invokevirtual 94, 3) := by decide +kernel
theorem dX6_told_142 : decode cX6_told 142 = .ok (.iadd, 1) := by decide +kernel
theorem dX6_told_143 : decode cX6_told 143 = .ok (.istore 4, 2) := by decide +kernel
theorem dX6_told_145 : decode cX6_told 145 = .ok (.iinc 5 1, 3) := by decide +kernel
theorem dX6_told_148 : decode cX6_told 148 = .ok (.goto (-24), 3) := by decide +kernel
theorem dX6_told_151 : decode cX6_told 151 = .ok (.iload_n 1, 1) := by decide +kernel
theorem dX6_told_152 : decode cX6_told 152 = .ok (.ifCond .ne 10, 3) := by decide +kernel
theorem dX6_told_155 : decode cX6_told 155 = .ok (.aload_n 0, 1) := by decide +kernel
theorem dX6_told_156 : decode cX6_told 156 = .ok (.getfield 7, 3) := by decide +kernel
theorem dX6_told_159 : decode cX6_told 159 = .ok (.goto 90, 3) := by decide +kernel
theorem dX6_told_162 : decode cX6_told 162 = .ok (.iload_n 1, 1) := by decide +kernel
theorem dX6_told_163 : decode cX6_told 163 = .ok (.iconst 1, 1) := by decide +kernel
theorem dX6_told_164 : decode cX6_told 164 = .ok (.if_icmp .ne 11, 3) := by decide +kernel
theorem dX6_told_167 : decode cX6_told 167 = .ok (.aload_n 0, 1) := by decide +kernel
theorem dX6_told_168 : decode cX6_told 168 = .ok (.getfield 22, 3) := by decide +kernel
theorem dX6_told_171 : decode cX6_told 171 = .ok (.arraylength, 1) := by decide +kernel
theorem dX6_told_172 : decode cX6_told 172 = .ok (.goto 77, 3) := by decide +kernel
theorem dX6_told_175 : decode cX6_told 175 = .ok (.iload_n 1, 1) := by decide +kernel
theorem dX6_told_176 : decode cX6_told 176 = .ok (.iconst 4, 1) := by decide +kernel
theorem dX6_told_177 : decode cX6_told 177 = .ok (.if_icmp .ne 10, 3) := by decide +kernel
theorem dX6_told_180 : decode cX6_told 180 = .ok (.aload_n 0, 1) := by decide +kernel
theorem dX6_told_181 : decode cX6_told 181 = .ok (.invokevirtual 77, 3) := by decide +kernel
theorem dX6_told_184 : decode cX6_told 184 = .ok (.goto 65, 3) := by decide +kernel
theorem dX6_told_187 : decode cX6_told 187 = .ok (.iload_n 1, 1) := by decide +kernel
theorem dX6_told_188 : decode cX6_told 188 = .ok (.bipush 6, 2) := by decide +kernel
theorem dX6_told_190 : decode cX6_told 190 = .ok (.if_icmp .ne 7, 3) := by decide +kernel
theorem dX6_told_193 : decode cX6_told 193 = .ok (.iload_n 3, 1) := by decide +kernel
theorem dX6_told_194 : decode cX6_told 194 = .ok (.goto 55, 3) := by decide +kernel
theorem dX6_told_197 : decode cX6_told 197 = .ok (.iload_n 1, 1) := by decide +kernel
theorem dX6_told_198 : decode cX6_told 198 = .ok (.bipush 7, 2) := by decide +kernel
theorem dX6_told_200 : decode cX6_told 200 = .ok (.if_icmp .ne 21, 3) := by decide +kernel
theorem dX6_told_203 : decode cX6_told 203 = .ok (.iload_n 3, 1) := by decide +kernel
theorem dX6_told_204 : decode cX6_told 204 = .ok (.iconst 4, 1) := by decide +kernel
theorem dX6_told_205 : decode cX6_told 205 = .ok (.idiv, 1) := by decide +kernel
theorem dX6_told_206 : decode cX6_told 206 = .ok (.iload_n 3, 1) := by decide +kernel
theorem dX6_told_207 : decode cX6_told 207 = .ok (.iconst 4, 1) := by decide +kernel
theorem dX6_told_208 : decode cX6_told 208 = .ok (.irem, 1) := by decide +kernel
theorem dX6_told_209 : decode cX6_told 209 = .ok (.ifCond .le 7, 3) := by decide +kernel
theorem dX6_told_212 : decode cX6_told 212 = .ok (.iconst 1, 1) := by decide +kernel
theorem dX6_told_213 : decode cX6_told 213 = .ok (.goto 4, 3) := by decide +kernel
theorem dX6_told_216 : decode cX6_told 216 = .ok (.iconst 0, 1) := by decide +kernel
theorem dX6_told_217 : decode cX6_told 217 = .ok (.iadd, 1) := by decide +kernel
theorem dX6_told_218 : decode cX6_told 218 = .ok (.goto 31, 3) := by decide +kernel
theorem dX6_told_221 : decode cX6_told 221 = .ok (.iload_n 1, 1) := by decide +kernel
theorem dX6_told_222 : decode cX6_told 222 = .ok (.bipush 8, 2) := by decide +kernel
theorem dX6_told_224 : decode cX6_told 224 = .ok (.if_icmp .ne 10, 3) := by decide +kernel
theorem dX6_told_227 : decode cX6_told 227 = .ok (.aload_n 0, 1) := by decide +kernel
theorem dX6_told_228 : decode cX6_told 228 = .ok (.getfield 27, 3) := by decide +kernel
theorem dX6_told_231 : decode cX6_told 231 = .ok (.goto 18, 3) := by decide +kernel
theorem dX6_told_234 : decode cX6_told 234 = .ok (.iload_n 1, 1) := by decide +kernel
theorem dX6_told_235 : decode cX6_told 235 = .ok (.bipush 11, 2) := by decide +kernel
theorem dX6_told_237 : decode cX6_told 237 = .ok (.if_icmp .ne 10, 3) := by decide +kernel
theorem dX6_told_240 : decode cX6_told 240 = .ok (.aload_n 0, 1) := by decide +kernel
theorem dX6_told_241 : decode cX6_told 241 = .ok (.getfield 13, 3) := by decide +kernel
theorem dX6_told_244 : decode cX6_told 244 = .ok (.goto 5, 3) := by decide +kernel
theorem dX6_told_247 : decode cX6_told 247 = .ok (.iload 4, 2) := by decide +kernel
theorem dX6_told_249 : decode cX6_told 249 = .ok (.ireturn, 1) := by decide +kernel
set_option maxRecDepth 20000 in
theorem ggX6_of_X6_number : GoodIn wsX6_of wsX6_number := goodIn_r _ [13] (by decide +kernel) (by decide +kernel)
set_option maxRecDepth 20000 in
theorem gX6_of_X6_number : GoodIn wsX6_of (wsV RX6 74 RX6 yX6_number wsX6_number) := goodIn_app (goodIn_of _ (by decide +kernel)) ggX6_of_X6_number
theorem dX6_of_0 : decode cX6_of 0 = .ok (.aload_n 0, 1) := by decide +kernel
theorem dX6_of_1 : decode cX6_of 1 = .ok (.getfield 22, 3) := by decide +kernel
theorem dX6_of_4 : decode cX6_of 4 = .ok (.iload_n 2, 1) := by decide +kernel
theorem dX6_of_5 : decode cX6_of 5 = .ok (.aaload, 1) := by decide +kernel
theorem dX6_of_6 : decode cX6_of 6 = .ok (.astore 4, 2) := by decide +kernel
theorem dX6_of_8 : decode cX6_of 8 = .ok (.iload_n 3, 1) := by decide +kernel
theorem dX6_of_9 : decode cX6_of 9 = .ok (.ifCond .ne 11, 3) := by decide +kernel
theorem dX6_of_12 : decode cX6_of 12 = .ok (.aload 4, 2) := by decide +kernel
theorem dX6_of_14 : decode cX6_of 14 = .ok (.getfield 53, 3) := by decide +kernel
theorem dX6_of_17 : decode cX6_of 17 = .ok (.goto 142, 3) := by decide +kernel
theorem dX6_of_20 : decode cX6_of 20 = .ok (.iload_n 3, 1) := by decide +kernel
theorem dX6_of_21 : decode cX6_of 21 = .ok (.iconst 1, 1) := by decide +kernel
theorem dX6_of_22 : decode cX6_of 22 = .ok (.if_icmp .ne 11, 3) := by decide +kernel
theorem dX6_of_25 : decode cX6_of 25 = .ok (.aload 4, 2) := by decide +kernel
theorem dX6_of_27 : decode cX6_of 27 = .ok (.getfield 91, 3) := by decide +kernel
theorem dX6_of_30 : decode cX6_of 30 = .ok (.goto 129, 3) := by decide +kernel
theorem dX6_of_33 : decode cX6_of 33 = .ok (.iload_n 3, 1) := by decide +kernel
theorem dX6_of_34 : decode cX6_of 34 = .ok (.iconst 2, 1) := by decide +kernel
theorem dX6_of_35 : decode cX6_of 35 = .ok (.if_icmp .ne 11, 3) := by decide +kernel
theorem dX6_of_38 : decode cX6_of 38 = .ok (.aload 4, 2) := by decide +kernel
theorem dX6_of_40 : decode cX6_of 40 = .ok (.getfield 98, 3) := by decide +kernel
theorem dX6_of_43 : decode cX6_of 43 = .ok (.goto 116, 3) := by decide +kernel
theorem dX6_of_46 : decode cX6_of 46 = .ok (.iload_n 3, 1) := by decide +kernel
theorem dX6_of_47 : decode cX6_of 47 = .ok (.iconst 3, 1) := by decide +kernel
theorem dX6_of_48 : decode cX6_of 48 = .ok (.if_icmp .ne 19, 3) := by decide +kernel
theorem dX6_of_51 : decode cX6_of 51 = .ok (.aload 4, 2) := by decide +kernel
theorem dX6_of_53 : decode cX6_of 53 = .ok (.getfield 47, 3) := by decide +kernel
theorem dX6_of_56 : decode cX6_of 56 = .ok (.ifCond .eq 7, 3) := by decide +kernel
theorem dX6_of_59 : decode cX6_of 59 = .ok (.iconst 1, 1) := by decide +kernel
theorem dX6_of_60 : decode cX6_of 60 = .ok (.goto 99, 3) := by decide +kernel
theorem dX6_of_63 : decode cX6_of 63 = .ok (.iconst 0, 1) := by decide +kernel
theorem dX6_of_64 : decode cX6_of 64 = .ok (.goto 95, 3) := by decide +kernel
theorem dX6_of_67 : decode cX6_of 67 = .ok (.iload_n 3, 1) := by decide +kernel
theorem dX6_of_68 : decode cX6_of 68 = .ok (.iconst 4, 1) := by decide +kernel
theorem dX6_of_69 : decode cX6_of 69 = .ok (.if_icmp .ne 19, 3) := by decide +kernel
theorem dX6_of_72 : decode cX6_of 72 = .ok (.aload 4, 2) := by decide +kernel
theorem dX6_of_74 : decode cX6_of 74 = .ok (.getfield 43, 3) := by decide +kernel
theorem dX6_of_77 : decode cX6_of 77 = .ok (.ifCond .eq 7, 3) := by decide +kernel
theorem dX6_of_80 : decode cX6_of 80 = .ok (.iconst 1, 1) := by decide +kernel
theorem dX6_of_81 : decode cX6_of 81 = .ok (.goto 78, 3) := by decide +kernel
theorem dX6_of_84 : decode cX6_of 84 = .ok (.iconst 0, 1) := by decide +kernel
theorem dX6_of_85 : decode cX6_of 85 = .ok (.goto 74, 3) := by decide +kernel
theorem dX6_of_88 : decode cX6_of 88 = .ok (.iload_n 3, 1) := by decide +kernel
theorem dX6_of_89 : decode cX6_of 89 = .ok (.iconst 5, 1) := by decide +kernel
theorem dX6_of_90 : decode cX6_of 90 = .ok (.if_icmp .ne 19, 3) := by decide +kernel
theorem dX6_of_93 : decode cX6_of 93 = .ok (.aload 4, 2) := by decide +kernel
theorem dX6_of_95 : decode cX6_of 95 = .ok (.getfield 85, 3) := by decide +kernel
theorem dX6_of_98 : decode cX6_of 98 = .ok (.ifCond .eq 7, 3) := by decide +kernel
theorem dX6_of_101 : decode cX6_of 101 = .ok (.iconst 1, 1) := by decide +kernel
theorem dX6_of_102 : decode cX6_of 102 = .ok (.goto 57, 3) := by decide +kernel
theorem dX6_of_105 : decode cX6_of 105 = .ok (.iconst 0, 1) := by decide +kernel
theorem dX6_of_106 : decode cX6_of 106 = .ok (.goto 53, 3) := by decide +kernel
theorem dX6_of_109 : decode cX6_of 109 = .ok (.iload_n 3, 1) := by decide +kernel
theorem dX6_of_110 : decode cX6_of 110 = .ok (.bipush 6, 2) := by decide +kernel
theorem dX6_of_112 : decode cX6_of 112 = .ok (.if_icmp .ne 12, 3) := by decide +kernel
theorem dX6_of_115 : decode cX6_of 115 = .ok (.aload_n 0, 1) := by decide +kernel
theorem dX6_of_116 : decode cX6_of 116 = .ok (.aload_n 1, 1) := by decide +kernel
theorem dX6_of_117 : decode cX6_of 117 = .ok (.iload_n 2, 1) := by decide +kernel
theorem dX6_of_118 : decode cX6_of 118 = .ok (.invokevirtual 74, 3) := by decide +kernel
theorem dX6_of_121 : decode cX6_of 121 = .ok (.goto 38, 3) := by decide +kernel
theorem dX6_of_124 : decode cX6_of 124 = .ok (.aload_n 1, 1) := by decide +kernel
theorem dX6_of_125 : decode cX6_of 125 = .ok (.iload_n 2, 1) := by decide +kernel
theorem dX6_of_126 : decode cX6_of 126 = .ok (.iaload, 1) := by decide +kernel
theorem dX6_of_127 : decode cX6_of 127 = .ok (.ifCond .ge 7, 3) := by decide +kernel
theorem dX6_of_130 : decode cX6_of 130 = .ok (.iconst (-1), 1) := by decide +kernel
theorem dX6_of_131 : decode cX6_of 131 = .ok (.goto 28, 3) := by decide +kernel
theorem dX6_of_134 : decode cX6_of 134 = .ok (.iload_n 3, 1) := by decide +kernel
theorem dX6_of_135 : decode cX6_of 135 = .ok (.bipush 7, 2) := by decide +kernel
theorem dX6_of_137 : decode cX6_of 137 = .ok (.if_icmp .ne 14, 3) := by decide +kernel
theorem dX6_of_140 : decode cX6_of 140 = .ok (.aload_n 1, 1) := by decide +kernel
theorem dX6_of_141 : decode cX6_of 141 = .ok (.iload_n 2, 1) := by decide +kernel
theorem dX6_of_142 : decode cX6_of 142 = .ok (.iaload, 1) := by decide +kernel
theorem dX6_of_143 : decode cX6_of 143 = .ok (.aload_n 0, 1) := by decide +kernel
theorem dX6_of_144 : decode cX6_of 144 = .ok (.getfield 7, 3) := by decide +kernel
theorem dX6_of_147 : decode cX6_of 147 = .ok (.idiv, 1) := by decide +kernel
theorem dX6_of_148 : decode cX6_of 148 = .ok (.goto 11, 3) := by decide +kernel
theorem dX6_of_151 : decode cX6_of 151 = .ok (.aload_n 1, 1) := by decide +kernel
theorem dX6_of_152 : decode cX6_of 152 = .ok (.iload_n 2, 1) := by decide +kernel
theorem dX6_of_153 : decode cX6_of 153 = .ok (.iaload, 1) := by decide +kernel
theorem dX6_of_154 : decode cX6_of 154 = .ok (.aload_n 0, 1) := by decide +kernel
theorem dX6_of_155 : decode cX6_of 155 = .ok (.getfield 7, 3) := by decide +kernel
theorem dX6_of_158 : decode cX6_of 158 = .ok (.irem, 1) := by decide +kernel
theorem dX6_of_159 : decode cX6_of 159 = .ok (.ireturn, 1) := by decide +kernel
set_option maxRecDepth 20000 in
theorem ggX6_checksum_X6_places : GoodIn wsX6_checksum wsX6_places := goodIn_r _ [7, 2, 8, 9, 10, 11, 12, 13, 6, 14, 15, 16, 17, 18, 19, 20, 21, 22, 23, 74, 75, 76, 77, 78, 79, 80, 81, 82, 83, 84] (by decide +kernel) (by decide +kernel)
set_option maxRecDepth 20000 in
theorem gX6_checksum_X6_places : GoodIn wsX6_checksum (wsV RX6 62 RX6 yX6_places wsX6_places) := goodIn_app (goodIn_of _ (by decide +kernel)) ggX6_checksum_X6_places
set_option maxRecDepth 20000 in
theorem ggX6_checksum_X6_told : GoodIn wsX6_checksum wsX6_told := goodIn_r _ [27, 2, 16, 15, 28, 29, 10, 30, 31, 3, 4, 5, 6, 7, 8, 9, 11, 12, 13, 14, 17, 18, 19, 20, 21, 22, 23, 32, 33, 34, 35, 36, 37, 38, 39, 40, 41, 42, 43, 44, 45, 46, 47, 74, 75, 76, 77, 78, 79, 80, 81, 82, 83, 84] (by decide +kernel) (by decide +kernel)
set_option maxRecDepth 20000 in
theorem gX6_checksum_X6_told : GoodIn wsX6_checksum (wsV RX6 103 RX6 yX6_told wsX6_told) := goodIn_app (goodIn_of _ (by decide +kernel)) ggX6_checksum_X6_told
set_option maxRecDepth 20000 in
theorem ggX6_checksum_X6_of : GoodIn wsX6_checksum wsX6_of := goodIn_r _ [51, 2, 9, 29, 52, 16, 15, 28, 10, 53, 54, 55, 6, 56, 74, 75, 76, 77, 78, 79, 80, 81, 82, 83, 84] (by decide +kernel) (by decide +kernel)
set_option maxRecDepth 20000 in
theorem gX6_checksum_X6_of : GoodIn wsX6_checksum (wsV RX6 106 RX6 yX6_of wsX6_of) := goodIn_app (goodIn_of _ (by decide +kernel)) ggX6_checksum_X6_of
set_option maxRecDepth 20000 in
theorem ggX6_checksum_X6_best : GoodIn wsX6_checksum wsX6_best := goodIn_r _ [60, 44, 45, 46, 6, 47, 2, 17, 18, 19, 20, 21, 22, 23, 61, 62, 63, 64, 8, 10, 36, 37, 38, 39, 28, 31, 65, 3, 4, 5, 7, 9, 11, 12, 13, 14, 15, 16, 32, 33, 34, 35, 66, 67, 68, 69, 53, 54, 55, 56, 70, 71, 72, 73, 74, 75, 76, 77, 78, 79, 80, 81, 82, 83, 84] (by decide +kernel) (by decide +kernel)
set_option maxRecDepth 20000 in
theorem gX6_checksum_X6_best : GoodIn wsX6_checksum (wsV RX6 109 RX6 yX6_best wsX6_best) := goodIn_app (goodIn_of _ (by decide +kernel)) ggX6_checksum_X6_best
set_option maxRecDepth 20000 in
theorem ggX6_checksum_X6_choice : GoodIn wsX6_checksum wsX6_choice := goodIn_r _ [64, 8, 10, 36, 37, 38, 39, 2, 28, 31, 65, 3, 4, 5, 6, 7, 9, 11, 12, 13, 14, 15, 16, 17, 18, 19, 20, 21, 22, 23, 32, 33, 34, 35, 66, 67, 68, 69, 53, 54, 55, 56, 44, 45, 46, 47, 70, 71, 72, 73, 74, 75, 76, 77, 78, 79, 80, 81, 82, 83, 84] (by decide +kernel) (by decide +kernel)
set_option maxRecDepth 20000 in
theorem gX6_checksum_X6_choice : GoodIn wsX6_checksum (wsV RX6 88 RX6 yX6_choice wsX6_choice) := goodIn_app (goodIn_of _ (by decide +kernel)) ggX6_checksum_X6_choice
theorem dX6_checksum_0 : decode cX6_checksum 0 = .ok (.aload_n 0, 1) := by decide +kernel
theorem dX6_checksum_1 : decode cX6_checksum 1 = .ok (.iconst 0, 1) := by decide +kernel
theorem dX6_checksum_2 : decode cX6_checksum 2 = .ok (.invokevirtual 62, 3) := by decide +kernel
theorem dX6_checksum_5 : decode cX6_checksum 5 = .ok (.astore_n 1, 1) := by decide +kernel
theorem dX6_checksum_6 : decode cX6_checksum 6 = .ok (.lconst 0, 1) := by decide +kernel
theorem dX6_checksum_7 : decode cX6_checksum 7 = .ok (.lstore_n 2, 1) := by decide +kernel
theorem dX6_checksum_8 : decode cX6_checksum 8 = .ok (.iconst 0, 1) := by decide +kernel
theorem dX6_checksum_9 : decode cX6_checksum 9 = .ok (.istore 4, 2) := by decide +kernel
theorem dX6_checksum_11 : decode cX6_checksum 11 = .ok (.iload 4, 2) := by decide +kernel
theorem dX6_checksum_13 : decode cX6_checksum 13 = .ok (.bipush 12, 2) := by decide +kernel
theorem dX6_checksum_15 : decode cX6_checksum 15 = .ok (.if_icmp .ge 23, 3) := by decide +kernel
theorem dX6_checksum_18 : decode cX6_checksum 18 = .ok (.ldc2_w 101, 3) := by decide +kernel
theorem dX6_checksum_21 : decode cX6_checksum 21 = .ok (.lload_n 2, 1) := by decide +kernel
theorem dX6_checksum_22 : decode cX6_checksum 22 = .ok (.lmul, 1) := by decide +kernel
theorem dX6_checksum_23 : decode cX6_checksum 23 = .ok (.aload_n 0, 1) := by decide +kernel
theorem dX6_checksum_24 : decode cX6_checksum 24 = .ok (.iload 4, 2) := by decide +kernel
theorem dX6_checksum_26 : decode cX6_checksum 26 = .ok (.invokevirtual 103, 3) := by decide +kernel
theorem dX6_checksum_29 : decode cX6_checksum 29 = .ok (.i2l, 1) := by decide +kernel
theorem dX6_checksum_30 : decode cX6_checksum 30 = .ok (.ladd, 1) := by decide +kernel
theorem dX6_checksum_31 : decode cX6_checksum 31 = .ok (.lstore_n 2, 1) := by decide +kernel
theorem dX6_checksum_32 : decode cX6_checksum 32 = .ok (.iinc 4 1, 3) := by decide +kernel
theorem dX6_checksum_35 : decode cX6_checksum 35 = .ok (.goto (-24), 3) := by decide +kernel
theorem dX6_checksum_38 : decode cX6_checksum 38 = .ok (.iconst 0, 1) := by decide +kernel
theorem dX6_checksum_39 : decode cX6_checksum 39 = .ok (.istore 4, 2) := by decide +kernel
theorem dX6_checksum_41 : decode cX6_checksum 41 = .ok (.iload 4, 2) := by decide +kernel
theorem dX6_checksum_43 : decode cX6_checksum 43 = .ok (.aload_n 0, 1) := by decide +kernel
theorem dX6_checksum_44 : decode cX6_checksum 44 = .ok (.getfield 22, 3) := by decide +kernel
theorem dX6_checksum_47 : decode cX6_checksum 47 = .ok (.arraylength, 1) := by decide +kernel
theorem dX6_checksum_48 : decode cX6_checksum 48 = .ok (.if_icmp .ge 42, 3) := by decide +kernel
theorem dX6_checksum_51 : decode cX6_checksum 51 = .ok (.iconst 0, 1) := by decide +kernel
theorem dX6_checksum_52 : decode cX6_checksum 52 = .ok (.istore 5, 2) := by decide +kernel
theorem dX6_checksum_54 : decode cX6_checksum 54 = .ok (.iload 5, 2) := by decide +kernel
theorem dX6_checksum_56 : decode cX6_checksum 56 = .ok (.bipush 9, 2) := by decide +kernel
theorem dX6_checksum_58 : decode cX6_checksum 58 = .ok (.if_icmp .ge 26, 3) := by decide +kernel
theorem dX6_checksum_61 : decode cX6_checksum 61 = .ok (.ldc2_w 101, 3) := by decide +kernel
theorem dX6_checksum_64 : decode cX6_checksum 64 = .ok (.lload_n 2, 1) := by decide +kernel
theorem dX6_checksum_65 : decode cX6_checksum 65 = .ok (.lmul, 1) := by decide +kernel
theorem dX6_checksum_66 : decode cX6_checksum 66 = .ok (.aload_n 0, 1) := by decide +kernel
theorem dX6_checksum_67 : decode cX6_checksum 67 = .ok (.aload_n 1, 1) := by decide +kernel
theorem dX6_checksum_68 : decode cX6_checksum 68 = .ok (.iload 4, 2) := by decide +kernel
theorem dX6_checksum_70 : decode cX6_checksum 70 = .ok (.iload 5, 2) := by decide +kernel
theorem dX6_checksum_72 : decode cX6_checksum 72 = .ok (.invokevirtual 106, 3) := by decide +kernel
theorem dX6_checksum_75 : decode cX6_checksum 75 = .ok (.i2l, 1) := by decide +kernel
theorem dX6_checksum_76 : decode cX6_checksum 76 = .ok (.ladd, 1) := by decide +kernel
theorem dX6_checksum_77 : decode cX6_checksum 77 = .ok (.lstore_n 2, 1) := by decide +kernel
theorem dX6_checksum_78 : decode cX6_checksum 78 = .ok (.iinc 5 1, 3) := by decide +kernel
theorem dX6_checksum_81 : decode cX6_checksum 81 = .ok (.goto (-27), 3) := by decide +kernel
theorem dX6_checksum_84 : decode cX6_checksum 84 = .ok (.iinc 4 1, 3) := by decide +kernel
theorem dX6_checksum_87 : decode cX6_checksum 87 = .ok (.goto (-46), 3) := by decide +kernel
theorem dX6_checksum_90 : decode cX6_checksum 90 = .ok (.aload_n 0, 1) := by decide +kernel
theorem dX6_checksum_91 : decode cX6_checksum 91 = .ok (.iconst 0, 1) := by decide +kernel
theorem dX6_checksum_92 : decode cX6_checksum 92 = .ok (.iconst (-1), 1) := by decide +kernel
theorem dX6_checksum_93 : decode cX6_checksum 93 = .ok (.invokevirtual 109, 3) := by decide +kernel
theorem dX6_checksum_96 : decode cX6_checksum 96 = .ok (.istore 4, 2) := by decide +kernel
theorem dX6_checksum_98 : decode cX6_checksum 98 = .ok (.ldc2_w 101, 3) := by decide +kernel
theorem dX6_checksum_101 : decode cX6_checksum 101 = .ok (.lload_n 2, 1) := by decide +kernel
theorem dX6_checksum_102 : decode cX6_checksum 102 = .ok (.lmul, 1) := by decide +kernel
theorem dX6_checksum_103 : decode cX6_checksum 103 = .ok (.iload 4, 2) := by decide +kernel
theorem dX6_checksum_105 : decode cX6_checksum 105 = .ok (.i2l, 1) := by decide +kernel
theorem dX6_checksum_106 : decode cX6_checksum 106 = .ok (.ladd, 1) := by decide +kernel
theorem dX6_checksum_107 : decode cX6_checksum 107 = .ok (.lstore_n 2, 1) := by decide +kernel
theorem dX6_checksum_108 : decode cX6_checksum 108 = .ok (.aload_n 0, 1) := by decide +kernel
theorem dX6_checksum_109 : decode cX6_checksum 109 = .ok (.iload 4, 2) := by decide +kernel
theorem dX6_checksum_111 : decode cX6_checksum 111 = .ok (.invokevirtual 88, 3) := by decide +kernel
theorem dX6_checksum_114 : decode cX6_checksum 114 = .ok (.astore 5, 2) := by decide +kernel
theorem dX6_checksum_116 : decode cX6_checksum 116 = .ok (.aload 5, 2) := by decide +kernel
theorem dX6_checksum_118 : decode cX6_checksum 118 = .ok (.arraylength, 1) := by decide +kernel
theorem dX6_checksum_119 : decode cX6_checksum 119 = .ok (.istore 6, 2) := by decide +kernel
theorem dX6_checksum_121 : decode cX6_checksum 121 = .ok (.iconst 0, 1) := by decide +kernel
theorem dX6_checksum_122 : decode cX6_checksum 122 = .ok (.istore 7, 2) := by decide +kernel
theorem dX6_checksum_124 : decode cX6_checksum 124 = .ok (.iload 7, 2) := by decide +kernel
theorem dX6_checksum_126 : decode cX6_checksum 126 = .ok (.iload 6, 2) := by decide +kernel
theorem dX6_checksum_128 : decode cX6_checksum 128 = .ok (.if_icmp .ge 26, 3) := by decide +kernel
theorem dX6_checksum_131 : decode cX6_checksum 131 = .ok (.aload 5, 2) := by decide +kernel
theorem dX6_checksum_133 : decode cX6_checksum 133 = .ok (.iload 7, 2) := by decide +kernel
theorem dX6_checksum_135 : decode cX6_checksum 135 = .ok (.iaload, 1) := by decide +kernel
theorem dX6_checksum_136 : decode cX6_checksum 136 = .ok (.istore 8, 2) := by decide +kernel
theorem dX6_checksum_138 : decode cX6_checksum 138 = .ok (.ldc2_w 101, 3) := by decide +kernel
theorem dX6_checksum_141 : decode cX6_checksum 141 = .ok (.lload_n 2, 1) := by decide +kernel
theorem dX6_checksum_142 : decode cX6_checksum 142 = .ok (.lmul, 1) := by decide +kernel
theorem dX6_checksum_143 : decode cX6_checksum 143 = .ok (.iload 8, 2) := by decide +kernel
theorem dX6_checksum_145 : decode cX6_checksum 145 = .ok (.i2l, 1) := by decide +kernel
theorem dX6_checksum_146 : decode cX6_checksum 146 = .ok (.ladd, 1) := by decide +kernel
theorem dX6_checksum_147 : decode cX6_checksum 147 = .ok (.lstore_n 2, 1) := by decide +kernel
theorem dX6_checksum_148 : decode cX6_checksum 148 = .ok (.iinc 7 1, 3) := by decide +kernel
theorem dX6_checksum_151 : decode cX6_checksum 151 = .ok (.goto (-27), 3) := by decide +kernel
theorem dX6_checksum_154 : decode cX6_checksum 154 = .ok (.lload_n 2, 1) := by decide +kernel
theorem dX6_checksum_155 : decode cX6_checksum 155 = .ok (.lreturn, 1) := by decide +kernel
