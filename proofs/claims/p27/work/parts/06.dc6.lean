set_option maxRecDepth 20000 in
theorem ggX5_init_X4_init : GoodIn wsX5_init wsX4_init := goodIn_r _ [27, 28, 2, 3, 29, 30, 31, 79, 80, 81, 82, 83, 84, 85, 86] (by decide +kernel) (by decide +kernel)
set_option maxRecDepth 20000 in
theorem gX5_init_X4_init_n9 : GoodIn wsX5_init (wsX4_init) := ggX5_init_X4_init
set_option maxRecDepth 20000 in
theorem ggX5_init_X0_init : GoodIn wsX5_init wsX0_init := goodIn_r _ [34, 35, 2, 3, 36, 37, 38, 39, 40, 41, 42, 43, 44, 45, 46, 47, 10, 48, 49, 50, 51, 52, 94, 95, 96, 97, 98, 99, 100, 101, 102, 103, 104] (by decide +kernel) (by decide +kernel)
set_option maxRecDepth 20000 in
theorem gX5_init_X0_init : GoodIn wsX5_init (wsX0_init) := ggX5_init_X0_init
set_option maxRecDepth 20000 in
theorem ggX5_init_X2_init : GoodIn wsX5_init wsX2_init := goodIn_r _ [55, 56, 2, 3, 57, 58, 9, 10, 59, 33, 34, 35, 36, 37, 38, 39, 40, 41, 42, 43, 44, 45, 46, 47, 48, 49, 50, 51, 52, 105, 106, 107, 94, 95, 96, 97, 98, 99, 100, 101, 102, 103, 104] (by decide +kernel) (by decide +kernel)
set_option maxRecDepth 20000 in
theorem gX5_init_X2_init : GoodIn wsX5_init (wsX2_init) := ggX5_init_X2_init
set_option maxRecDepth 20000 in
theorem ggX5_init_X3_init : GoodIn wsX5_init wsX3_init := goodIn_r _ [61, 62, 2, 3, 36, 63, 64, 65, 66, 67, 68, 108, 109, 110, 111, 112, 113, 114, 115, 116] (by decide +kernel) (by decide +kernel)
set_option maxRecDepth 20000 in
theorem gX5_init_X3_init_n35 : GoodIn wsX5_init (wsX3_init) := ggX5_init_X3_init
set_option maxRecDepth 20000 in
theorem ggX5_init_X1_init : GoodIn wsX5_init wsX1_init := goodIn_r _ [70, 71, 2, 3, 36, 72, 73, 74, 18, 19, 75, 41, 76, 77, 78, 60, 61, 62, 63, 64, 65, 66, 67, 68, 117, 118, 119, 120, 121, 122, 123, 124, 108, 109, 110, 111, 112, 113, 114, 115, 116] (by decide +kernel) (by decide +kernel)
set_option maxRecDepth 20000 in
theorem gX5_init_X1_init_n42 : GoodIn wsX5_init (wsX1_init) := ggX5_init_X1_init
theorem dX5_init_0 : decode cX5_init 0 = .ok (.aload_n 0, 1) := by decide +kernel
theorem dX5_init_1 : decode cX5_init 1 = .ok (.invokespecial 1, 3) := by decide +kernel
theorem dX5_init_4 : decode cX5_init 4 = .ok (.aload_n 0, 1) := by decide +kernel
theorem dX5_init_5 : decode cX5_init 5 = .ok (.new 7, 3) := by decide +kernel
theorem dX5_init_8 : decode cX5_init 8 = .ok (.dup, 1) := by decide +kernel
theorem dX5_init_9 : decode cX5_init 9 = .ok (.invokespecial 9, 3) := by decide +kernel
theorem dX5_init_12 : decode cX5_init 12 = .ok (.putfield 10, 3) := by decide +kernel
theorem dX5_init_15 : decode cX5_init 15 = .ok (.aload_n 0, 1) := by decide +kernel
theorem dX5_init_16 : decode cX5_init 16 = .ok (.new 16, 3) := by decide +kernel
theorem dX5_init_19 : decode cX5_init 19 = .ok (.dup, 1) := by decide +kernel
theorem dX5_init_20 : decode cX5_init 20 = .ok (.invokespecial 18, 3) := by decide +kernel
theorem dX5_init_23 : decode cX5_init 23 = .ok (.putfield 19, 3) := by decide +kernel
theorem dX5_init_26 : decode cX5_init 26 = .ok (.aload_n 0, 1) := by decide +kernel
theorem dX5_init_27 : decode cX5_init 27 = .ok (.new 16, 3) := by decide +kernel
theorem dX5_init_30 : decode cX5_init 30 = .ok (.dup, 1) := by decide +kernel
theorem dX5_init_31 : decode cX5_init 31 = .ok (.invokespecial 18, 3) := by decide +kernel
theorem dX5_init_34 : decode cX5_init 34 = .ok (.putfield 23, 3) := by decide +kernel
theorem dX5_init_37 : decode cX5_init 37 = .ok (.aload_n 0, 1) := by decide +kernel
theorem dX5_init_38 : decode cX5_init 38 = .ok (.new 26, 3) := by decide +kernel
theorem dX5_init_41 : decode cX5_init 41 = .ok (.dup, 1) := by decide +kernel
theorem dX5_init_42 : decode cX5_init 42 = .ok (.invokespecial 28, 3) := by decide +kernel
theorem dX5_init_45 : decode cX5_init 45 = .ok (.putfield 29, 3) := by decide +kernel
theorem dX5_init_48 : decode cX5_init 48 = .ok (.aload_n 0, 1) := by decide +kernel
theorem dX5_init_49 : decode cX5_init 49 = .ok (.new 33, 3) := by decide +kernel
theorem dX5_init_52 : decode cX5_init 52 = .ok (.dup, 1) := by decide +kernel
theorem dX5_init_53 : decode cX5_init 53 = .ok (.invokespecial 35, 3) := by decide +kernel
theorem dX5_init_56 : decode cX5_init 56 = .ok (.putfield 36, 3) := by decide +kernel
theorem dX5_init_59 : decode cX5_init 59 = .ok (.aload_n 0, 1) := by decide +kernel
theorem dX5_init_60 : decode cX5_init 60 = .ok (.new 40, 3) := by decide +kernel
theorem dX5_init_63 : decode cX5_init 63 = .ok (.dup, 1) := by decide +kernel
theorem dX5_init_64 : decode cX5_init 64 = .ok (.invokespecial 42, 3) := by decide +kernel
theorem dX5_init_67 : decode cX5_init 67 = .ok (.putfield 43, 3) := by decide +kernel
theorem dX5_init_70 : decode cX5_init 70 = .ok (.aload_n 0, 1) := by decide +kernel
theorem dX5_init_71 : decode cX5_init 71 = .ok (.iconst (-1), 1) := by decide +kernel
theorem dX5_init_72 : decode cX5_init 72 = .ok (.putfield 47, 3) := by decide +kernel
theorem dX5_init_75 : decode cX5_init 75 = .ok (.return_, 1) := by decide +kernel
set_option maxRecDepth 20000 in
theorem ggX5_append_X4_hasRoomFor : GoodIn wsX5_append wsX4_hasRoomFor := goodIn_r _ [7, 8, 21, 22, 23, 24, 25, 26, 27, 28] (by decide +kernel) (by decide +kernel)
set_option maxRecDepth 20000 in
theorem gX5_append_X4_hasRoomFor : GoodIn wsX5_append (wsV RX5 51 RX4 yX4_hasRoomFor wsX4_hasRoomFor) := goodIn_app (goodIn_of _ (by decide +kernel)) ggX5_append_X4_hasRoomFor
set_option maxRecDepth 20000 in
theorem ggX5_append_X4_putWord : GoodIn wsX5_append wsX4_putWord := goodIn_r _ [12, 8, 13, 21, 22, 23, 24, 25, 26, 27, 28] (by decide +kernel) (by decide +kernel)
set_option maxRecDepth 20000 in
theorem gX5_append_X4_putWord : GoodIn wsX5_append (wsV RX5 55 RX4 yX4_putWord wsX4_putWord) := goodIn_app (goodIn_of _ (by decide +kernel)) ggX5_append_X4_putWord
theorem dX5_append_0 : decode cX5_append 0 = .ok (.aload_n 0, 1) := by decide +kernel
theorem dX5_append_1 : decode cX5_append 1 = .ok (.getfield 10, 3) := by decide +kernel
theorem dX5_append_4 : decode cX5_append 4 = .ok (.bipush 20, 2) := by decide +kernel
theorem dX5_append_6 : decode cX5_append 6 = .ok (.invokevirtual 51, 3) := by decide +kernel
theorem dX5_append_9 : decode cX5_append 9 = .ok (.ifCond .ne 5, 3) := by decide +kernel
theorem dX5_append_12 : decode cX5_append 12 = .ok (.iconst (-1), 1) := by decide +kernel
theorem dX5_append_13 : decode cX5_append 13 = .ok (.ireturn, 1) := by decide +kernel
theorem dX5_append_14 : decode cX5_append 14 = .ok (.aload_n 0, 1) := by decide +kernel
theorem dX5_append_15 : decode cX5_append 15 = .ok (.getfield 10, 3) := by decide +kernel
theorem dX5_append_18 : decode cX5_append 18 = .ok (.iload_n 1, 1) := by decide +kernel
theorem dX5_append_19 : decode cX5_append 19 = .ok (.invokevirtual 55, 3) := by decide +kernel
theorem dX5_append_22 : decode cX5_append 22 = .ok (.aload_n 0, 1) := by decide +kernel
theorem dX5_append_23 : decode cX5_append 23 = .ok (.getfield 10, 3) := by decide +kernel
theorem dX5_append_26 : decode cX5_append 26 = .ok (.iload_n 2, 1) := by decide +kernel
theorem dX5_append_27 : decode cX5_append 27 = .ok (.invokevirtual 55, 3) := by decide +kernel
theorem dX5_append_30 : decode cX5_append 30 = .ok (.aload_n 0, 1) := by decide +kernel
theorem dX5_append_31 : decode cX5_append 31 = .ok (.getfield 10, 3) := by decide +kernel
theorem dX5_append_34 : decode cX5_append 34 = .ok (.iload_n 3, 1) := by decide +kernel
theorem dX5_append_35 : decode cX5_append 35 = .ok (.invokevirtual 55, 3) := by decide +kernel
theorem dX5_append_38 : decode cX5_append 38 = .ok (.aload_n 0, 1) := by decide +kernel
theorem dX5_append_39 : decode cX5_append 39 = .ok (.getfield 10, 3) := by decide +kernel
theorem dX5_append_42 : decode cX5_append 42 = .ok (.iload 4, 2) := by decide +kernel
theorem dX5_append_44 : decode cX5_append 44 = .ok (.invokevirtual 55, 3) := by decide +kernel
theorem dX5_append_47 : decode cX5_append 47 = .ok (.aload_n 0, 1) := by decide +kernel
theorem dX5_append_48 : decode cX5_append 48 = .ok (.getfield 10, 3) := by decide +kernel
theorem dX5_append_51 : decode cX5_append 51 = .ok (.iload 5, 2) := by decide +kernel
theorem dX5_append_53 : decode cX5_append 53 = .ok (.invokevirtual 55, 3) := by decide +kernel
theorem dX5_append_56 : decode cX5_append 56 = .ok (.aload_n 0, 1) := by decide +kernel
theorem dX5_append_57 : decode cX5_append 57 = .ok (.getfield 10, 3) := by decide +kernel
theorem dX5_append_60 : decode cX5_append 60 = .ok (.getfield 59, 3) := by decide +kernel
theorem dX5_append_63 : decode cX5_append 63 = .ok (.ireturn, 1) := by decide +kernel
set_option maxRecDepth 20000 in
theorem ggX5_load_X4_readInto : GoodIn wsX5_load wsX4_readInto := goodIn_r _ [15, 16, 17, 18, 19, 20, 14, 21, 22, 23, 24, 25, 26, 27, 28, 29, 30, 31, 32, 33, 34, 35, 36, 37, 38, 39, 40, 41, 42, 43, 44, 45, 46, 47, 48, 49, 50, 51, 52, 53, 54, 55, 56, 57, 58, 59, 60, 61, 62, 63, 64, 65, 66, 67, 68, 69, 70, 71, 72, 73, 74, 75, 76, 77, 78, 79, 80, 81, 82, 83, 84, 85, 86, 87, 88, 89, 90, 91, 92, 93, 94, 95, 96, 97, 98, 99, 100, 101, 102, 103, 104, 105, 106, 107, 108, 109, 110, 111, 112, 113, 114, 115, 116, 117, 118, 119, 120, 121, 122, 123, 124, 125, 126, 127, 128, 129, 130, 131, 132, 133, 134, 135, 136, 137, 138, 139, 140, 141, 142, 143, 144, 145, 146, 147, 148, 149, 150, 151, 152, 153, 154, 155, 156, 157, 158, 159, 160, 161, 162, 163, 164, 165, 166, 167, 168, 169, 170, 171, 172, 173, 242, 243, 244, 245, 246, 247, 248, 249, 250, 251, 252, 253, 254, 255, 256, 257, 258, 259, 260] (by decide +kernel) (by decide +kernel)
set_option maxRecDepth 20000 in
theorem gX5_load_X4_readInto : GoodIn wsX5_load (wsV RX5 69 RX4 yX4_readInto wsX4_readInto) := goodIn_app (goodIn_of _ (by decide +kernel)) ggX5_load_X4_readInto
set_option maxRecDepth 20000 in
theorem ggX5_load_X2_remember : GoodIn wsX5_load wsX2_remember := goodIn_r _ [178, 179, 180, 181, 182, 23, 24, 25, 183, 184, 185, 34, 186, 36, 37, 38, 39, 40, 187, 188, 189, 190, 156, 157, 158, 150, 151, 159, 261, 262, 263, 250, 251, 252, 253, 254, 255, 256, 257, 258, 259, 260] (by decide +kernel) (by decide +kernel)
set_option maxRecDepth 20000 in
theorem gX5_load_X2_remember : GoodIn wsX5_load (wsV RX5 76 RX2 yX2_remember wsX2_remember) := goodIn_app (goodIn_of _ (by decide +kernel)) ggX5_load_X2_remember
set_option maxRecDepth 20000 in
theorem ggX5_load_X0_copyFrom : GoodIn wsX5_load wsX0_copyFrom := goodIn_r _ [186, 36, 37, 38, 39, 40, 187, 188, 189, 190, 156, 157, 158, 150, 151, 159, 250, 251, 252, 253, 254, 255, 256, 257, 258, 259, 260] (by decide +kernel) (by decide +kernel)
set_option maxRecDepth 20000 in
theorem gX5_load_X0_copyFrom : GoodIn wsX5_load (wsV RX5 80 RX0 yX0_copyFrom wsX0_copyFrom) := goodIn_app (goodIn_of _ (by decide +kernel)) ggX5_load_X0_copyFrom
set_option maxRecDepth 20000 in
theorem ggX5_load_X5_settle : GoodIn wsX5_load wsX5_settle := goodIn_r _ [196, 197, 9, 198, 199, 200, 201, 202, 203, 204, 205, 206, 207, 208, 209, 210, 211, 212, 213, 214, 215, 216, 217, 218, 219, 220, 221, 222, 223, 224, 225, 226, 227, 228, 229, 230, 231, 232, 233, 234, 147, 148, 34, 149, 150, 151, 235, 236, 237, 238, 239, 240, 241, 250, 251, 252, 253, 254, 255, 256, 257, 258, 259, 260, 264, 265, 266, 267, 268, 269, 270, 271, 272, 273, 274, 275, 276, 277, 278, 279, 280] (by decide +kernel) (by decide +kernel)
set_option maxRecDepth 20000 in
theorem gX5_load_X5_settle : GoodIn wsX5_load (wsV RX5 83 RX5 yX5_settle wsX5_settle) := goodIn_app (goodIn_of _ (by decide +kernel)) ggX5_load_X5_settle
theorem dX5_load_0 : decode cX5_load 0 = .ok (.iload_n 1, 1) := by decide +kernel
theorem dX5_load_1 : decode cX5_load 1 = .ok (.ifCond .lt 14, 3) := by decide +kernel
theorem dX5_load_4 : decode cX5_load 4 = .ok (.iload_n 1, 1) := by decide +kernel
theorem dX5_load_5 : decode cX5_load 5 = .ok (.aload_n 0, 1) := by decide +kernel
theorem dX5_load_6 : decode cX5_load 6 = .ok (.getfield 10, 3) := by decide +kernel
theorem dX5_load_9 : decode cX5_load 9 = .ok (.getfield 59, 3) := by decide +kernel
theorem dX5_load_12 : decode cX5_load 12 = .ok (.if_icmp .le 13, 3) := by decide +kernel
theorem dX5_load_15 : decode cX5_load 15 = .ok (.new 62, 3) := by decide +kernel
theorem dX5_load_18 : decode cX5_load 18 = .ok (.dup, 1) := by decide +kernel
theorem dX5_load_19 : decode cX5_load 19 = .ok (.ldc 64, 2) := by decide +kernel
theorem dX5_load_21 : decode cX5_load 21 = .ok (.invokespecial 66, 3) := by decide +kernel
theorem dX5_load_24 : decode cX5_load 24 = .ok (.athrow, 1) := by decide +kernel
theorem dX5_load_25 : decode cX5_load 25 = .ok (.aload_n 0, 1) := by decide +kernel
theorem dX5_load_26 : decode cX5_load 26 = .ok (.getfield 10, 3) := by decide +kernel
theorem dX5_load_29 : decode cX5_load 29 = .ok (.aload_n 0, 1) := by decide +kernel
theorem dX5_load_30 : decode cX5_load 30 = .ok (.getfield 23, 3) := by decide +kernel
theorem dX5_load_33 : decode cX5_load 33 = .ok (.iload_n 1, 1) := by decide +kernel
theorem dX5_load_34 : decode cX5_load 34 = .ok (.invokevirtual 69, 3) := by decide +kernel
theorem dX5_load_37 : decode cX5_load 37 = .ok (.istore_n 2, 1) := by decide +kernel
theorem dX5_load_38 : decode cX5_load 38 = .ok (.aload_n 0, 1) := by decide +kernel
theorem dX5_load_39 : decode cX5_load 39 = .ok (.aload_n 0, 1) := by decide +kernel
theorem dX5_load_40 : decode cX5_load 40 = .ok (.getfield 10, 3) := by decide +kernel
theorem dX5_load_43 : decode cX5_load 43 = .ok (.getfield 73, 3) := by decide +kernel
theorem dX5_load_46 : decode cX5_load 46 = .ok (.putfield 47, 3) := by decide +kernel
theorem dX5_load_49 : decode cX5_load 49 = .ok (.iload_n 2, 1) := by decide +kernel
theorem dX5_load_50 : decode cX5_load 50 = .ok (.ifCond .eq 5, 3) := by decide +kernel
theorem dX5_load_53 : decode cX5_load 53 = .ok (.iload_n 2, 1) := by decide +kernel
theorem dX5_load_54 : decode cX5_load 54 = .ok (.ireturn, 1) := by decide +kernel
theorem dX5_load_55 : decode cX5_load 55 = .ok (.aload_n 0, 1) := by decide +kernel
theorem dX5_load_56 : decode cX5_load 56 = .ok (.getfield 29, 3) := by decide +kernel
theorem dX5_load_59 : decode cX5_load 59 = .ok (.aload_n 0, 1) := by decide +kernel
theorem dX5_load_60 : decode cX5_load 60 = .ok (.getfield 19, 3) := by decide +kernel
theorem dX5_load_63 : decode cX5_load 63 = .ok (.invokevirtual 76, 3) := by decide +kernel
theorem dX5_load_66 : decode cX5_load 66 = .ok (.aload_n 0, 1) := by decide +kernel
theorem dX5_load_67 : decode cX5_load 67 = .ok (.getfield 19, 3) := by decide +kernel
theorem dX5_load_70 : decode cX5_load 70 = .ok (.aload_n 0, 1) := by decide +kernel
theorem dX5_load_71 : decode cX5_load 71 = .ok (.getfield 23, 3) := by decide +kernel
theorem dX5_load_74 : decode cX5_load 74 = .ok (.invokevirtual 80, 3) := by decide +kernel
theorem dX5_load_77 : decode cX5_load 77 = .ok (.aload_n 0, 1) := by decide +kernel
theorem dX5_load_78 : decode cX5_load 78 = .ok (.invokevirtual 83, 3) := by decide +kernel
theorem dX5_load_81 : decode cX5_load 81 = .ok (.aload_n 0, 1) := by decide +kernel
theorem dX5_load_82 : decode cX5_load 82 = .ok (.getfield 19, 3) := by decide +kernel
theorem dX5_load_85 : decode cX5_load 85 = .ok (.getfield 86, 3) := by decide +kernel
theorem dX5_load_88 : decode cX5_load 88 = .ok (.ireturn, 1) := by decide +kernel
theorem dX5_errorOffset_0 : decode cX5_errorOffset 0 = .ok (.aload_n 0, 1) := by decide +kernel
theorem dX5_errorOffset_1 : decode cX5_errorOffset 1 = .ok (.getfield 47, 3) := by decide +kernel
theorem dX5_errorOffset_4 : decode cX5_errorOffset 4 = .ok (.ireturn, 1) := by decide +kernel
set_option maxRecDepth 20000 in
theorem ggX5_state_X0_wantedLots : GoodIn wsX5_state wsX0_wantedLots := goodIn_r _ [17, 18, 19, 48, 49, 50, 51, 52, 53, 54, 55, 56, 57, 58] (by decide +kernel) (by decide +kernel)
set_option maxRecDepth 20000 in
theorem gX5_state_X0_wantedLots : GoodIn wsX5_state (wsV RX5 95 RX0 yX0_wantedLots wsX0_wantedLots) := goodIn_app (goodIn_of _ (by decide +kernel)) ggX5_state_X0_wantedLots
set_option maxRecDepth 20000 in
theorem ggX5_state_X0_slippedLots : GoodIn wsX5_state wsX0_slippedLots := goodIn_r _ [23, 18, 24, 48, 49, 50, 51, 52, 53, 54, 55, 56, 57, 58] (by decide +kernel) (by decide +kernel)
set_option maxRecDepth 20000 in
theorem gX5_state_X0_slippedLots : GoodIn wsX5_state (wsV RX5 100 RX0 yX0_slippedLots wsX0_slippedLots) := goodIn_app (goodIn_of _ (by decide +kernel)) ggX5_state_X0_slippedLots
set_option maxRecDepth 20000 in
theorem ggX5_state_X3_gatherings : GoodIn wsX5_state wsX3_gatherings := goodIn_r _ [29, 30, 59, 60, 61, 62, 63, 64, 65, 66, 67] (by decide +kernel) (by decide +kernel)
set_option maxRecDepth 20000 in
theorem gX5_state_X3_gatherings : GoodIn wsX5_state (wsV RX5 106 RX3 yX3_gatherings wsX3_gatherings) := goodIn_app (goodIn_of _ (by decide +kernel)) ggX5_state_X3_gatherings
set_option maxRecDepth 20000 in
theorem ggX5_state_X0_wantedEstimates : GoodIn wsX5_state wsX0_wantedEstimates := goodIn_r _ [34, 18, 19, 35, 48, 49, 50, 51, 52, 53, 54, 55, 56, 57, 58] (by decide +kernel) (by decide +kernel)
set_option maxRecDepth 20000 in
theorem gX5_state_X0_wantedEstimates : GoodIn wsX5_state (wsV RX5 112 RX0 yX0_wantedEstimates wsX0_wantedEstimates) := goodIn_app (goodIn_of _ (by decide +kernel)) ggX5_state_X0_wantedEstimates
set_option maxRecDepth 20000 in
theorem ggX5_state_X3_blankLinesAheadOfLastPage : GoodIn wsX5_state wsX3_blankLinesAheadOfLastPage := goodIn_r _ [39, 30, 40, 59, 60, 61, 62, 63, 64, 65, 66, 67] (by decide +kernel) (by decide +kernel)
set_option maxRecDepth 20000 in
theorem gX5_state_X3_blankLinesAheadOfLastPage : GoodIn wsX5_state (wsV RX5 115 RX3 yX3_blankLinesAheadOfLastPage wsX3_blankLinesAheadOfLastPage) := goodIn_app (goodIn_of _ (by decide +kernel)) ggX5_state_X3_blankLinesAheadOfLastPage
theorem dX5_state_0 : decode cX5_state 0 = .ok (.iload_n 1, 1) := by decide +kernel
theorem dX5_state_1 : decode cX5_state 1 = .ok (.tableswitch 166 0 11 #[63, 71, 79, 87, 95, 103, 111, 119, 127, 135, 143, 158], 63) := by decide +kernel
theorem dX5_state_64 : decode cX5_state 64 = .ok (.aload_n 0, 1) := by decide +kernel
theorem dX5_state_65 : decode cX5_state 65 = .ok (.getfield 19, 3) := by decide +kernel
theorem dX5_state_68 : decode cX5_state 68 = .ok (.getfield 89, 3) := by decide +kernel
theorem dX5_state_71 : decode cX5_state 71 = .ok (.ireturn, 1) := by decide +kernel
theorem dX5_state_72 : decode cX5_state 72 = .ok (.aload_n 0, 1) := by decide +kernel
theorem dX5_state_73 : decode cX5_state 73 = .ok (.getfield 19, 3) := by decide +kernel
theorem dX5_state_76 : decode cX5_state 76 = .ok (.getfield 86, 3) := by decide +kernel
theorem dX5_state_79 : decode cX5_state 79 = .ok (.ireturn, 1) := by decide +kernel
theorem dX5_state_80 : decode cX5_state 80 = .ok (.aload_n 0, 1) := by decide +kernel
theorem dX5_state_81 : decode cX5_state 81 = .ok (.getfield 36, 3) := by decide +kernel
theorem dX5_state_84 : decode cX5_state 84 = .ok (.getfield 92, 3) := by decide +kernel
theorem dX5_state_87 : decode cX5_state 87 = .ok (.ireturn, 1) := by decide +kernel
theorem dX5_state_88 : decode cX5_state 88 = .ok (.aload_n 0, 1) := by decide +kernel
theorem dX5_state_89 : decode cX5_state 89 = .ok (.getfield 19, 3) := by decide +kernel
theorem dX5_state_92 : decode cX5_state 92 = .ok (.invokevirtual 95, 3) := by decide +kernel
theorem dX5_state_95 : decode cX5_state 95 = .ok (.ireturn, 1) := by decide +kernel
theorem dX5_state_96 : decode cX5_state 96 = .ok (.aload_n 0, 1) := by decide +kernel
theorem dX5_state_97 : decode cX5_state 97 = .ok (.getfield 43, 3) := by decide +kernel
theorem dX5_state_100 : decode cX5_state 100 = .ok (.getfield 99, 3) := by decide +kernel
theorem dX5_state_103 : decode cX5_state 103 = .ok (.ireturn, 1) := by decide +kernel
theorem dX5_state_104 : decode cX5_state 104 = .ok (.aload_n 0, 1) := by decide +kernel
theorem dX5_state_105 : decode cX5_state 105 = .ok (.getfield 19, 3) := by decide +kernel
theorem dX5_state_108 : decode cX5_state 108 = .ok (.invokevirtual 100, 3) := by decide +kernel
theorem dX5_state_111 : decode cX5_state 111 = .ok (.ireturn, 1) := by decide +kernel
theorem dX5_state_112 : decode cX5_state 112 = .ok (.aload_n 0, 1) := by decide +kernel
theorem dX5_state_113 : decode cX5_state 113 = .ok (.getfield 36, 3) := by decide +kernel
theorem dX5_state_116 : decode cX5_state 116 = .ok (.getfield 103, 3) := by decide +kernel
theorem dX5_state_119 : decode cX5_state 119 = .ok (.ireturn, 1) := by decide +kernel
theorem dX5_state_120 : decode cX5_state 120 = .ok (.aload_n 0, 1) := by decide +kernel
theorem dX5_state_121 : decode cX5_state 121 = .ok (.getfield 36, 3) := by decide +kernel
theorem dX5_state_124 : decode cX5_state 124 = .ok (.invokevirtual 106, 3) := by decide +kernel
theorem dX5_state_127 : decode cX5_state 127 = .ok (.ireturn, 1) := by decide +kernel
theorem dX5_state_128 : decode cX5_state 128 = .ok (.aload_n 0, 1) := by decide +kernel
theorem dX5_state_129 : decode cX5_state 129 = .ok (.getfield 19, 3) := by decide +kernel
theorem dX5_state_132 : decode cX5_state 132 = .ok (.getfield 109, 3) := by decide +kernel
theorem dX5_state_135 : decode cX5_state 135 = .ok (.ireturn, 1) := by decide +kernel
theorem dX5_state_136 : decode cX5_state 136 = .ok (.aload_n 0, 1) := by decide +kernel
theorem dX5_state_137 : decode cX5_state 137 = .ok (.getfield 19, 3) := by decide +kernel
theorem dX5_state_140 : decode cX5_state 140 = .ok (.invokevirtual 112, 3) := by decide +kernel
theorem dX5_state_143 : decode cX5_state 143 = .ok (.ireturn, 1) := by decide +kernel
theorem dX5_state_144 : decode cX5_state 144 = .ok (.aload_n 0, 1) := by decide +kernel
theorem dX5_state_145 : decode cX5_state 145 = .ok (.getfield 36, 3) := by decide +kernel
theorem dX5_state_148 : decode cX5_state 148 = .ok (.aload_n 0, 1) := by decide +kernel
theorem dX5_state_149 : decode cX5_state 149 = .ok (.getfield 19, 3) := by decide +kernel
theorem dX5_state_152 : decode cX5_state 152 = .ok (.getfield 89, 3) := by decide +kernel
theorem dX5_state_155 : decode cX5_state 155 = .ok (.invokevirtual 115, 3) := by decide +kernel
theorem dX5_state_158 : decode cX5_state 158 = .ok (.ireturn, 1) := by decide +kernel
theorem dX5_state_159 : decode cX5_state 159 = .ok (.aload_n 0, 1) := by decide +kernel
theorem dX5_state_160 : decode cX5_state 160 = .ok (.getfield 19, 3) := by decide +kernel
theorem dX5_state_163 : decode cX5_state 163 = .ok (.getfield 119, 3) := by decide +kernel
theorem dX5_state_166 : decode cX5_state 166 = .ok (.ireturn, 1) := by decide +kernel
theorem dX5_state_167 : decode cX5_state 167 = .ok (.new 62, 3) := by decide +kernel
theorem dX5_state_170 : decode cX5_state 170 = .ok (.dup, 1) := by decide +kernel
theorem dX5_state_171 : decode cX5_state 171 = .ok (.ldc 122, 2) := by decide +kernel
theorem dX5_state_173 : decode cX5_state 173 = .ok (.invokespecial 66, 3) := by decide +kernel
theorem dX5_state_176 : decode cX5_state 176 = .ok (.athrow, 1) := by decide +kernel
set_option maxRecDepth 20000 in
theorem ggX5_lot_X5_needLot : GoodIn wsX5_lot wsX5_needLot := goodIn_ca (goodIn_r _ [18, 19, 20, 3, 21, 22, 23, 24, 25, 26, 27, 28, 29, 30, 31, 32, 33, 34, 35, 36, 37, 38, 39] (by decide +kernel) (by decide +kernel)) (goodIn_sub (fun _ h => List.mem_cons_of_mem _ (List.mem_append_right _ h)) (by decide +kernel))
set_option maxRecDepth 20000 in
theorem gX5_lot_X5_needLot : GoodIn wsX5_lot (wsV RX5 124 RX5 yX5_needLot wsX5_needLot) := goodIn_app (goodIn_of _ (by decide +kernel)) ggX5_lot_X5_needLot
theorem dX5_lot_0 : decode cX5_lot 0 = .ok (.aload_n 0, 1) := by decide +kernel
theorem dX5_lot_1 : decode cX5_lot 1 = .ok (.iload_n 1, 1) := by decide +kernel
theorem dX5_lot_2 : decode cX5_lot 2 = .ok (.invokevirtual 124, 3) := by decide +kernel
theorem dX5_lot_5 : decode cX5_lot 5 = .ok (.iload_n 2, 1) := by decide +kernel
theorem dX5_lot_6 : decode cX5_lot 6 = .ok (.tableswitch 164 0 8 #[50, 60, 70, 80, 98, 116, 134, 144, 154], 50) := by decide +kernel
theorem dX5_lot_56 : decode cX5_lot 56 = .ok (.aload_n 0, 1) := by decide +kernel
theorem dX5_lot_57 : decode cX5_lot 57 = .ok (.getfield 19, 3) := by decide +kernel
theorem dX5_lot_60 : decode cX5_lot 60 = .ok (.getfield 127, 3) := by decide +kernel
theorem dX5_lot_63 : decode cX5_lot 63 = .ok (.iload_n 1, 1) := by decide +kernel
theorem dX5_lot_64 : decode cX5_lot 64 = .ok (.iaload, 1) := by decide +kernel
theorem dX5_lot_65 : decode cX5_lot 65 = .ok (.ireturn, 1) := by decide +kernel
theorem dX5_lot_66 : decode cX5_lot 66 = .ok (.aload_n 0, 1) := by decide +kernel
theorem dX5_lot_67 : decode cX5_lot 67 = .ok (.getfield 19, 3) := by decide +kernel
theorem dX5_lot_70 : decode cX5_lot 70 = .ok (.getfield 131, 3) := by decide +kernel
theorem dX5_lot_73 : decode cX5_lot 73 = .ok (.iload_n 1, 1) := by decide +kernel
theorem dX5_lot_74 : decode cX5_lot 74 = .ok (.iaload, 1) := by decide +kernel
theorem dX5_lot_75 : decode cX5_lot 75 = .ok (.ireturn, 1) := by decide +kernel
theorem dX5_lot_76 : decode cX5_lot 76 = .ok (.aload_n 0, 1) := by decide +kernel
theorem dX5_lot_77 : decode cX5_lot 77 = .ok (.getfield 19, 3) := by decide +kernel
theorem dX5_lot_80 : decode cX5_lot 80 = .ok (.getfield 134, 3) := by decide +kernel
theorem dX5_lot_83 : decode cX5_lot 83 = .ok (.iload_n 1, 1) := by decide +kernel
theorem dX5_lot_84 : decode cX5_lot 84 = .ok (.iaload, 1) := by decide +kernel
theorem dX5_lot_85 : decode cX5_lot 85 = .ok (.ireturn, 1) := by decide +kernel
theorem dX5_lot_86 : decode cX5_lot 86 = .ok (.aload_n 0, 1) := by decide +kernel
theorem dX5_lot_87 : decode cX5_lot 87 = .ok (.getfield 19, 3) := by decide +kernel
theorem dX5_lot_90 : decode cX5_lot 90 = .ok (.getfield 137, 3) := by decide +kernel
theorem dX5_lot_93 : decode cX5_lot 93 = .ok (.iload_n 1, 1) := by decide +kernel
theorem dX5_lot_94 : decode cX5_lot 94 = .ok (.baload, 1) := by decide +kernel
theorem dX5_lot_95 : decode cX5_lot 95 = .ok (.ifCond .eq 7, 3) := by decide +kernel
theorem dX5_lot_98 : decode cX5_lot 98 = .ok (.iconst 1, 1) := by decide +kernel
theorem dX5_lot_99 : decode cX5_lot 99 = .ok (.goto 4, 3) := by decide +kernel
theorem dX5_lot_102 : decode cX5_lot 102 = .ok (.iconst 0, 1) := by decide +kernel
theorem dX5_lot_103 : decode cX5_lot 103 = .ok (.ireturn, 1) := by decide +kernel
theorem dX5_lot_104 : decode cX5_lot 104 = .ok (.aload_n 0, 1) := by decide +kernel
theorem dX5_lot_105 : decode cX5_lot 105 = .ok (.getfield 19, 3) := by decide +kernel
theorem dX5_lot_108 : decode cX5_lot 108 = .ok (.getfield 141, 3) := by decide +kernel
theorem dX5_lot_111 : decode cX5_lot 111 = .ok (.iload_n 1, 1) := by decide +kernel
theorem dX5_lot_112 : decode cX5_lot 112 = .ok (.baload, 1) := by decide +kernel
theorem dX5_lot_113 : decode cX5_lot 113 = .ok (.ifCond .eq 7, 3) := by decide +kernel
theorem dX5_lot_116 : decode cX5_lot 116 = .ok (.iconst 1, 1) := by decide +kernel
theorem dX5_lot_117 : decode cX5_lot 117 = .ok (.goto 4, 3) := by decide +kernel
theorem dX5_lot_120 : decode cX5_lot 120 = .ok (.iconst 0, 1) := by decide +kernel
theorem dX5_lot_121 : decode cX5_lot 121 = .ok (.ireturn, 1) := by decide +kernel
theorem dX5_lot_122 : decode cX5_lot 122 = .ok (.aload_n 0, 1) := by decide +kernel
theorem dX5_lot_123 : decode cX5_lot 123 = .ok (.getfield 19, 3) := by decide +kernel
theorem dX5_lot_126 : decode cX5_lot 126 = .ok (.getfield 144, 3) := by decide +kernel
theorem dX5_lot_129 : decode cX5_lot 129 = .ok (.iload_n 1, 1) := by decide +kernel
theorem dX5_lot_130 : decode cX5_lot 130 = .ok (.baload, 1) := by decide +kernel
theorem dX5_lot_131 : decode cX5_lot 131 = .ok (.ifCond .eq 7, 3) := by decide +kernel
theorem dX5_lot_134 : decode cX5_lot 134 = .ok (.iconst 1, 1) := by decide +kernel
theorem dX5_lot_135 : decode cX5_lot 135 = .ok (.goto 4, 3) := by decide +kernel
theorem dX5_lot_138 : decode cX5_lot 138 = .ok (.iconst 0, 1) := by decide +kernel
theorem dX5_lot_139 : decode cX5_lot 139 = .ok (.ireturn, 1) := by decide +kernel
theorem dX5_lot_140 : decode cX5_lot 140 = .ok (.aload_n 0, 1) := by decide +kernel
theorem dX5_lot_141 : decode cX5_lot 141 = .ok (.getfield 36, 3) := by decide +kernel
theorem dX5_lot_144 : decode cX5_lot 144 = .ok (.getfield 147, 3) := by decide +kernel
theorem dX5_lot_147 : decode cX5_lot 147 = .ok (.iload_n 1, 1) := by decide +kernel
theorem dX5_lot_148 : decode cX5_lot 148 = .ok (.iaload, 1) := by decide +kernel
theorem dX5_lot_149 : decode cX5_lot 149 = .ok (.ireturn, 1) := by decide +kernel
theorem dX5_lot_150 : decode cX5_lot 150 = .ok (.aload_n 0, 1) := by decide +kernel
theorem dX5_lot_151 : decode cX5_lot 151 = .ok (.getfield 36, 3) := by decide +kernel
theorem dX5_lot_154 : decode cX5_lot 154 = .ok (.getfield 150, 3) := by decide +kernel
theorem dX5_lot_157 : decode cX5_lot 157 = .ok (.iload_n 1, 1) := by decide +kernel
theorem dX5_lot_158 : decode cX5_lot 158 = .ok (.iaload, 1) := by decide +kernel
theorem dX5_lot_159 : decode cX5_lot 159 = .ok (.ireturn, 1) := by decide +kernel
theorem dX5_lot_160 : decode cX5_lot 160 = .ok (.aload_n 0, 1) := by decide +kernel
theorem dX5_lot_161 : decode cX5_lot 161 = .ok (.getfield 36, 3) := by decide +kernel
theorem dX5_lot_164 : decode cX5_lot 164 = .ok (.getfield 153, 3) := by decide +kernel
theorem dX5_lot_167 : decode cX5_lot 167 = .ok (.iload_n 1, 1) := by decide +kernel
theorem dX5_lot_168 : decode cX5_lot 168 = .ok (.iaload, 1) := by decide +kernel
theorem dX5_lot_169 : decode cX5_lot 169 = .ok (.ireturn, 1) := by decide +kernel
theorem dX5_lot_170 : decode cX5_lot 170 = .ok (.new 62, 3) := by decide +kernel
theorem dX5_lot_173 : decode cX5_lot 173 = .ok (.dup, 1) := by decide +kernel
theorem dX5_lot_174 : decode cX5_lot 174 = .ok (.ldc 156, 2) := by decide +kernel
theorem dX5_lot_176 : decode cX5_lot 176 = .ok (.invokespecial 66, 3) := by decide +kernel
theorem dX5_lot_179 : decode cX5_lot 179 = .ok (.athrow, 1) := by decide +kernel
set_option maxRecDepth 20000 in
theorem ggX5_page_X5_needPage : GoodIn wsX5_page wsX5_needPage := goodIn_ca (goodIn_r _ [13, 14, 15, 3, 16, 25, 26, 27, 28, 29, 30, 31, 32, 33, 34, 35, 36, 37, 38, 39, 40] (by decide +kernel) (by decide +kernel)) (goodIn_sub (fun _ h => List.mem_cons_of_mem _ (List.mem_append_right _ h)) (by decide +kernel))
set_option maxRecDepth 20000 in
theorem gX5_page_X5_needPage : GoodIn wsX5_page (wsV RX5 158 RX5 yX5_needPage wsX5_needPage) := goodIn_app (goodIn_of _ (by decide +kernel)) ggX5_page_X5_needPage
set_option maxRecDepth 20000 in
theorem ggX5_page_X5_wantedEstimatesOn : GoodIn wsX5_page wsX5_wantedEstimatesOn := goodIn_r _ [20, 6, 21, 3, 22, 23, 24, 25, 26, 27, 28, 29, 30, 31, 41, 42, 43, 44, 45, 46, 47, 48, 49, 50, 51, 32, 33, 34, 35, 36, 37, 38, 39, 40] (by decide +kernel) (by decide +kernel)
set_option maxRecDepth 20000 in
theorem gX5_page_X5_wantedEstimatesOn : GoodIn wsX5_page (wsV RX5 170 RX5 yX5_wantedEstimatesOn wsX5_wantedEstimatesOn) := goodIn_app (goodIn_of _ (by decide +kernel)) ggX5_page_X5_wantedEstimatesOn
theorem dX5_page_0 : decode cX5_page 0 = .ok (.aload_n 0, 1) := by decide +kernel
theorem dX5_page_1 : decode cX5_page 1 = .ok (.iload_n 1, 1) := by decide +kernel
theorem dX5_page_2 : decode cX5_page 2 = .ok (.invokevirtual 158, 3) := by decide +kernel
theorem dX5_page_5 : decode cX5_page 5 = .ok (.iload_n 2, 1) := by decide +kernel
theorem dX5_page_6 : decode cX5_page 6 = .ok (.tableswitch 74 0 3 #[30, 40, 50, 68], 30) := by decide +kernel
theorem dX5_page_36 : decode cX5_page 36 = .ok (.aload_n 0, 1) := by decide +kernel
theorem dX5_page_37 : decode cX5_page 37 = .ok (.getfield 36, 3) := by decide +kernel
theorem dX5_page_40 : decode cX5_page 40 = .ok (.getfield 161, 3) := by decide +kernel
theorem dX5_page_43 : decode cX5_page 43 = .ok (.iload_n 1, 1) := by decide +kernel
theorem dX5_page_44 : decode cX5_page 44 = .ok (.iaload, 1) := by decide +kernel
theorem dX5_page_45 : decode cX5_page 45 = .ok (.ireturn, 1) := by decide +kernel
theorem dX5_page_46 : decode cX5_page 46 = .ok (.aload_n 0, 1) := by decide +kernel
theorem dX5_page_47 : decode cX5_page 47 = .ok (.getfield 36, 3) := by decide +kernel
theorem dX5_page_50 : decode cX5_page 50 = .ok (.getfield 164, 3) := by decide +kernel
theorem dX5_page_53 : decode cX5_page 53 = .ok (.iload_n 1, 1) := by decide +kernel
theorem dX5_page_54 : decode cX5_page 54 = .ok (.iaload, 1) := by decide +kernel
theorem dX5_page_55 : decode cX5_page 55 = .ok (.ireturn, 1) := by decide +kernel
theorem dX5_page_56 : decode cX5_page 56 = .ok (.aload_n 0, 1) := by decide +kernel
theorem dX5_page_57 : decode cX5_page 57 = .ok (.getfield 19, 3) := by decide +kernel
theorem dX5_page_60 : decode cX5_page 60 = .ok (.getfield 89, 3) := by decide +kernel
theorem dX5_page_63 : decode cX5_page 63 = .ok (.aload_n 0, 1) := by decide +kernel
theorem dX5_page_64 : decode cX5_page 64 = .ok (.getfield 36, 3) := by decide +kernel
theorem dX5_page_67 : decode cX5_page 67 = .ok (.getfield 167, 3) := by decide +kernel
theorem dX5_page_70 : decode cX5_page 70 = .ok (.iload_n 1, 1) := by decide +kernel
theorem dX5_page_71 : decode cX5_page 71 = .ok (.iaload, 1) := by decide +kernel
theorem dX5_page_72 : decode cX5_page 72 = .ok (.isub, 1) := by decide +kernel
theorem dX5_page_73 : decode cX5_page 73 = .ok (.ireturn, 1) := by decide +kernel
theorem dX5_page_74 : decode cX5_page 74 = .ok (.aload_n 0, 1) := by decide +kernel
theorem dX5_page_75 : decode cX5_page 75 = .ok (.iload_n 1, 1) := by decide +kernel
theorem dX5_page_76 : decode cX5_page 76 = .ok (.invokevirtual 170, 3) := by decide +kernel
theorem dX5_page_79 : decode cX5_page 79 = .ok (.ireturn, 1) := by decide +kernel
theorem dX5_page_80 : decode cX5_page 80 = .ok (.new 62, 3) := by decide +kernel
theorem dX5_page_83 : decode cX5_page 83 = .ok (.dup, 1) := by decide +kernel
theorem dX5_page_84 : decode cX5_page 84 = .ok (.ldc 173, 2) := by decide +kernel
theorem dX5_page_86 : decode cX5_page 86 = .ok (.invokespecial 66, 3) := by decide +kernel
theorem dX5_page_89 : decode cX5_page 89 = .ok (.athrow, 1) := by decide +kernel
set_option maxRecDepth 20000 in
theorem ggX5_standing_X5_needPage : GoodIn wsX5_standing wsX5_needPage := goodIn_ca (goodIn_r _ [14, 15, 16, 6, 17, 18, 19, 20, 21, 22, 23, 24, 36, 37, 38, 39, 40, 41, 42, 43, 44] (by decide +kernel) (by decide +kernel)) (goodIn_sub (fun _ h => List.mem_cons_of_mem _ (List.mem_append_right _ h)) (by decide +kernel))
set_option maxRecDepth 20000 in
theorem gX5_standing_X5_needPage : GoodIn wsX5_standing (wsV RX5 158 RX5 yX5_needPage wsX5_needPage) := goodIn_app (goodIn_of _ (by decide +kernel)) ggX5_standing_X5_needPage
theorem dX5_standing_0 : decode cX5_standing 0 = .ok (.aload_n 0, 1) := by decide +kernel
theorem dX5_standing_1 : decode cX5_standing 1 = .ok (.iload_n 1, 1) := by decide +kernel
theorem dX5_standing_2 : decode cX5_standing 2 = .ok (.invokevirtual 158, 3) := by decide +kernel
theorem dX5_standing_5 : decode cX5_standing 5 = .ok (.iload_n 2, 1) := by decide +kernel
theorem dX5_standing_6 : decode cX5_standing 6 = .ok (.ifCond .lt 14, 3) := by decide +kernel
theorem dX5_standing_9 : decode cX5_standing 9 = .ok (.iload_n 2, 1) := by decide +kernel
theorem dX5_standing_10 : decode cX5_standing 10 = .ok (.aload_n 0, 1) := by decide +kernel
theorem dX5_standing_11 : decode cX5_standing 11 = .ok (.getfield 19, 3) := by decide +kernel
theorem dX5_standing_14 : decode cX5_standing 14 = .ok (.getfield 89, 3) := by decide +kernel
theorem dX5_standing_17 : decode cX5_standing 17 = .ok (.if_icmp .lt 13, 3) := by decide +kernel
theorem dX5_standing_20 : decode cX5_standing 20 = .ok (.new 62, 3) := by decide +kernel
theorem dX5_standing_23 : decode cX5_standing 23 = .ok (.dup, 1) := by decide +kernel
theorem dX5_standing_24 : decode cX5_standing 24 = .ok (.ldc 175, 2) := by decide +kernel
theorem dX5_standing_26 : decode cX5_standing 26 = .ok (.invokespecial 66, 3) := by decide +kernel
theorem dX5_standing_29 : decode cX5_standing 29 = .ok (.athrow, 1) := by decide +kernel
theorem dX5_standing_30 : decode cX5_standing 30 = .ok (.iconst 0, 1) := by decide +kernel
theorem dX5_standing_31 : decode cX5_standing 31 = .ok (.istore_n 3, 1) := by decide +kernel
theorem dX5_standing_32 : decode cX5_standing 32 = .ok (.iload_n 3, 1) := by decide +kernel
theorem dX5_standing_33 : decode cX5_standing 33 = .ok (.aload_n 0, 1) := by decide +kernel
theorem dX5_standing_34 : decode cX5_standing 34 = .ok (.getfield 19, 3) := by decide +kernel
theorem dX5_standing_37 : decode cX5_standing 37 = .ok (.getfield 86, 3) := by decide +kernel
theorem dX5_standing_40 : decode cX5_standing 40 = .ok (.if_icmp .ge 62, 3) := by decide +kernel
theorem dX5_standing_43 : decode cX5_standing 43 = .ok (.iload_n 2, 1) := by decide +kernel
theorem dX5_standing_44 : decode cX5_standing 44 = .ok (.aload_n 0, 1) := by decide +kernel
theorem dX5_standing_45 : decode cX5_standing 45 = .ok (.getfield 36, 3) := by decide +kernel
theorem dX5_standing_48 : decode cX5_standing 48 = .ok (.getfield 153, 3) := by decide +kernel
theorem dX5_standing_51 : decode cX5_standing 51 = .ok (.iload_n 3, 1) := by decide +kernel
theorem dX5_standing_52 : decode cX5_standing 52 = .ok (.iaload, 1) := by decide +kernel
theorem dX5_standing_53 : decode cX5_standing 53 = .ok (.isub, 1) := by decide +kernel
theorem dX5_standing_54 : decode cX5_standing 54 = .ok (.istore 4, 2) := by decide +kernel
theorem dX5_standing_56 : decode cX5_standing 56 = .ok (.aload_n 0, 1) := by decide +kernel
theorem dX5_standing_57 : decode cX5_standing 57 = .ok (.getfield 36, 3) := by decide +kernel
theorem dX5_standing_60 : decode cX5_standing 60 = .ok (.getfield 150, 3) := by decide +kernel
theorem dX5_standing_63 : decode cX5_standing 63 = .ok (.iload_n 3, 1) := by decide +kernel
theorem dX5_standing_64 : decode cX5_standing 64 = .ok (.iaload, 1) := by decide +kernel
theorem dX5_standing_65 : decode cX5_standing 65 = .ok (.iload_n 1, 1) := by decide +kernel
theorem dX5_standing_66 : decode cX5_standing 66 = .ok (.if_icmp .ne 30, 3) := by decide +kernel
theorem dX5_standing_69 : decode cX5_standing 69 = .ok (.iload 4, 2) := by decide +kernel
theorem dX5_standing_71 : decode cX5_standing 71 = .ok (.ifCond .lt 25, 3) := by decide +kernel
theorem dX5_standing_74 : decode cX5_standing 74 = .ok (.iload 4, 2) := by decide +kernel
theorem dX5_standing_76 : decode cX5_standing 76 = .ok (.aload_n 0, 1) := by decide +kernel
theorem dX5_standing_77 : decode cX5_standing 77 = .ok (.getfield 19, 3) := by decide +kernel
theorem dX5_standing_80 : decode cX5_standing 80 = .ok (.getfield 127, 3) := by decide +kernel
theorem dX5_standing_83 : decode cX5_standing 83 = .ok (.iload_n 3, 1) := by decide +kernel
theorem dX5_standing_84 : decode cX5_standing 84 = .ok (.iaload, 1) := by decide +kernel
theorem dX5_standing_85 : decode cX5_standing 85 = .ok (.if_icmp .ge 11, 3) := by decide +kernel
theorem dX5_standing_88 : decode cX5_standing 88 = .ok (.bipush 10, 2) := by decide +kernel
theorem dX5_standing_90 : decode cX5_standing 90 = .ok (.iload_n 3, 1) := by decide +kernel
theorem dX5_standing_91 : decode cX5_standing 91 = .ok (.imul, 1) := by decide +kernel
theorem dX5_standing_92 : decode cX5_standing 92 = .ok (.iload 4, 2) := by decide +kernel
theorem dX5_standing_94 : decode cX5_standing 94 = .ok (.iadd, 1) := by decide +kernel
theorem dX5_standing_95 : decode cX5_standing 95 = .ok (.ireturn, 1) := by decide +kernel
theorem dX5_standing_96 : decode cX5_standing 96 = .ok (.iinc 3 1, 3) := by decide +kernel
theorem dX5_standing_99 : decode cX5_standing 99 = .ok (.goto (-67), 3) := by decide +kernel
theorem dX5_standing_102 : decode cX5_standing 102 = .ok (.iconst (-1), 1) := by decide +kernel
theorem dX5_standing_103 : decode cX5_standing 103 = .ok (.ireturn, 1) := by decide +kernel
theorem dX5_numbered_0 : decode cX5_numbered 0 = .ok (.iload_n 1, 1) := by decide +kernel
theorem dX5_numbered_1 : decode cX5_numbered 1 = .ok (.iconst 1, 1) := by decide +kernel
theorem dX5_numbered_2 : decode cX5_numbered 2 = .ok (.if_icmp .lt 37, 3) := by decide +kernel
theorem dX5_numbered_5 : decode cX5_numbered 5 = .ok (.iconst 0, 1) := by decide +kernel
theorem dX5_numbered_6 : decode cX5_numbered 6 = .ok (.istore_n 2, 1) := by decide +kernel
theorem dX5_numbered_7 : decode cX5_numbered 7 = .ok (.iload_n 2, 1) := by decide +kernel
theorem dX5_numbered_8 : decode cX5_numbered 8 = .ok (.aload_n 0, 1) := by decide +kernel
theorem dX5_numbered_9 : decode cX5_numbered 9 = .ok (.getfield 19, 3) := by decide +kernel
theorem dX5_numbered_12 : decode cX5_numbered 12 = .ok (.getfield 86, 3) := by decide +kernel
theorem dX5_numbered_15 : decode cX5_numbered 15 = .ok (.if_icmp .ge 24, 3) := by decide +kernel
theorem dX5_numbered_18 : decode cX5_numbered 18 = .ok (.aload_n 0, 1) := by decide +kernel
theorem dX5_numbered_19 : decode cX5_numbered 19 = .ok (.getfield 36, 3) := by decide +kernel
theorem dX5_numbered_22 : decode cX5_numbered 22 = .ok (.getfield 147, 3) := by decide +kernel
theorem dX5_numbered_25 : decode cX5_numbered 25 = .ok (.iload_n 2, 1) := by decide +kernel
theorem dX5_numbered_26 : decode cX5_numbered 26 = .ok (.iaload, 1) := by decide +kernel
theorem dX5_numbered_27 : decode cX5_numbered 27 = .ok (.iload_n 1, 1) := by decide +kernel
theorem dX5_numbered_28 : decode cX5_numbered 28 = .ok (.if_icmp .ne 5, 3) := by decide +kernel
theorem dX5_numbered_31 : decode cX5_numbered 31 = .ok (.iload_n 2, 1) := by decide +kernel
theorem dX5_numbered_32 : decode cX5_numbered 32 = .ok (.ireturn, 1) := by decide +kernel
theorem dX5_numbered_33 : decode cX5_numbered 33 = .ok (.iinc 2 1, 3) := by decide +kernel
theorem dX5_numbered_36 : decode cX5_numbered 36 = .ok (.goto (-29), 3) := by decide +kernel
theorem dX5_numbered_39 : decode cX5_numbered 39 = .ok (.new 177, 3) := by decide +kernel
theorem dX5_numbered_42 : decode cX5_numbered 42 = .ok (.dup, 1) := by decide +kernel
theorem dX5_numbered_43 : decode cX5_numbered 43 = .ok (.ldc 179, 2) := by decide +kernel
theorem dX5_numbered_45 : decode cX5_numbered 45 = .ok (.invokespecial 181, 3) := by decide +kernel
theorem dX5_numbered_48 : decode cX5_numbered 48 = .ok (.athrow, 1) := by decide +kernel
theorem dX5_different_0 : decode cX5_different 0 = .ok (.iload_n 1, 1) := by decide +kernel
theorem dX5_different_1 : decode cX5_different 1 = .ok (.ifCond .lt 14, 3) := by decide +kernel
theorem dX5_different_4 : decode cX5_different 4 = .ok (.iload_n 1, 1) := by decide +kernel
theorem dX5_different_5 : decode cX5_different 5 = .ok (.aload_n 0, 1) := by decide +kernel
theorem dX5_different_6 : decode cX5_different 6 = .ok (.getfield 43, 3) := by decide +kernel
theorem dX5_different_9 : decode cX5_different 9 = .ok (.getfield 99, 3) := by decide +kernel
theorem dX5_different_12 : decode cX5_different 12 = .ok (.if_icmp .lt 13, 3) := by decide +kernel
theorem dX5_different_15 : decode cX5_different 15 = .ok (.new 177, 3) := by decide +kernel
theorem dX5_different_18 : decode cX5_different 18 = .ok (.dup, 1) := by decide +kernel
theorem dX5_different_19 : decode cX5_different 19 = .ok (.ldc 182, 2) := by decide +kernel
theorem dX5_different_21 : decode cX5_different 21 = .ok (.invokespecial 181, 3) := by decide +kernel
theorem dX5_different_24 : decode cX5_different 24 = .ok (.athrow, 1) := by decide +kernel
theorem dX5_different_25 : decode cX5_different 25 = .ok (.aload_n 0, 1) := by decide +kernel
theorem dX5_different_26 : decode cX5_different 26 = .ok (.getfield 43, 3) := by decide +kernel
theorem dX5_different_29 : decode cX5_different 29 = .ok (.getfield 184, 3) := by decide +kernel
theorem dX5_different_32 : decode cX5_different 32 = .ok (.iload_n 1, 1) := by decide +kernel
theorem dX5_different_33 : decode cX5_different 33 = .ok (.iaload, 1) := by decide +kernel
theorem dX5_different_34 : decode cX5_different 34 = .ok (.ireturn, 1) := by decide +kernel
set_option maxRecDepth 20000 in
theorem ggX5_best_X1_cheapest : GoodIn wsX5_best wsX1_cheapest := goodIn_r _ [8, 9, 10, 11, 12, 7, 13, 14, 15, 16, 17, 18, 19, 20, 21, 22, 23, 24, 25, 26, 27, 28, 29, 30, 31, 32, 33, 34, 35, 36, 37, 38, 39, 40, 41, 42, 43, 44, 45, 46, 47, 48, 49, 50, 51, 52, 53, 54, 55, 56, 57, 58, 59, 60, 61, 62, 63, 64, 65, 66, 67, 68, 69, 70, 71, 72, 73, 74, 75, 76, 77, 78, 79, 80, 81, 82, 83, 84, 85, 86, 87, 95, 96, 97, 98, 99, 100, 101, 102, 103, 104, 105, 106, 107, 108, 109, 110, 111, 112, 113, 114, 115, 116, 117, 118, 119, 120, 121, 122] (by decide +kernel) (by decide +kernel)
set_option maxRecDepth 20000 in
theorem gX5_best_X1_cheapest : GoodIn wsX5_best (wsV RX5 187 RX1 yX1_cheapest wsX1_cheapest) := goodIn_app (goodIn_of _ (by decide +kernel)) ggX5_best_X1_cheapest
theorem dX5_best_0 : decode cX5_best 0 = .ok (.aload_n 0, 1) := by decide +kernel
theorem dX5_best_1 : decode cX5_best 1 = .ok (.getfield 43, 3) := by decide +kernel
theorem dX5_best_4 : decode cX5_best 4 = .ok (.aload_n 0, 1) := by decide +kernel
theorem dX5_best_5 : decode cX5_best 5 = .ok (.getfield 19, 3) := by decide +kernel
theorem dX5_best_8 : decode cX5_best 8 = .ok (.aload_n 0, 1) := by decide +kernel
theorem dX5_best_9 : decode cX5_best 9 = .ok (.getfield 36, 3) := by decide +kernel
theorem dX5_best_12 : decode cX5_best 12 = .ok (.iconst 0, 1) := by decide +kernel
theorem dX5_best_13 : decode cX5_best 13 = .ok (.iconst 0, 1) := by decide +kernel
theorem dX5_best_14 : decode cX5_best 14 = .ok (.invokevirtual 187, 3) := by decide +kernel
theorem dX5_best_17 : decode cX5_best 17 = .ok (.ireturn, 1) := by decide +kernel
set_option maxRecDepth 20000 in
theorem ggX5_choice_X5_needChoice : GoodIn wsX5_choice wsX5_needChoice := goodIn_ca (goodIn_r _ [11, 1, 2, 3, 12, 13, 14, 15, 16, 17, 86, 87, 88, 89, 90, 91, 92, 93, 94, 95, 96, 97, 98, 99, 100] (by decide +kernel) (by decide +kernel)) (goodIn_sub (fun _ h => List.mem_cons_of_mem _ (List.mem_append_right _ h)) (by decide +kernel))
set_option maxRecDepth 20000 in
theorem gX5_choice_X5_needChoice : GoodIn wsX5_choice (wsV RX5 191 RX5 yX5_needChoice wsX5_needChoice) := goodIn_app (goodIn_of _ (by decide +kernel)) ggX5_choice_X5_needChoice
set_option maxRecDepth 20000 in
theorem ggX5_choice_X1_measure : GoodIn wsX5_choice wsX1_measure := goodIn_r _ [21, 22, 23, 24, 17, 25, 26, 27, 28, 29, 30, 31, 32, 33, 34, 35, 36, 37, 38, 15, 39, 40, 41, 42, 43, 44, 45, 46, 47, 48, 49, 50, 51, 52, 53, 54, 55, 56, 57, 58, 59, 60, 61, 62, 63, 64, 65, 66, 67, 68, 69, 70, 71, 72, 73, 74, 75, 76, 77, 78, 79, 80, 81, 82, 83, 84, 85, 93, 94, 95, 96, 97, 98, 99, 100, 101, 102, 103, 104, 105, 106, 107, 108, 109, 110, 111, 112, 113, 114, 115, 116, 117, 118, 119, 120] (by decide +kernel) (by decide +kernel)
set_option maxRecDepth 20000 in
theorem gX5_choice_X1_measure : GoodIn wsX5_choice (wsV RX5 196 RX1 yX1_measure wsX1_measure) := goodIn_app (goodIn_of _ (by decide +kernel)) ggX5_choice_X1_measure
theorem dX5_choice_0 : decode cX5_choice 0 = .ok (.aload_n 0, 1) := by decide +kernel
theorem dX5_choice_1 : decode cX5_choice 1 = .ok (.iload_n 1, 1) := by decide +kernel
theorem dX5_choice_2 : decode cX5_choice 2 = .ok (.invokevirtual 191, 3) := by decide +kernel
theorem dX5_choice_5 : decode cX5_choice 5 = .ok (.iload_n 2, 1) := by decide +kernel
theorem dX5_choice_6 : decode cX5_choice 6 = .ok (.ifCond .lt 9, 3) := by decide +kernel
theorem dX5_choice_9 : decode cX5_choice 9 = .ok (.iload_n 2, 1) := by decide +kernel
theorem dX5_choice_10 : decode cX5_choice 10 = .ok (.bipush 7, 2) := by decide +kernel
theorem dX5_choice_12 : decode cX5_choice 12 = .ok (.if_icmp .lt 13, 3) := by decide +kernel
theorem dX5_choice_15 : decode cX5_choice 15 = .ok (.new 62, 3) := by decide +kernel
theorem dX5_choice_18 : decode cX5_choice 18 = .ok (.dup, 1) := by decide +kernel
theorem dX5_choice_19 : decode cX5_choice 19 = .ok (.ldc 194, 2) := by decide +kernel
theorem dX5_choice_21 : decode cX5_choice 21 = .ok (.invokespecial 66, 3) := by decide +kernel
theorem dX5_choice_24 : decode cX5_choice 24 = .ok (.athrow, 1) := by decide +kernel
theorem dX5_choice_25 : decode cX5_choice 25 = .ok (.aload_n 0, 1) := by decide +kernel
theorem dX5_choice_26 : decode cX5_choice 26 = .ok (.getfield 43, 3) := by decide +kernel
theorem dX5_choice_29 : decode cX5_choice 29 = .ok (.aload_n 0, 1) := by decide +kernel
theorem dX5_choice_30 : decode cX5_choice 30 = .ok (.getfield 19, 3) := by decide +kernel
theorem dX5_choice_33 : decode cX5_choice 33 = .ok (.aload_n 0, 1) := by decide +kernel
theorem dX5_choice_34 : decode cX5_choice 34 = .ok (.getfield 36, 3) := by decide +kernel
theorem dX5_choice_37 : decode cX5_choice 37 = .ok (.iload_n 1, 1) := by decide +kernel
theorem dX5_choice_38 : decode cX5_choice 38 = .ok (.invokevirtual 196, 3) := by decide +kernel
theorem dX5_choice_41 : decode cX5_choice 41 = .ok (.aload_n 0, 1) := by decide +kernel
theorem dX5_choice_42 : decode cX5_choice 42 = .ok (.getfield 43, 3) := by decide +kernel
theorem dX5_choice_45 : decode cX5_choice 45 = .ok (.getfield 200, 3) := by decide +kernel
theorem dX5_choice_48 : decode cX5_choice 48 = .ok (.iload_n 2, 1) := by decide +kernel
theorem dX5_choice_49 : decode cX5_choice 49 = .ok (.iaload, 1) := by decide +kernel
theorem dX5_choice_50 : decode cX5_choice 50 = .ok (.ireturn, 1) := by decide +kernel
set_option maxRecDepth 20000 in
theorem ggX5_pays_X5_needLot : GoodIn wsX5_pays wsX5_needLot := goodIn_ca (goodIn_r _ [8, 9, 10, 2, 11, 101, 102, 103, 104, 105, 106, 107, 108, 109, 110, 111, 112, 113, 114, 115, 116, 117, 118] (by decide +kernel) (by decide +kernel)) (goodIn_sub (fun _ h => List.mem_cons_of_mem _ (List.mem_append_right _ h)) (by decide +kernel))
set_option maxRecDepth 20000 in
theorem gX5_pays_X5_needLot : GoodIn wsX5_pays (wsV RX5 124 RX5 yX5_needLot wsX5_needLot) := goodIn_app (goodIn_of _ (by decide +kernel)) ggX5_pays_X5_needLot
set_option maxRecDepth 20000 in
theorem ggX5_pays_X1_placeOf : GoodIn wsX5_pays wsX1_placeOf := goodIn_r _ [16, 17, 18, 119, 120, 121, 122, 123, 124, 125, 126] (by decide +kernel) (by decide +kernel)
set_option maxRecDepth 20000 in
theorem gX5_pays_X1_placeOf : GoodIn wsX5_pays (wsV RX5 203 RX1 yX1_placeOf wsX1_placeOf) := goodIn_app (goodIn_of _ (by decide +kernel)) ggX5_pays_X1_placeOf
set_option maxRecDepth 20000 in
theorem ggX5_pays_X1_cheapest : GoodIn wsX5_pays wsX1_cheapest := goodIn_r _ [22, 17, 23, 24, 25, 15, 26, 27, 28, 29, 30, 31, 32, 33, 34, 35, 18, 36, 37, 38, 39, 40, 41, 42, 43, 44, 45, 46, 47, 48, 49, 50, 51, 52, 53, 54, 55, 56, 57, 58, 59, 60, 61, 62, 63, 64, 65, 66, 67, 68, 69, 70, 71, 72, 73, 74, 75, 76, 77, 78, 79, 80, 81, 82, 83, 84, 85, 86, 87, 88, 89, 90, 91, 92, 93, 94, 95, 96, 97, 98, 99, 119, 120, 121, 122, 123, 124, 125, 126, 108, 109, 110, 111, 112, 113, 114, 115, 116, 117, 118, 127, 128, 129, 130, 131, 132, 133, 134, 135] (by decide +kernel) (by decide +kernel)
set_option maxRecDepth 20000 in
theorem gX5_pays_X1_cheapest : GoodIn wsX5_pays (wsV RX5 187 RX1 yX1_cheapest wsX1_cheapest) := goodIn_app (goodIn_of _ (by decide +kernel)) ggX5_pays_X1_cheapest
set_option maxRecDepth 20000 in
theorem ggX5_pays_X1_priceOf : GoodIn wsX5_pays wsX1_priceOf := goodIn_r _ [99, 28, 119, 120, 121, 122, 123, 124, 125, 126] (by decide +kernel) (by decide +kernel)
set_option maxRecDepth 20000 in
theorem gX5_pays_X1_priceOf : GoodIn wsX5_pays (wsV RX5 206 RX1 yX1_priceOf wsX1_priceOf) := goodIn_app (goodIn_of _ (by decide +kernel)) ggX5_pays_X1_priceOf
theorem dX5_pays_0 : decode cX5_pays 0 = .ok (.aload_n 0, 1) := by decide +kernel
theorem dX5_pays_1 : decode cX5_pays 1 = .ok (.iload_n 1, 1) := by decide +kernel
theorem dX5_pays_2 : decode cX5_pays 2 = .ok (.invokevirtual 124, 3) := by decide +kernel
theorem dX5_pays_5 : decode cX5_pays 5 = .ok (.aload_n 0, 1) := by decide +kernel
theorem dX5_pays_6 : decode cX5_pays 6 = .ok (.getfield 43, 3) := by decide +kernel
theorem dX5_pays_9 : decode cX5_pays 9 = .ok (.iload_n 1, 1) := by decide +kernel
theorem dX5_pays_10 : decode cX5_pays 10 = .ok (.invokevirtual 203, 3) := by decide +kernel
theorem dX5_pays_13 : decode cX5_pays 13 = .ok (.istore_n 2, 1) := by decide +kernel
theorem dX5_pays_14 : decode cX5_pays 14 = .ok (.iload_n 2, 1) := by decide +kernel
theorem dX5_pays_15 : decode cX5_pays 15 = .ok (.ifCond .ge 5, 3) := by decide +kernel
theorem dX5_pays_18 : decode cX5_pays 18 = .ok (.iconst 0, 1) := by decide +kernel
theorem dX5_pays_19 : decode cX5_pays 19 = .ok (.ireturn, 1) := by decide +kernel
theorem dX5_pays_20 : decode cX5_pays 20 = .ok (.iconst 1, 1) := by decide +kernel
theorem dX5_pays_21 : decode cX5_pays 21 = .ok (.iload_n 2, 1) := by decide +kernel
theorem dX5_pays_22 : decode cX5_pays 22 = .ok (.ishl, 1) := by decide +kernel
theorem dX5_pays_23 : decode cX5_pays 23 = .ok (.istore_n 3, 1) := by decide +kernel
theorem dX5_pays_24 : decode cX5_pays 24 = .ok (.aload_n 0, 1) := by decide +kernel
theorem dX5_pays_25 : decode cX5_pays 25 = .ok (.getfield 43, 3) := by decide +kernel
theorem dX5_pays_28 : decode cX5_pays 28 = .ok (.aload_n 0, 1) := by decide +kernel
theorem dX5_pays_29 : decode cX5_pays 29 = .ok (.getfield 19, 3) := by decide +kernel
theorem dX5_pays_32 : decode cX5_pays 32 = .ok (.aload_n 0, 1) := by decide +kernel
theorem dX5_pays_33 : decode cX5_pays 33 = .ok (.getfield 36, 3) := by decide +kernel
theorem dX5_pays_36 : decode cX5_pays 36 = .ok (.iload_n 3, 1) := by decide +kernel
theorem dX5_pays_37 : decode cX5_pays 37 = .ok (.iload_n 3, 1) := by decide +kernel
theorem dX5_pays_38 : decode cX5_pays 38 = .ok (.invokevirtual 187, 3) := by decide +kernel
theorem dX5_pays_41 : decode cX5_pays 41 = .ok (.istore 4, 2) := by decide +kernel
theorem dX5_pays_43 : decode cX5_pays 43 = .ok (.aload_n 0, 1) := by decide +kernel
theorem dX5_pays_44 : decode cX5_pays 44 = .ok (.getfield 43, 3) := by decide +kernel
theorem dX5_pays_47 : decode cX5_pays 47 = .ok (.aload_n 0, 1) := by decide +kernel
theorem dX5_pays_48 : decode cX5_pays 48 = .ok (.getfield 19, 3) := by decide +kernel
theorem dX5_pays_51 : decode cX5_pays 51 = .ok (.aload_n 0, 1) := by decide +kernel
theorem dX5_pays_52 : decode cX5_pays 52 = .ok (.getfield 36, 3) := by decide +kernel
theorem dX5_pays_55 : decode cX5_pays 55 = .ok (.iload_n 3, 1) := by decide +kernel
theorem dX5_pays_56 : decode cX5_pays 56 = .ok (.iconst 0, 1) := by decide +kernel
theorem dX5_pays_57 : decode cX5_pays 57 = .ok (.invokevirtual 187, 3) := by decide +kernel
theorem dX5_pays_60 : decode cX5_pays 60 = .ok (.istore 5, 2) := by decide +kernel
theorem dX5_pays_62 : decode cX5_pays 62 = .ok (.aload_n 0, 1) := by decide +kernel
theorem dX5_pays_63 : decode cX5_pays 63 = .ok (.getfield 43, 3) := by decide +kernel
theorem dX5_pays_66 : decode cX5_pays 66 = .ok (.iload 4, 2) := by decide +kernel
theorem dX5_pays_68 : decode cX5_pays 68 = .ok (.invokevirtual 206, 3) := by decide +kernel
theorem dX5_pays_71 : decode cX5_pays 71 = .ok (.aload_n 0, 1) := by decide +kernel
theorem dX5_pays_72 : decode cX5_pays 72 = .ok (.getfield 43, 3) := by decide +kernel
theorem dX5_pays_75 : decode cX5_pays 75 = .ok (.iload 5, 2) := by decide +kernel
theorem dX5_pays_77 : decode cX5_pays 77 = .ok (.invokevirtual 206, 3) := by decide +kernel
theorem dX5_pays_80 : decode cX5_pays 80 = .ok (.isub, 1) := by decide +kernel
theorem dX5_pays_81 : decode cX5_pays 81 = .ok (.ireturn, 1) := by decide +kernel
set_option maxRecDepth 20000 in
theorem ggX5_dearest_X0_dearerLots : GoodIn wsX5_dearest wsX0_dearerLots := goodIn_r _ [10, 11, 12, 13, 21, 22, 23, 24, 25, 26, 27, 28, 29, 30, 31] (by decide +kernel) (by decide +kernel)
set_option maxRecDepth 20000 in
theorem gX5_dearest_X0_dearerLots : GoodIn wsX5_dearest (wsV RX5 209 RX0 yX0_dearerLots wsX0_dearerLots) := goodIn_app (goodIn_of _ (by decide +kernel)) ggX5_dearest_X0_dearerLots
theorem dX5_dearest_0 : decode cX5_dearest 0 = .ok (.iconst 0, 1) := by decide +kernel
theorem dX5_dearest_1 : decode cX5_dearest 1 = .ok (.istore_n 2, 1) := by decide +kernel
theorem dX5_dearest_2 : decode cX5_dearest 2 = .ok (.iload_n 1, 1) := by decide +kernel
theorem dX5_dearest_3 : decode cX5_dearest 3 = .ok (.ifCond .lt 46, 3) := by decide +kernel
theorem dX5_dearest_6 : decode cX5_dearest 6 = .ok (.iload_n 2, 1) := by decide +kernel
theorem dX5_dearest_7 : decode cX5_dearest 7 = .ok (.aload_n 0, 1) := by decide +kernel
theorem dX5_dearest_8 : decode cX5_dearest 8 = .ok (.getfield 19, 3) := by decide +kernel
theorem dX5_dearest_11 : decode cX5_dearest 11 = .ok (.getfield 86, 3) := by decide +kernel
theorem dX5_dearest_14 : decode cX5_dearest 14 = .ok (.if_icmp .ge 35, 3) := by decide +kernel
theorem dX5_dearest_17 : decode cX5_dearest 17 = .ok (.aload_n 0, 1) := by decide +kernel
theorem dX5_dearest_18 : decode cX5_dearest 18 = .ok (.getfield 19, 3) := by decide +kernel
theorem dX5_dearest_21 : decode cX5_dearest 21 = .ok (.getfield 141, 3) := by decide +kernel
theorem dX5_dearest_24 : decode cX5_dearest 24 = .ok (.iload_n 2, 1) := by decide +kernel
theorem dX5_dearest_25 : decode cX5_dearest 25 = .ok (.baload, 1) := by decide +kernel
theorem dX5_dearest_26 : decode cX5_dearest 26 = .ok (.ifCond .eq 17, 3) := by decide +kernel
theorem dX5_dearest_29 : decode cX5_dearest 29 = .ok (.aload_n 0, 1) := by decide +kernel
theorem dX5_dearest_30 : decode cX5_dearest 30 = .ok (.getfield 19, 3) := by decide +kernel
theorem dX5_dearest_33 : decode cX5_dearest 33 = .ok (.iload_n 2, 1) := by decide +kernel
theorem dX5_dearest_34 : decode cX5_dearest 34 = .ok (.invokevirtual 209, 3) := by decide +kernel
theorem dX5_dearest_37 : decode cX5_dearest 37 = .ok (.iload_n 1, 1) := by decide +kernel
theorem dX5_dearest_38 : decode cX5_dearest 38 = .ok (.if_icmp .ne 5, 3) := by decide +kernel
theorem dX5_dearest_41 : decode cX5_dearest 41 = .ok (.iload_n 2, 1) := by decide +kernel
theorem dX5_dearest_42 : decode cX5_dearest 42 = .ok (.ireturn, 1) := by decide +kernel
theorem dX5_dearest_43 : decode cX5_dearest 43 = .ok (.iinc 2 1, 3) := by decide +kernel
theorem dX5_dearest_46 : decode cX5_dearest 46 = .ok (.goto (-44), 3) := by decide +kernel
theorem dX5_dearest_49 : decode cX5_dearest 49 = .ok (.new 177, 3) := by decide +kernel
theorem dX5_dearest_52 : decode cX5_dearest 52 = .ok (.dup, 1) := by decide +kernel
theorem dX5_dearest_53 : decode cX5_dearest 53 = .ok (.ldc 212, 2) := by decide +kernel
theorem dX5_dearest_55 : decode cX5_dearest 55 = .ok (.invokespecial 181, 3) := by decide +kernel
theorem dX5_dearest_58 : decode cX5_dearest 58 = .ok (.athrow, 1) := by decide +kernel
set_option maxRecDepth 20000 in
theorem ggX5_seller_X0_wantedLotsOf : GoodIn wsX5_seller wsX0_wantedLotsOf := goodIn_r _ [8, 9, 10, 11, 30, 31, 32, 33, 34, 35, 36, 37, 38, 39, 40] (by decide +kernel) (by decide +kernel)
set_option maxRecDepth 20000 in
theorem gX5_seller_X0_wantedLotsOf : GoodIn wsX5_seller (wsV RX5 216 RX0 yX0_wantedLotsOf wsX0_wantedLotsOf) := goodIn_app (goodIn_of _ (by decide +kernel)) ggX5_seller_X0_wantedLotsOf
set_option maxRecDepth 20000 in
theorem ggX5_seller_X0_wantedEstimatesOf : GoodIn wsX5_seller wsX0_wantedEstimatesOf := goodIn_r _ [15, 9, 10, 11, 16, 30, 31, 32, 33, 34, 35, 36, 37, 38, 39, 40] (by decide +kernel) (by decide +kernel)
set_option maxRecDepth 20000 in
theorem gX5_seller_X0_wantedEstimatesOf : GoodIn wsX5_seller (wsV RX5 219 RX0 yX0_wantedEstimatesOf wsX0_wantedEstimatesOf) := goodIn_app (goodIn_of _ (by decide +kernel)) ggX5_seller_X0_wantedEstimatesOf
set_option maxRecDepth 20000 in
theorem ggX5_seller_X0_printedLinesOf : GoodIn wsX5_seller wsX0_printedLinesOf := goodIn_r _ [20, 9, 10, 21, 22, 30, 31, 32, 33, 34, 35, 36, 37, 38, 39, 40] (by decide +kernel) (by decide +kernel)
set_option maxRecDepth 20000 in
theorem gX5_seller_X0_printedLinesOf : GoodIn wsX5_seller (wsV RX5 222 RX0 yX0_printedLinesOf wsX0_printedLinesOf) := goodIn_app (goodIn_of _ (by decide +kernel)) ggX5_seller_X0_printedLinesOf
theorem dX5_seller_0 : decode cX5_seller 0 = .ok (.iload_n 1, 1) := by decide +kernel
theorem dX5_seller_1 : decode cX5_seller 1 = .ok (.ifCond .lt 9, 3) := by decide +kernel
theorem dX5_seller_4 : decode cX5_seller 4 = .ok (.iload_n 1, 1) := by decide +kernel
theorem dX5_seller_5 : decode cX5_seller 5 = .ok (.bipush 9, 2) := by decide +kernel
theorem dX5_seller_7 : decode cX5_seller 7 = .ok (.if_icmp .le 13, 3) := by decide +kernel
theorem dX5_seller_10 : decode cX5_seller 10 = .ok (.new 62, 3) := by decide +kernel
theorem dX5_seller_13 : decode cX5_seller 13 = .ok (.dup, 1) := by decide +kernel
theorem dX5_seller_14 : decode cX5_seller 14 = .ok (.ldc 214, 2) := by decide +kernel
theorem dX5_seller_16 : decode cX5_seller 16 = .ok (.invokespecial 66, 3) := by decide +kernel
theorem dX5_seller_19 : decode cX5_seller 19 = .ok (.athrow, 1) := by decide +kernel
theorem dX5_seller_20 : decode cX5_seller 20 = .ok (.iload_n 2, 1) := by decide +kernel
theorem dX5_seller_21 : decode cX5_seller 21 = .ok (.tableswitch 54 0 2 #[27, 36, 45], 27) := by decide +kernel
theorem dX5_seller_48 : decode cX5_seller 48 = .ok (.aload_n 0, 1) := by decide +kernel
theorem dX5_seller_49 : decode cX5_seller 49 = .ok (.getfield 19, 3) := by decide +kernel
theorem dX5_seller_52 : decode cX5_seller 52 = .ok (.iload_n 1, 1) := by decide +kernel
theorem dX5_seller_53 : decode cX5_seller 53 = .ok (.invokevirtual 216, 3) := by decide +kernel
theorem dX5_seller_56 : decode cX5_seller 56 = .ok (.ireturn, 1) := by decide +kernel
theorem dX5_seller_57 : decode cX5_seller 57 = .ok (.aload_n 0, 1) := by decide +kernel
theorem dX5_seller_58 : decode cX5_seller 58 = .ok (.getfield 19, 3) := by decide +kernel
theorem dX5_seller_61 : decode cX5_seller 61 = .ok (.iload_n 1, 1) := by decide +kernel
theorem dX5_seller_62 : decode cX5_seller 62 = .ok (.invokevirtual 219, 3) := by decide +kernel
theorem dX5_seller_65 : decode cX5_seller 65 = .ok (.ireturn, 1) := by decide +kernel
theorem dX5_seller_66 : decode cX5_seller 66 = .ok (.aload_n 0, 1) := by decide +kernel
theorem dX5_seller_67 : decode cX5_seller 67 = .ok (.getfield 19, 3) := by decide +kernel
theorem dX5_seller_70 : decode cX5_seller 70 = .ok (.iload_n 1, 1) := by decide +kernel
theorem dX5_seller_71 : decode cX5_seller 71 = .ok (.invokevirtual 222, 3) := by decide +kernel
theorem dX5_seller_74 : decode cX5_seller 74 = .ok (.ireturn, 1) := by decide +kernel
theorem dX5_seller_75 : decode cX5_seller 75 = .ok (.new 62, 3) := by decide +kernel
theorem dX5_seller_78 : decode cX5_seller 78 = .ok (.dup, 1) := by decide +kernel
theorem dX5_seller_79 : decode cX5_seller 79 = .ok (.ldc 225, 2) := by decide +kernel
theorem dX5_seller_81 : decode cX5_seller 81 = .ok (.invokespecial 66, 3) := by decide +kernel
theorem dX5_seller_84 : decode cX5_seller 84 = .ok (.athrow, 1) := by decide +kernel
theorem dX5_through_0 : decode cX5_through 0 = .ok (.iload_n 1, 1) := by decide +kernel
theorem dX5_through_1 : decode cX5_through 1 = .ok (.ifCond .lt 10, 3) := by decide +kernel
theorem dX5_through_4 : decode cX5_through 4 = .ok (.iload_n 1, 1) := by decide +kernel
theorem dX5_through_5 : decode cX5_through 5 = .ok (.sipush 9999, 3) := by decide +kernel
theorem dX5_through_8 : decode cX5_through 8 = .ok (.if_icmp .le 13, 3) := by decide +kernel
theorem dX5_through_11 : decode cX5_through 11 = .ok (.new 177, 3) := by decide +kernel
theorem dX5_through_14 : decode cX5_through 14 = .ok (.dup, 1) := by decide +kernel
theorem dX5_through_15 : decode cX5_through 15 = .ok (.ldc 227, 2) := by decide +kernel
theorem dX5_through_17 : decode cX5_through 17 = .ok (.invokespecial 181, 3) := by decide +kernel
theorem dX5_through_20 : decode cX5_through 20 = .ok (.athrow, 1) := by decide +kernel
theorem dX5_through_21 : decode cX5_through 21 = .ok (.iconst 0, 1) := by decide +kernel
theorem dX5_through_22 : decode cX5_through 22 = .ok (.istore_n 2, 1) := by decide +kernel
theorem dX5_through_23 : decode cX5_through 23 = .ok (.iconst 0, 1) := by decide +kernel
theorem dX5_through_24 : decode cX5_through 24 = .ok (.istore_n 3, 1) := by decide +kernel
theorem dX5_through_25 : decode cX5_through 25 = .ok (.iload_n 3, 1) := by decide +kernel
theorem dX5_through_26 : decode cX5_through 26 = .ok (.aload_n 0, 1) := by decide +kernel
theorem dX5_through_27 : decode cX5_through 27 = .ok (.getfield 19, 3) := by decide +kernel
theorem dX5_through_30 : decode cX5_through 30 = .ok (.getfield 86, 3) := by decide +kernel
theorem dX5_through_33 : decode cX5_through 33 = .ok (.if_icmp .ge 40, 3) := by decide +kernel
theorem dX5_through_36 : decode cX5_through 36 = .ok (.aload_n 0, 1) := by decide +kernel
theorem dX5_through_37 : decode cX5_through 37 = .ok (.getfield 19, 3) := by decide +kernel
theorem dX5_through_40 : decode cX5_through 40 = .ok (.getfield 137, 3) := by decide +kernel
theorem dX5_through_43 : decode cX5_through 43 = .ok (.iload_n 3, 1) := by decide +kernel
theorem dX5_through_44 : decode cX5_through 44 = .ok (.baload, 1) := by decide +kernel
theorem dX5_through_45 : decode cX5_through 45 = .ok (.ifCond .eq 22, 3) := by decide +kernel
theorem dX5_through_48 : decode cX5_through 48 = .ok (.iload_n 2, 1) := by decide +kernel
theorem dX5_through_49 : decode cX5_through 49 = .ok (.aload_n 0, 1) := by decide +kernel
theorem dX5_through_50 : decode cX5_through 50 = .ok (.getfield 19, 3) := by decide +kernel
theorem dX5_through_53 : decode cX5_through 53 = .ok (.getfield 127, 3) := by decide +kernel
theorem dX5_through_56 : decode cX5_through 56 = .ok (.iload_n 3, 1) := by decide +kernel
theorem dX5_through_57 : decode cX5_through 57 = .ok (.iaload, 1) := by decide +kernel
theorem dX5_through_58 : decode cX5_through 58 = .ok (.iadd, 1) := by decide +kernel
theorem dX5_through_59 : decode cX5_through 59 = .ok (.istore_n 2, 1) := by decide +kernel
theorem dX5_through_60 : decode cX5_through 60 = .ok (.iload_n 1, 1) := by decide +kernel
theorem dX5_through_61 : decode cX5_through 61 = .ok (.iload_n 2, 1) := by decide +kernel
theorem dX5_through_62 : decode cX5_through 62 = .ok (.if_icmp .ge 5, 3) := by decide +kernel
theorem dX5_through_65 : decode cX5_through 65 = .ok (.iload_n 3, 1) := by decide +kernel
theorem dX5_through_66 : decode cX5_through 66 = .ok (.ireturn, 1) := by decide +kernel
theorem dX5_through_67 : decode cX5_through 67 = .ok (.iinc 3 1, 3) := by decide +kernel
theorem dX5_through_70 : decode cX5_through 70 = .ok (.goto (-45), 3) := by decide +kernel
theorem dX5_through_73 : decode cX5_through 73 = .ok (.new 177, 3) := by decide +kernel
theorem dX5_through_76 : decode cX5_through 76 = .ok (.dup, 1) := by decide +kernel
theorem dX5_through_77 : decode cX5_through 77 = .ok (.ldc 229, 2) := by decide +kernel
theorem dX5_through_79 : decode cX5_through 79 = .ok (.invokespecial 181, 3) := by decide +kernel
theorem dX5_through_82 : decode cX5_through 82 = .ok (.athrow, 1) := by decide +kernel
set_option maxRecDepth 20000 in
theorem ggX5_withdraw_X5_needLot : GoodIn wsX5_withdraw wsX5_needLot := goodIn_ca (goodIn_r _ [11, 12, 13, 3, 14, 98, 99, 100, 101, 102, 103, 104, 105, 106, 107, 108, 109, 110, 111, 112, 113, 114, 115] (by decide +kernel) (by decide +kernel)) (goodIn_sub (fun _ h => List.mem_cons_of_mem _ (List.mem_append_right _ h)) (by decide +kernel))
set_option maxRecDepth 20000 in
theorem gX5_withdraw_X5_needLot : GoodIn wsX5_withdraw (wsV RX5 124 RX5 yX5_needLot wsX5_needLot) := goodIn_app (goodIn_of _ (by decide +kernel)) ggX5_withdraw_X5_needLot
set_option maxRecDepth 20000 in
theorem ggX5_withdraw_X5_turnWanted : GoodIn wsX5_withdraw wsX5_turnWanted := goodIn_ca (goodIn_r _ [18, 1, 2, 3, 5, 6, 19, 4, 20, 21, 22, 23, 24, 25, 26, 27, 28, 29, 30, 31, 32, 33, 34, 35, 36, 37, 38, 39, 40, 41, 42, 43, 44, 45, 46, 47, 48, 49, 50, 51, 52, 53, 54, 55, 56, 57, 58, 59, 10, 60, 61, 62, 63, 64, 65, 66, 67, 68, 69, 70, 71, 72, 73, 74, 75, 76, 77, 78, 79, 80, 81, 82, 83, 84, 85, 86, 87, 88, 89, 90, 91, 92, 93, 94, 95, 96, 97, 98, 99, 100, 101, 102, 103, 104, 116, 117, 118, 119, 120, 121, 122, 123, 105, 106, 107, 108, 109, 110, 111, 112, 113, 114, 115, 124, 125, 126, 127, 128, 129, 130, 131, 132, 133, 134, 135] (by decide +kernel) (by decide +kernel)) (goodIn_sub (fun _ h => List.mem_cons_of_mem _ (List.mem_append_left _ (List.mem_append_right _ h))) (by decide +kernel))
set_option maxRecDepth 20000 in
theorem gX5_withdraw_X5_turnWanted : GoodIn wsX5_withdraw (wsV RX5 239 RX5 yX5_turnWanted wsX5_turnWanted) := goodIn_app (goodIn_of _ (by decide +kernel)) ggX5_withdraw_X5_turnWanted
theorem dX5_withdraw_0 : decode cX5_withdraw 0 = .ok (.aload_n 0, 1) := by decide +kernel
theorem dX5_withdraw_1 : decode cX5_withdraw 1 = .ok (.iload_n 1, 1) := by decide +kernel
theorem dX5_withdraw_2 : decode cX5_withdraw 2 = .ok (.invokevirtual 124, 3) := by decide +kernel
theorem dX5_withdraw_5 : decode cX5_withdraw 5 = .ok (.aload_n 0, 1) := by decide +kernel
theorem dX5_withdraw_6 : decode cX5_withdraw 6 = .ok (.getfield 19, 3) := by decide +kernel
theorem dX5_withdraw_9 : decode cX5_withdraw 9 = .ok (.getfield 141, 3) := by decide +kernel
theorem dX5_withdraw_12 : decode cX5_withdraw 12 = .ok (.iload_n 1, 1) := by decide +kernel
theorem dX5_withdraw_13 : decode cX5_withdraw 13 = .ok (.baload, 1) := by decide +kernel
theorem dX5_withdraw_14 : decode cX5_withdraw 14 = .ok (.ifCond .ne 13, 3) := by decide +kernel
theorem dX5_withdraw_17 : decode cX5_withdraw 17 = .ok (.new 234, 3) := by decide +kernel
theorem dX5_withdraw_20 : decode cX5_withdraw 20 = .ok (.dup, 1) := by decide +kernel
theorem dX5_withdraw_21 : decode cX5_withdraw 21 = .ok (.ldc 236, 2) := by decide +kernel
theorem dX5_withdraw_23 : decode cX5_withdraw 23 = .ok (.invokespecial 238, 3) := by decide +kernel
theorem dX5_withdraw_26 : decode cX5_withdraw 26 = .ok (.athrow, 1) := by decide +kernel
theorem dX5_withdraw_27 : decode cX5_withdraw 27 = .ok (.aload_n 0, 1) := by decide +kernel
theorem dX5_withdraw_28 : decode cX5_withdraw 28 = .ok (.iload_n 1, 1) := by decide +kernel
theorem dX5_withdraw_29 : decode cX5_withdraw 29 = .ok (.invokevirtual 239, 3) := by decide +kernel
theorem dX5_withdraw_32 : decode cX5_withdraw 32 = .ok (.aload_n 0, 1) := by decide +kernel
theorem dX5_withdraw_33 : decode cX5_withdraw 33 = .ok (.getfield 43, 3) := by decide +kernel
theorem dX5_withdraw_36 : decode cX5_withdraw 36 = .ok (.getfield 99, 3) := by decide +kernel
theorem dX5_withdraw_39 : decode cX5_withdraw 39 = .ok (.ireturn, 1) := by decide +kernel
set_option maxRecDepth 20000 in
theorem ggX5_restore_X5_needLot : GoodIn wsX5_restore wsX5_needLot := goodIn_ca (goodIn_r _ [11, 12, 13, 3, 14, 98, 99, 100, 101, 102, 103, 104, 105, 106, 107, 108, 109, 110, 111, 112, 113, 114, 115] (by decide +kernel) (by decide +kernel)) (goodIn_sub (fun _ h => List.mem_cons_of_mem _ (List.mem_append_right _ h)) (by decide +kernel))
set_option maxRecDepth 20000 in
theorem gX5_restore_X5_needLot : GoodIn wsX5_restore (wsV RX5 124 RX5 yX5_needLot wsX5_needLot) := goodIn_app (goodIn_of _ (by decide +kernel)) ggX5_restore_X5_needLot
set_option maxRecDepth 20000 in
theorem ggX5_restore_X5_turnWanted : GoodIn wsX5_restore wsX5_turnWanted := goodIn_ca (goodIn_r _ [18, 1, 2, 3, 5, 6, 19, 4, 20, 21, 22, 23, 24, 25, 26, 27, 28, 29, 30, 31, 32, 33, 34, 35, 36, 37, 38, 39, 40, 41, 42, 43, 44, 45, 46, 47, 48, 49, 50, 51, 52, 53, 54, 55, 56, 57, 58, 59, 10, 60, 61, 62, 63, 64, 65, 66, 67, 68, 69, 70, 71, 72, 73, 74, 75, 76, 77, 78, 79, 80, 81, 82, 83, 84, 85, 86, 87, 88, 89, 90, 91, 92, 93, 94, 95, 96, 97, 98, 99, 100, 101, 102, 103, 104, 116, 117, 118, 119, 120, 121, 122, 123, 105, 106, 107, 108, 109, 110, 111, 112, 113, 114, 115, 124, 125, 126, 127, 128, 129, 130, 131, 132, 133, 134, 135] (by decide +kernel) (by decide +kernel)) (goodIn_sub (fun _ h => List.mem_cons_of_mem _ (List.mem_append_left _ (List.mem_append_right _ h))) (by decide +kernel))
set_option maxRecDepth 20000 in
theorem gX5_restore_X5_turnWanted : GoodIn wsX5_restore (wsV RX5 239 RX5 yX5_turnWanted wsX5_turnWanted) := goodIn_app (goodIn_of _ (by decide +kernel)) ggX5_restore_X5_turnWanted
theorem dX5_restore_0 : decode cX5_restore 0 = .ok (.aload_n 0, 1) := by decide +kernel
theorem dX5_restore_1 : decode cX5_restore 1 = .ok (.iload_n 1, 1) := by decide +kernel
theorem dX5_restore_2 : decode cX5_restore 2 = .ok (.invokevirtual 124, 3) := by decide +kernel
theorem dX5_restore_5 : decode cX5_restore 5 = .ok (.aload_n 0, 1) := by decide +kernel
theorem dX5_restore_6 : decode cX5_restore 6 = .ok (.getfield 19, 3) := by decide +kernel
theorem dX5_restore_9 : decode cX5_restore 9 = .ok (.getfield 141, 3) := by decide +kernel
theorem dX5_restore_12 : decode cX5_restore 12 = .ok (.iload_n 1, 1) := by decide +kernel
theorem dX5_restore_13 : decode cX5_restore 13 = .ok (.baload, 1) := by decide +kernel
theorem dX5_restore_14 : decode cX5_restore 14 = .ok (.ifCond .eq 13, 3) := by decide +kernel
theorem dX5_restore_17 : decode cX5_restore 17 = .ok (.new 234, 3) := by decide +kernel
theorem dX5_restore_20 : decode cX5_restore 20 = .ok (.dup, 1) := by decide +kernel
theorem dX5_restore_21 : decode cX5_restore 21 = .ok (.ldc 242, 2) := by decide +kernel
theorem dX5_restore_23 : decode cX5_restore 23 = .ok (.invokespecial 238, 3) := by decide +kernel
theorem dX5_restore_26 : decode cX5_restore 26 = .ok (.athrow, 1) := by decide +kernel
theorem dX5_restore_27 : decode cX5_restore 27 = .ok (.aload_n 0, 1) := by decide +kernel
theorem dX5_restore_28 : decode cX5_restore 28 = .ok (.iload_n 1, 1) := by decide +kernel
theorem dX5_restore_29 : decode cX5_restore 29 = .ok (.invokevirtual 239, 3) := by decide +kernel
theorem dX5_restore_32 : decode cX5_restore 32 = .ok (.aload_n 0, 1) := by decide +kernel
theorem dX5_restore_33 : decode cX5_restore 33 = .ok (.getfield 43, 3) := by decide +kernel
theorem dX5_restore_36 : decode cX5_restore 36 = .ok (.getfield 99, 3) := by decide +kernel
theorem dX5_restore_39 : decode cX5_restore 39 = .ok (.ireturn, 1) := by decide +kernel
set_option maxRecDepth 20000 in
theorem ggX5_add_X0_mostLines : GoodIn wsX5_add wsX0_mostLines := goodIn_r _ [15, 16, 17, 18, 19, 20, 108, 109, 110, 111, 112, 113, 114, 115, 116, 117, 118] (by decide +kernel) (by decide +kernel)
set_option maxRecDepth 20000 in
theorem gX5_add_X0_mostLines : GoodIn wsX5_add (wsV RX5 244 RX0 yX0_mostLines wsX0_mostLines) := goodIn_app (goodIn_of _ (by decide +kernel)) ggX5_add_X0_mostLines
set_option maxRecDepth 20000 in
theorem ggX5_add_X2_remember : GoodIn wsX5_add wsX2_remember := goodIn_r _ [25, 26, 27, 28, 29, 18, 19, 20, 30, 31, 32, 14, 33, 16, 34, 35, 36, 37, 38, 39, 40, 41, 42, 43, 44, 45, 46, 47, 127, 128, 129, 108, 109, 110, 111, 112, 113, 114, 115, 116, 117, 118] (by decide +kernel) (by decide +kernel)
set_option maxRecDepth 20000 in
theorem gX5_add_X2_remember : GoodIn wsX5_add (wsV RX5 76 RX2 yX2_remember wsX2_remember) := goodIn_app (goodIn_of _ (by decide +kernel)) ggX5_add_X2_remember
set_option maxRecDepth 20000 in
theorem ggX5_add_X0_insert : GoodIn wsX5_add wsX0_insert := goodIn_r _ [51, 34, 42, 43, 44, 45, 46, 47, 52, 53, 54, 14, 55, 108, 109, 110, 111, 112, 113, 114, 115, 116, 117, 118] (by decide +kernel) (by decide +kernel)
set_option maxRecDepth 20000 in
theorem gX5_add_X0_insert : GoodIn wsX5_add (wsV RX5 251 RX0 yX0_insert wsX0_insert) := goodIn_app (goodIn_of _ (by decide +kernel)) ggX5_add_X0_insert
set_option maxRecDepth 20000 in
theorem ggX5_add_X5_settle : GoodIn wsX5_add wsX5_settle := goodIn_r _ [60, 61, 5, 62, 7, 63, 64, 65, 66, 67, 68, 69, 70, 71, 72, 73, 74, 75, 76, 77, 78, 79, 80, 81, 82, 83, 84, 85, 86, 87, 88, 89, 90, 91, 92, 93, 94, 95, 96, 97, 98, 99, 14, 100, 45, 46, 101, 102, 103, 104, 105, 106, 107, 108, 109, 110, 111, 112, 113, 114, 115, 116, 117, 118, 130, 131, 132, 133, 134, 135, 136, 137, 138, 119, 120, 121, 122, 123, 124, 125, 126] (by decide +kernel) (by decide +kernel)
set_option maxRecDepth 20000 in
theorem gX5_add_X5_settle : GoodIn wsX5_add (wsV RX5 83 RX5 yX5_settle wsX5_settle) := goodIn_app (goodIn_of _ (by decide +kernel)) ggX5_add_X5_settle
theorem dX5_add_0 : decode cX5_add 0 = .ok (.iload_n 1, 1) := by decide +kernel
theorem dX5_add_1 : decode cX5_add 1 = .ok (.ifCond .lt 53, 3) := by decide +kernel
theorem dX5_add_4 : decode cX5_add 4 = .ok (.iload_n 1, 1) := by decide +kernel
theorem dX5_add_5 : decode cX5_add 5 = .ok (.aload_n 0, 1) := by decide +kernel
theorem dX5_add_6 : decode cX5_add 6 = .ok (.getfield 19, 3) := by decide +kernel
theorem dX5_add_9 : decode cX5_add 9 = .ok (.getfield 86, 3) := by decide +kernel
theorem dX5_add_12 : decode cX5_add 12 = .ok (.if_icmp .gt 42, 3) := by decide +kernel
theorem dX5_add_15 : decode cX5_add 15 = .ok (.iload_n 2, 1) := by decide +kernel
theorem dX5_add_16 : decode cX5_add 16 = .ok (.iconst 1, 1) := by decide +kernel
theorem dX5_add_17 : decode cX5_add 17 = .ok (.if_icmp .lt 37, 3) := by decide +kernel
theorem dX5_add_20 : decode cX5_add 20 = .ok (.iload_n 2, 1) := by decide +kernel
theorem dX5_add_21 : decode cX5_add 21 = .ok (.aload_n 0, 1) := by decide +kernel
theorem dX5_add_22 : decode cX5_add 22 = .ok (.getfield 19, 3) := by decide +kernel
theorem dX5_add_25 : decode cX5_add 25 = .ok (.invokevirtual 244, 3) := by decide +kernel
theorem dX5_add_28 : decode cX5_add 28 = .ok (.if_icmp .gt 26, 3) := by decide +kernel
theorem dX5_add_31 : decode cX5_add 31 = .ok (.iload_n 3, 1) := by decide +kernel
theorem dX5_add_32 : decode cX5_add 32 = .ok (.ifCond .lt 22, 3) := by decide +kernel
theorem dX5_add_35 : decode cX5_add 35 = .ok (.iload_n 3, 1) := by decide +kernel
theorem dX5_add_36 : decode cX5_add 36 = .ok (.sipush 9999, 3) := by decide +kernel
theorem dX5_add_39 : decode cX5_add 39 = .ok (.if_icmp .gt 15, 3) := by decide +kernel
theorem dX5_add_42 : decode cX5_add 42 = .ok (.iload 4, 2) := by decide +kernel
theorem dX5_add_44 : decode cX5_add 44 = .ok (.ifCond .lt 10, 3) := by decide +kernel
theorem dX5_add_47 : decode cX5_add 47 = .ok (.iload 4, 2) := by decide +kernel
theorem dX5_add_49 : decode cX5_add 49 = .ok (.bipush 9, 2) := by decide +kernel
theorem dX5_add_51 : decode cX5_add 51 = .ok (.if_icmp .le 13, 3) := by decide +kernel
theorem dX5_add_54 : decode cX5_add 54 = .ok (.new 62, 3) := by decide +kernel
theorem dX5_add_57 : decode cX5_add 57 = .ok (.dup, 1) := by decide +kernel
theorem dX5_add_58 : decode cX5_add 58 = .ok (.ldc 247, 2) := by decide +kernel
theorem dX5_add_60 : decode cX5_add 60 = .ok (.invokespecial 66, 3) := by decide +kernel
theorem dX5_add_63 : decode cX5_add 63 = .ok (.athrow, 1) := by decide +kernel
theorem dX5_add_64 : decode cX5_add 64 = .ok (.aload_n 0, 1) := by decide +kernel
theorem dX5_add_65 : decode cX5_add 65 = .ok (.getfield 19, 3) := by decide +kernel
theorem dX5_add_68 : decode cX5_add 68 = .ok (.getfield 86, 3) := by decide +kernel
theorem dX5_add_71 : decode cX5_add 71 = .ok (.bipush 24, 2) := by decide +kernel
theorem dX5_add_73 : decode cX5_add 73 = .ok (.if_icmp .ge 15, 3) := by decide +kernel
theorem dX5_add_76 : decode cX5_add 76 = .ok (.aload_n 0, 1) := by decide +kernel
theorem dX5_add_77 : decode cX5_add 77 = .ok (.getfield 43, 3) := by decide +kernel
theorem dX5_add_80 : decode cX5_add 80 = .ok (.getfield 99, 3) := by decide +kernel
theorem dX5_add_83 : decode cX5_add 83 = .ok (.bipush 8, 2) := by decide +kernel
theorem dX5_add_85 : decode cX5_add 85 = .ok (.if_icmp .lt 13, 3) := by decide +kernel
theorem dX5_add_88 : decode cX5_add 88 = .ok (.new 234, 3) := by decide +kernel
theorem dX5_add_91 : decode cX5_add 91 = .ok (.dup, 1) := by decide +kernel
theorem dX5_add_92 : decode cX5_add 92 = .ok (.ldc 249, 2) := by decide +kernel
theorem dX5_add_94 : decode cX5_add 94 = .ok (.invokespecial 238, 3) := by decide +kernel
theorem dX5_add_97 : decode cX5_add 97 = .ok (.athrow, 1) := by decide +kernel
theorem dX5_add_98 : decode cX5_add 98 = .ok (.aload_n 0, 1) := by decide +kernel
theorem dX5_add_99 : decode cX5_add 99 = .ok (.getfield 29, 3) := by decide +kernel
theorem dX5_add_102 : decode cX5_add 102 = .ok (.aload_n 0, 1) := by decide +kernel
theorem dX5_add_103 : decode cX5_add 103 = .ok (.getfield 19, 3) := by decide +kernel
theorem dX5_add_106 : decode cX5_add 106 = .ok (.invokevirtual 76, 3) := by decide +kernel
theorem dX5_add_109 : decode cX5_add 109 = .ok (.aload_n 0, 1) := by decide +kernel
theorem dX5_add_110 : decode cX5_add 110 = .ok (.getfield 19, 3) := by decide +kernel
theorem dX5_add_113 : decode cX5_add 113 = .ok (.iload_n 1, 1) := by decide +kernel
theorem dX5_add_114 : decode cX5_add 114 = .ok (.iload_n 2, 1) := by decide +kernel
theorem dX5_add_115 : decode cX5_add 115 = .ok (.iload_n 3, 1) := by decide +kernel
theorem dX5_add_116 : decode cX5_add 116 = .ok (.iload 4, 2) := by decide +kernel
theorem dX5_add_118 : decode cX5_add 118 = .ok (.invokevirtual 251, 3) := by decide +kernel
theorem dX5_add_121 : decode cX5_add 121 = .ok (.aload_n 0, 1) := by decide +kernel
theorem dX5_add_122 : decode cX5_add 122 = .ok (.getfield 19, 3) := by decide +kernel
theorem dX5_add_125 : decode cX5_add 125 = .ok (.getfield 141, 3) := by decide +kernel
theorem dX5_add_128 : decode cX5_add 128 = .ok (.iload_n 1, 1) := by decide +kernel
theorem dX5_add_129 : decode cX5_add 129 = .ok (.iconst 1, 1) := by decide +kernel
theorem dX5_add_130 : decode cX5_add 130 = .ok (.bastore, 1) := by decide +kernel
theorem dX5_add_131 : decode cX5_add 131 = .ok (.aload_n 0, 1) := by decide +kernel
theorem dX5_add_132 : decode cX5_add 132 = .ok (.invokevirtual 83, 3) := by decide +kernel
theorem dX5_add_135 : decode cX5_add 135 = .ok (.aload_n 0, 1) := by decide +kernel
theorem dX5_add_136 : decode cX5_add 136 = .ok (.getfield 19, 3) := by decide +kernel
theorem dX5_add_139 : decode cX5_add 139 = .ok (.getfield 86, 3) := by decide +kernel
theorem dX5_add_142 : decode cX5_add 142 = .ok (.ireturn, 1) := by decide +kernel
set_option maxRecDepth 20000 in
theorem ggX5_carry_X5_needChoice : GoodIn wsX5_carry wsX5_needChoice := goodIn_ca (goodIn_r _ [5, 6, 7, 8, 9, 10, 11, 12, 13, 14, 146, 147, 148, 149, 150, 151, 152, 153, 154, 155, 156, 157, 158, 159, 160] (by decide +kernel) (by decide +kernel)) (goodIn_sub (fun _ h => List.mem_cons_of_mem _ (List.mem_append_right _ h)) (by decide +kernel))
set_option maxRecDepth 20000 in
theorem gX5_carry_X5_needChoice : GoodIn wsX5_carry (wsV RX5 191 RX5 yX5_needChoice wsX5_needChoice) := goodIn_app (goodIn_of _ (by decide +kernel)) ggX5_carry_X5_needChoice
set_option maxRecDepth 20000 in
theorem ggX5_carry_X5_carryOut : GoodIn wsX5_carry wsX5_carryOut := goodIn_r _ [18, 8, 19, 20, 21, 22, 23, 24, 25, 26, 27, 28, 29, 12, 30, 31, 32, 33, 14, 34, 35, 36, 37, 38, 39, 40, 41, 42, 43, 44, 45, 46, 47, 48, 49, 50, 51, 52, 53, 54, 55, 56, 57, 58, 59, 60, 61, 62, 63, 64, 65, 66, 67, 68, 69, 70, 71, 72, 73, 74, 75, 76, 77, 78, 79, 80, 81, 82, 83, 84, 85, 86, 87, 88, 89, 90, 91, 92, 93, 94, 95, 96, 97, 98, 99, 100, 101, 102, 103, 104, 105, 106, 107, 108, 109, 110, 111, 112, 113, 114, 115, 116, 117, 118, 119, 120, 121, 122, 123, 124, 125, 126, 127, 128, 129, 130, 131, 132, 133, 4, 134, 135, 136, 137, 138, 139, 140, 141, 142, 143, 144, 145, 146, 147, 148, 149, 150, 151, 152, 153, 154, 155, 156, 157, 158, 159, 160, 161, 162, 163, 164, 165, 166, 167, 168, 169, 170, 171, 172, 173, 174, 175, 176, 177, 178, 179, 180, 181, 182, 183] (by decide +kernel) (by decide +kernel)
set_option maxRecDepth 20000 in
theorem gX5_carry_X5_carryOut : GoodIn wsX5_carry (wsV RX5 255 RX5 yX5_carryOut wsX5_carryOut) := goodIn_app (goodIn_of _ (by decide +kernel)) ggX5_carry_X5_carryOut
theorem dX5_carry_0 : decode cX5_carry 0 = .ok (.aload_n 0, 1) := by decide +kernel
theorem dX5_carry_1 : decode cX5_carry 1 = .ok (.iload_n 1, 1) := by decide +kernel
theorem dX5_carry_2 : decode cX5_carry 2 = .ok (.invokevirtual 191, 3) := by decide +kernel
theorem dX5_carry_5 : decode cX5_carry 5 = .ok (.aload_n 0, 1) := by decide +kernel
theorem dX5_carry_6 : decode cX5_carry 6 = .ok (.iload_n 1, 1) := by decide +kernel
theorem dX5_carry_7 : decode cX5_carry 7 = .ok (.invokevirtual 255, 3) := by decide +kernel
theorem dX5_carry_10 : decode cX5_carry 10 = .ok (.ireturn, 1) := by decide +kernel
set_option maxRecDepth 20000 in
theorem ggX5_press_X5_best : GoodIn wsX5_press wsX5_best := goodIn_r _ [5, 6, 7, 8, 9, 10, 11, 12, 13, 14, 15, 16, 17, 18, 19, 20, 21, 22, 23, 24, 25, 26, 27, 28, 29, 30, 31, 32, 33, 34, 35, 36, 37, 38, 39, 40, 41, 42, 43, 44, 45, 46, 47, 48, 49, 50, 51, 52, 53, 54, 55, 56, 57, 58, 59, 60, 61, 62, 63, 64, 65, 66, 67, 68, 69, 70, 71, 72, 73, 74, 75, 76, 77, 78, 79, 80, 81, 82, 83, 84, 85, 86, 87, 88, 89, 90, 91, 92, 154, 155, 156, 157, 158, 159, 160, 161, 162, 163, 164, 165, 166, 167, 168, 169, 170, 171, 172, 173, 174, 175, 176, 177, 178, 179, 180, 181, 182, 183, 184, 185, 186, 187, 188] (by decide +kernel) (by decide +kernel)
set_option maxRecDepth 20000 in
theorem gX5_press_X5_best : GoodIn wsX5_press (wsV RX5 258 RX5 yX5_best wsX5_best) := goodIn_app (goodIn_of _ (by decide +kernel)) ggX5_press_X5_best
set_option maxRecDepth 20000 in
theorem ggX5_press_X5_carryOut : GoodIn wsX5_press wsX5_carryOut := goodIn_r _ [96, 6, 7, 8, 97, 98, 99, 100, 101, 102, 103, 23, 24, 12, 25, 26, 27, 21, 14, 28, 29, 30, 31, 32, 33, 34, 35, 36, 37, 38, 39, 40, 41, 42, 43, 44, 45, 46, 47, 48, 49, 50, 51, 52, 53, 54, 55, 56, 57, 58, 59, 60, 61, 62, 63, 64, 65, 66, 67, 68, 69, 70, 71, 72, 73, 74, 75, 76, 77, 78, 79, 80, 81, 82, 83, 84, 85, 86, 87, 88, 104, 105, 106, 107, 108, 109, 110, 111, 112, 113, 114, 115, 116, 117, 118, 119, 120, 121, 122, 123, 124, 125, 126, 127, 128, 129, 130, 131, 132, 133, 134, 135, 136, 137, 138, 139, 140, 141, 142, 4, 143, 144, 145, 146, 147, 148, 149, 19, 150, 151, 152, 153, 154, 155, 156, 157, 158, 159, 160, 161, 162, 163, 164, 165, 166, 167, 168, 169, 170, 171, 172, 173, 174, 175, 176, 177, 178, 179, 180, 181, 182, 183, 184, 185, 186, 187, 188, 189, 190, 191] (by decide +kernel) (by decide +kernel)
set_option maxRecDepth 20000 in
theorem gX5_press_X5_carryOut : GoodIn wsX5_press (wsV RX5 255 RX5 yX5_carryOut wsX5_carryOut) := goodIn_app (goodIn_of _ (by decide +kernel)) ggX5_press_X5_carryOut
theorem dX5_press_0 : decode cX5_press 0 = .ok (.aload_n 0, 1) := by decide +kernel
theorem dX5_press_1 : decode cX5_press 1 = .ok (.aload_n 0, 1) := by decide +kernel
theorem dX5_press_2 : decode cX5_press 2 = .ok (.invokevirtual 258, 3) := by decide +kernel
theorem dX5_press_5 : decode cX5_press 5 = .ok (.invokevirtual 255, 3) := by decide +kernel
theorem dX5_press_8 : decode cX5_press 8 = .ok (.ireturn, 1) := by decide +kernel
set_option maxRecDepth 20000 in
theorem ggX5_setCost_X2_remember : GoodIn wsX5_setCost wsX2_remember := goodIn_r _ [10, 11, 12, 13, 14, 15, 16, 17, 18, 19, 20, 21, 22, 23, 24, 25, 26, 27, 28, 29, 30, 31, 32, 33, 34, 35, 36, 37, 102, 103, 104, 91, 92, 93, 94, 95, 96, 97, 98, 99, 100, 101] (by decide +kernel) (by decide +kernel)
set_option maxRecDepth 20000 in
theorem gX5_setCost_X2_remember : GoodIn wsX5_setCost (wsV RX5 76 RX2 yX2_remember wsX2_remember) := goodIn_app (goodIn_of _ (by decide +kernel)) ggX5_setCost_X2_remember
set_option maxRecDepth 20000 in
theorem ggX5_setCost_X5_settle : GoodIn wsX5_setCost wsX5_settle := goodIn_r _ [42, 43, 4, 44, 45, 46, 47, 48, 49, 50, 51, 52, 53, 54, 55, 56, 57, 58, 59, 60, 61, 62, 63, 64, 65, 66, 67, 68, 69, 70, 71, 72, 73, 74, 75, 76, 77, 78, 79, 80, 81, 82, 21, 83, 35, 36, 84, 85, 86, 87, 88, 89, 90, 91, 92, 93, 94, 95, 96, 97, 98, 99, 100, 101, 105, 106, 107, 108, 109, 110, 111, 112, 113, 114, 115, 116, 117, 118, 119, 120, 121] (by decide +kernel) (by decide +kernel)
set_option maxRecDepth 20000 in
theorem gX5_setCost_X5_settle : GoodIn wsX5_setCost (wsV RX5 83 RX5 yX5_settle wsX5_settle) := goodIn_app (goodIn_of _ (by decide +kernel)) ggX5_setCost_X5_settle
theorem dX5_setCost_0 : decode cX5_setCost 0 = .ok (.iload_n 1, 1) := by decide +kernel
theorem dX5_setCost_1 : decode cX5_setCost 1 = .ok (.ifCond .lt 18, 3) := by decide +kernel
theorem dX5_setCost_4 : decode cX5_setCost 4 = .ok (.iload_n 1, 1) := by decide +kernel
theorem dX5_setCost_5 : decode cX5_setCost 5 = .ok (.iconst 5, 1) := by decide +kernel
theorem dX5_setCost_6 : decode cX5_setCost 6 = .ok (.if_icmp .ge 13, 3) := by decide +kernel
theorem dX5_setCost_9 : decode cX5_setCost 9 = .ok (.iload_n 2, 1) := by decide +kernel
theorem dX5_setCost_10 : decode cX5_setCost 10 = .ok (.ifCond .lt 9, 3) := by decide +kernel
theorem dX5_setCost_13 : decode cX5_setCost 13 = .ok (.iload_n 2, 1) := by decide +kernel
theorem dX5_setCost_14 : decode cX5_setCost 14 = .ok (.bipush 99, 2) := by decide +kernel
theorem dX5_setCost_16 : decode cX5_setCost 16 = .ok (.if_icmp .le 14, 3) := by decide +kernel
theorem dX5_setCost_19 : decode cX5_setCost 19 = .ok (.new 62, 3) := by decide +kernel
theorem dX5_setCost_22 : decode cX5_setCost 22 = .ok (.dup, 1) := by decide +kernel
theorem dX5_setCost_23 : decode cX5_setCost 23 = .ok (.ldc_w 261, 3) := by decide +kernel
theorem dX5_setCost_26 : decode cX5_setCost 26 = .ok (.invokespecial 66, 3) := by decide +kernel
theorem dX5_setCost_29 : decode cX5_setCost 29 = .ok (.athrow, 1) := by decide +kernel
theorem dX5_setCost_30 : decode cX5_setCost 30 = .ok (.aload_n 0, 1) := by decide +kernel
theorem dX5_setCost_31 : decode cX5_setCost 31 = .ok (.getfield 29, 3) := by decide +kernel
theorem dX5_setCost_34 : decode cX5_setCost 34 = .ok (.aload_n 0, 1) := by decide +kernel
theorem dX5_setCost_35 : decode cX5_setCost 35 = .ok (.getfield 19, 3) := by decide +kernel
theorem dX5_setCost_38 : decode cX5_setCost 38 = .ok (.invokevirtual 76, 3) := by decide +kernel
theorem dX5_setCost_41 : decode cX5_setCost 41 = .ok (.aload_n 0, 1) := by decide +kernel
theorem dX5_setCost_42 : decode cX5_setCost 42 = .ok (.getfield 19, 3) := by decide +kernel
theorem dX5_setCost_45 : decode cX5_setCost 45 = .ok (.getfield 263, 3) := by decide +kernel
