theorem dX4_init_0 : decode cX4_init 0 = .ok (.aload_n 0, 1) := by decide +kernel
theorem dX4_init_1 : decode cX4_init 1 = .ok (.invokespecial 3, 3) := by decide +kernel
theorem dX4_init_4 : decode cX4_init 4 = .ok (.aload_n 0, 1) := by decide +kernel
theorem dX4_init_5 : decode cX4_init 5 = .ok (.iconst (-1), 1) := by decide +kernel
theorem dX4_init_6 : decode cX4_init 6 = .ok (.putfield 9, 3) := by decide +kernel
theorem dX4_init_9 : decode cX4_init 9 = .ok (.aload_n 0, 1) := by decide +kernel
theorem dX4_init_10 : decode cX4_init 10 = .ok (.sipush 500, 3) := by decide +kernel
theorem dX4_init_13 : decode cX4_init 13 = .ok (.newarray .byte, 2) := by decide +kernel
theorem dX4_init_15 : decode cX4_init 15 = .ok (.putfield 15, 3) := by decide +kernel
theorem dX4_init_18 : decode cX4_init 18 = .ok (.return_, 1) := by decide +kernel
theorem dX4_hasRoomFor_0 : decode cX4_hasRoomFor 0 = .ok (.aload_n 0, 1) := by decide +kernel
theorem dX4_hasRoomFor_1 : decode cX4_hasRoomFor 1 = .ok (.getfield 19, 3) := by decide +kernel
theorem dX4_hasRoomFor_4 : decode cX4_hasRoomFor 4 = .ok (.iload_n 1, 1) := by decide +kernel
theorem dX4_hasRoomFor_5 : decode cX4_hasRoomFor 5 = .ok (.iadd, 1) := by decide +kernel
theorem dX4_hasRoomFor_6 : decode cX4_hasRoomFor 6 = .ok (.sipush 500, 3) := by decide +kernel
theorem dX4_hasRoomFor_9 : decode cX4_hasRoomFor 9 = .ok (.if_icmp .gt 7, 3) := by decide +kernel
theorem dX4_hasRoomFor_12 : decode cX4_hasRoomFor 12 = .ok (.iconst 1, 1) := by decide +kernel
theorem dX4_hasRoomFor_13 : decode cX4_hasRoomFor 13 = .ok (.goto 4, 3) := by decide +kernel
theorem dX4_hasRoomFor_16 : decode cX4_hasRoomFor 16 = .ok (.iconst 0, 1) := by decide +kernel
theorem dX4_hasRoomFor_17 : decode cX4_hasRoomFor 17 = .ok (.ireturn, 1) := by decide +kernel
theorem dX4_putWord_0 : decode cX4_putWord 0 = .ok (.bipush 24, 2) := by decide +kernel
theorem dX4_putWord_2 : decode cX4_putWord 2 = .ok (.istore_n 2, 1) := by decide +kernel
theorem dX4_putWord_3 : decode cX4_putWord 3 = .ok (.iload_n 2, 1) := by decide +kernel
theorem dX4_putWord_4 : decode cX4_putWord 4 = .ok (.ifCond .lt 49, 3) := by decide +kernel
theorem dX4_putWord_7 : decode cX4_putWord 7 = .ok (.aload_n 0, 1) := by decide +kernel
theorem dX4_putWord_8 : decode cX4_putWord 8 = .ok (.getfield 19, 3) := by decide +kernel
theorem dX4_putWord_11 : decode cX4_putWord 11 = .ok (.ifCond .lt 36, 3) := by decide +kernel
theorem dX4_putWord_14 : decode cX4_putWord 14 = .ok (.aload_n 0, 1) := by decide +kernel
theorem dX4_putWord_15 : decode cX4_putWord 15 = .ok (.getfield 19, 3) := by decide +kernel
theorem dX4_putWord_18 : decode cX4_putWord 18 = .ok (.sipush 500, 3) := by decide +kernel
theorem dX4_putWord_21 : decode cX4_putWord 21 = .ok (.if_icmp .ge 26, 3) := by decide +kernel
theorem dX4_putWord_24 : decode cX4_putWord 24 = .ok (.aload_n 0, 1) := by decide +kernel
theorem dX4_putWord_25 : decode cX4_putWord 25 = .ok (.getfield 15, 3) := by decide +kernel
theorem dX4_putWord_28 : decode cX4_putWord 28 = .ok (.aload_n 0, 1) := by decide +kernel
theorem dX4_putWord_29 : decode cX4_putWord 29 = .ok (.getfield 19, 3) := by decide +kernel
theorem dX4_putWord_32 : decode cX4_putWord 32 = .ok (.iload_n 1, 1) := by decide +kernel
theorem dX4_putWord_33 : decode cX4_putWord 33 = .ok (.iload_n 2, 1) := by decide +kernel
theorem dX4_putWord_34 : decode cX4_putWord 34 = .ok (.iushr, 1) := by decide +kernel
theorem dX4_putWord_35 : decode cX4_putWord 35 = .ok (.i2b, 1) := by decide +kernel
theorem dX4_putWord_36 : decode cX4_putWord 36 = .ok (.bastore, 1) := by decide +kernel
theorem dX4_putWord_37 : decode cX4_putWord 37 = .ok (.aload_n 0, 1) := by decide +kernel
theorem dX4_putWord_38 : decode cX4_putWord 38 = .ok (.dup, 1) := by decide +kernel
theorem dX4_putWord_39 : decode cX4_putWord 39 = .ok (.getfield 19, 3) := by decide +kernel
theorem dX4_putWord_42 : decode cX4_putWord 42 = .ok (.iconst 1, 1) := by decide +kernel
theorem dX4_putWord_43 : decode cX4_putWord 43 = .ok (.iadd, 1) := by decide +kernel
theorem dX4_putWord_44 : decode cX4_putWord 44 = .ok (.putfield 19, 3) := by decide +kernel
theorem dX4_putWord_47 : decode cX4_putWord 47 = .ok (.iinc 2 (-8), 3) := by decide +kernel
theorem dX4_putWord_50 : decode cX4_putWord 50 = .ok (.goto (-47), 3) := by decide +kernel
theorem dX4_putWord_53 : decode cX4_putWord 53 = .ok (.return_, 1) := by decide +kernel
set_option maxRecDepth 20000 in
theorem ggX4_readInto_X4_begin : GoodIn wsX4_readInto wsX4_begin := goodIn_r _ [7, 2, 8, 9, 10, 11, 12, 13, 1, 14, 15, 16, 160, 161, 162, 163, 164, 165, 166, 167] (by decide +kernel) (by decide +kernel)
set_option maxRecDepth 20000 in
theorem gX4_readInto_X4_begin : GoodIn wsX4_readInto (wsV RX4 22 RX4 yX4_begin wsX4_begin) := goodIn_app (goodIn_of _ (by decide +kernel)) ggX4_readInto_X4_begin
set_option maxRecDepth 20000 in
theorem ggX4_readInto_X0_clear : GoodIn wsX4_readInto wsX0_clear := goodIn_r _ [21, 22, 23, 24, 25, 26, 168, 169, 170, 171, 172, 173, 174, 175, 176, 177, 178] (by decide +kernel) (by decide +kernel)
set_option maxRecDepth 20000 in
theorem gX4_readInto_X0_clear : GoodIn wsX4_readInto (wsV RX4 26 RX0 yX0_clear wsX0_clear) := goodIn_app (goodIn_of _ (by decide +kernel)) ggX4_readInto_X0_clear
set_option maxRecDepth 20000 in
theorem ggX4_readInto_X4_readHead : GoodIn wsX4_readInto wsX4_readHead := goodIn_r _ [30, 13, 31, 32, 33, 34, 6, 35, 36, 37, 38, 39, 12, 40, 41, 42, 43, 44, 45, 46, 47, 48, 49, 50, 51, 52, 53, 54, 55, 56, 57, 58, 59, 60, 61, 62, 63, 64, 65, 66, 67, 68, 69, 70, 71, 72, 73, 74, 75, 76, 77, 78, 79, 80, 81, 82, 83, 84, 85, 86, 87, 88, 89, 90, 91, 92, 93, 94, 95, 96, 97, 98, 99, 100, 1, 14, 101, 102, 103, 104, 8, 9, 10, 11, 105, 106, 107, 108, 109, 110, 111, 160, 161, 162, 163, 164, 165, 166, 167, 168, 169, 170, 171, 172, 173, 174, 175, 176, 177, 178] (by decide +kernel) (by decide +kernel)
set_option maxRecDepth 20000 in
theorem gX4_readInto_X4_readHead : GoodIn wsX4_readInto (wsV RX4 31 RX4 yX4_readHead wsX4_readHead) := goodIn_app (goodIn_of _ (by decide +kernel)) ggX4_readInto_X4_readHead
set_option maxRecDepth 20000 in
theorem ggX4_readInto_X4_next : GoodIn wsX4_readInto wsX4_next := goodIn_r _ [39, 13, 12, 40, 41, 42, 6, 43, 44, 160, 161, 162, 163, 164, 165, 166, 167] (by decide +kernel) (by decide +kernel)
set_option maxRecDepth 20000 in
theorem gX4_readInto_X4_next : GoodIn wsX4_readInto (wsV RX4 38 RX4 yX4_next wsX4_next) := goodIn_app (goodIn_of _ (by decide +kernel)) ggX4_readInto_X4_next
set_option maxRecDepth 20000 in
theorem ggX4_readInto_X4_readStatement : GoodIn wsX4_readInto wsX4_readStatement := goodIn_r _ [115, 15, 16, 32, 33, 34, 6, 35, 13, 36, 37, 38, 39, 12, 40, 41, 42, 43, 44, 45, 46, 47, 48, 49, 50, 51, 52, 53, 54, 55, 56, 57, 58, 59, 60, 61, 62, 63, 64, 65, 66, 67, 68, 69, 70, 71, 72, 73, 74, 75, 76, 77, 78, 79, 80, 81, 82, 83, 84, 85, 86, 87, 88, 89, 90, 91, 92, 93, 94, 95, 96, 116, 117, 118, 119, 120, 1, 121, 122, 97, 98, 99, 100, 14, 123, 124, 125, 20, 126, 22, 127, 9, 10, 11, 101, 102, 103, 104, 8, 105, 106, 107, 128, 129, 130, 131, 23, 132, 133, 134, 135, 136, 137, 138, 139, 140, 141, 142, 143, 144, 145, 146, 147, 148, 149, 150, 151, 152, 153, 154, 155, 156, 157, 158, 159, 160, 161, 162, 163, 164, 165, 166, 167, 168, 169, 170, 171, 172, 173, 174, 175, 176, 177, 178] (by decide +kernel) (by decide +kernel)
set_option maxRecDepth 20000 in
theorem gX4_readInto_X4_readStatement : GoodIn wsX4_readInto (wsV RX4 42 RX4 yX4_readStatement wsX4_readStatement) := goodIn_app (goodIn_of _ (by decide +kernel)) ggX4_readInto_X4_readStatement
set_option maxRecDepth 20000 in
theorem ggX4_readInto_X4_takeSemicolon : GoodIn wsX4_readInto wsX4_takeSemicolon := goodIn_r _ [111, 13, 36, 37, 38, 6, 39, 12, 40, 41, 42, 43, 44, 97, 98, 99, 100, 1, 14, 160, 161, 162, 163, 164, 165, 166, 167] (by decide +kernel) (by decide +kernel)
set_option maxRecDepth 20000 in
theorem gX4_readInto_X4_takeSemicolon : GoodIn wsX4_readInto (wsV RX4 45 RX4 yX4_takeSemicolon wsX4_takeSemicolon) := goodIn_app (goodIn_of _ (by decide +kernel)) ggX4_readInto_X4_takeSemicolon
theorem dX4_readInto_0 : decode cX4_readInto 0 = .ok (.aload_n 0, 1) := by decide +kernel
theorem dX4_readInto_1 : decode cX4_readInto 1 = .ok (.iload_n 2, 1) := by decide +kernel
theorem dX4_readInto_2 : decode cX4_readInto 2 = .ok (.invokevirtual 22, 3) := by decide +kernel
theorem dX4_readInto_5 : decode cX4_readInto 5 = .ok (.aload_n 1, 1) := by decide +kernel
theorem dX4_readInto_6 : decode cX4_readInto 6 = .ok (.invokevirtual 26, 3) := by decide +kernel
theorem dX4_readInto_9 : decode cX4_readInto 9 = .ok (.aload_n 0, 1) := by decide +kernel
theorem dX4_readInto_10 : decode cX4_readInto 10 = .ok (.aload_n 1, 1) := by decide +kernel
theorem dX4_readInto_11 : decode cX4_readInto 11 = .ok (.invokevirtual 31, 3) := by decide +kernel
theorem dX4_readInto_14 : decode cX4_readInto 14 = .ok (.iconst 0, 1) := by decide +kernel
theorem dX4_readInto_15 : decode cX4_readInto 15 = .ok (.istore_n 3, 1) := by decide +kernel
theorem dX4_readInto_16 : decode cX4_readInto 16 = .ok (.iload_n 3, 1) := by decide +kernel
theorem dX4_readInto_17 : decode cX4_readInto 17 = .ok (.sipush 500, 3) := by decide +kernel
theorem dX4_readInto_20 : decode cX4_readInto 20 = .ok (.if_icmp .ge 33, 3) := by decide +kernel
theorem dX4_readInto_23 : decode cX4_readInto 23 = .ok (.aload_n 0, 1) := by decide +kernel
theorem dX4_readInto_24 : decode cX4_readInto 24 = .ok (.getfield 35, 3) := by decide +kernel
theorem dX4_readInto_27 : decode cX4_readInto 27 = .ok (.ifCond .ne 26, 3) := by decide +kernel
theorem dX4_readInto_30 : decode cX4_readInto 30 = .ok (.aload_n 0, 1) := by decide +kernel
theorem dX4_readInto_31 : decode cX4_readInto 31 = .ok (.invokevirtual 38, 3) := by decide +kernel
theorem dX4_readInto_34 : decode cX4_readInto 34 = .ok (.iconst (-1), 1) := by decide +kernel
theorem dX4_readInto_35 : decode cX4_readInto 35 = .ok (.if_icmp .eq 18, 3) := by decide +kernel
theorem dX4_readInto_38 : decode cX4_readInto 38 = .ok (.aload_n 0, 1) := by decide +kernel
theorem dX4_readInto_39 : decode cX4_readInto 39 = .ok (.aload_n 1, 1) := by decide +kernel
theorem dX4_readInto_40 : decode cX4_readInto 40 = .ok (.invokevirtual 42, 3) := by decide +kernel
theorem dX4_readInto_43 : decode cX4_readInto 43 = .ok (.aload_n 0, 1) := by decide +kernel
theorem dX4_readInto_44 : decode cX4_readInto 44 = .ok (.invokevirtual 45, 3) := by decide +kernel
theorem dX4_readInto_47 : decode cX4_readInto 47 = .ok (.iinc 3 1, 3) := by decide +kernel
theorem dX4_readInto_50 : decode cX4_readInto 50 = .ok (.goto (-34), 3) := by decide +kernel
theorem dX4_readInto_53 : decode cX4_readInto 53 = .ok (.aload_n 0, 1) := by decide +kernel
theorem dX4_readInto_54 : decode cX4_readInto 54 = .ok (.iconst 0, 1) := by decide +kernel
theorem dX4_readInto_55 : decode cX4_readInto 55 = .ok (.putfield 19, 3) := by decide +kernel
theorem dX4_readInto_58 : decode cX4_readInto 58 = .ok (.aload_n 0, 1) := by decide +kernel
theorem dX4_readInto_59 : decode cX4_readInto 59 = .ok (.getfield 35, 3) := by decide +kernel
theorem dX4_readInto_62 : decode cX4_readInto 62 = .ok (.ireturn, 1) := by decide +kernel
theorem dX4_begin_0 : decode cX4_begin 0 = .ok (.aload_n 0, 1) := by decide +kernel
theorem dX4_begin_1 : decode cX4_begin 1 = .ok (.iload_n 1, 1) := by decide +kernel
theorem dX4_begin_2 : decode cX4_begin 2 = .ok (.aload_n 0, 1) := by decide +kernel
theorem dX4_begin_3 : decode cX4_begin 3 = .ok (.getfield 19, 3) := by decide +kernel
theorem dX4_begin_6 : decode cX4_begin 6 = .ok (.invokestatic 48, 3) := by decide +kernel
theorem dX4_begin_9 : decode cX4_begin 9 = .ok (.putfield 54, 3) := by decide +kernel
theorem dX4_begin_12 : decode cX4_begin 12 = .ok (.aload_n 0, 1) := by decide +kernel
theorem dX4_begin_13 : decode cX4_begin 13 = .ok (.iconst 0, 1) := by decide +kernel
theorem dX4_begin_14 : decode cX4_begin 14 = .ok (.putfield 57, 3) := by decide +kernel
theorem dX4_begin_17 : decode cX4_begin 17 = .ok (.aload_n 0, 1) := by decide +kernel
theorem dX4_begin_18 : decode cX4_begin 18 = .ok (.iconst 0, 1) := by decide +kernel
theorem dX4_begin_19 : decode cX4_begin 19 = .ok (.putfield 35, 3) := by decide +kernel
theorem dX4_begin_22 : decode cX4_begin 22 = .ok (.aload_n 0, 1) := by decide +kernel
theorem dX4_begin_23 : decode cX4_begin 23 = .ok (.iconst (-1), 1) := by decide +kernel
theorem dX4_begin_24 : decode cX4_begin 24 = .ok (.putfield 9, 3) := by decide +kernel
theorem dX4_begin_27 : decode cX4_begin 27 = .ok (.aload_n 0, 1) := by decide +kernel
theorem dX4_begin_28 : decode cX4_begin 28 = .ok (.iconst 0, 1) := by decide +kernel
theorem dX4_begin_29 : decode cX4_begin 29 = .ok (.putfield 60, 3) := by decide +kernel
theorem dX4_begin_32 : decode cX4_begin 32 = .ok (.aload_n 0, 1) := by decide +kernel
theorem dX4_begin_33 : decode cX4_begin 33 = .ok (.iconst 0, 1) := by decide +kernel
theorem dX4_begin_34 : decode cX4_begin 34 = .ok (.putfield 64, 3) := by decide +kernel
theorem dX4_begin_37 : decode cX4_begin 37 = .ok (.return_, 1) := by decide +kernel
set_option maxRecDepth 20000 in
theorem ggX4_readHead_X4_nextIsWord : GoodIn wsX4_readHead wsX4_nextIsWord := goodIn_r _ [7, 1, 8, 9, 10, 6, 11, 12, 13, 14, 15, 16, 17, 18, 19, 20, 21, 22, 23, 24, 25, 26, 27, 28, 29, 30, 31, 32, 33, 34, 35, 36, 37, 38, 39, 40, 41, 42, 43, 44, 45, 46, 47, 48, 49, 50, 51, 52, 53, 54, 55, 56, 57, 58, 59, 60, 61, 62, 63, 64, 65, 66, 67, 68, 69, 91, 92, 93, 94, 95, 96, 97, 98] (by decide +kernel) (by decide +kernel)
set_option maxRecDepth 20000 in
theorem gX4_readHead_X4_nextIsWord : GoodIn wsX4_readHead (wsV RX4 69 RX4 yX4_nextIsWord wsX4_nextIsWord) := goodIn_app (goodIn_of _ (by decide +kernel)) ggX4_readHead_X4_nextIsWord
set_option maxRecDepth 20000 in
theorem ggX4_readHead_X4_fail : GoodIn wsX4_readHead wsX4_fail := goodIn_r _ [73, 74, 1, 75, 91, 92, 93, 94, 95, 96, 97, 98] (by decide +kernel) (by decide +kernel)
set_option maxRecDepth 20000 in
theorem gX4_readHead_X4_fail : GoodIn wsX4_readHead (wsV RX4 73 RX4 yX4_fail wsX4_fail) := goodIn_app (goodIn_of _ (by decide +kernel)) ggX4_readHead_X4_fail
set_option maxRecDepth 20000 in
theorem ggX4_readHead_X4_takeNumber : GoodIn wsX4_readHead wsX4_takeNumber := goodIn_r _ [79, 1, 12, 80, 81, 82, 83, 8, 9, 10, 6, 11, 13, 14, 15, 16, 17, 84, 85, 86, 70, 71, 72, 73, 74, 75, 91, 92, 93, 94, 95, 96, 97, 98] (by decide +kernel) (by decide +kernel)
set_option maxRecDepth 20000 in
theorem gX4_readHead_X4_takeNumber : GoodIn wsX4_readHead (wsV RX4 76 RX4 yX4_takeNumber wsX4_takeNumber) := goodIn_app (goodIn_of _ (by decide +kernel)) ggX4_readHead_X4_takeNumber
set_option maxRecDepth 20000 in
theorem ggX4_readHead_X4_takeSemicolon : GoodIn wsX4_readHead wsX4_takeSemicolon := goodIn_r _ [90, 1, 8, 9, 10, 6, 11, 12, 13, 14, 15, 16, 17, 70, 71, 72, 73, 74, 75, 91, 92, 93, 94, 95, 96, 97, 98] (by decide +kernel) (by decide +kernel)
set_option maxRecDepth 20000 in
theorem gX4_readHead_X4_takeSemicolon : GoodIn wsX4_readHead (wsV RX4 45 RX4 yX4_takeSemicolon wsX4_takeSemicolon) := goodIn_app (goodIn_of _ (by decide +kernel)) ggX4_readHead_X4_takeSemicolon
theorem dX4_readHead_0 : decode cX4_readHead 0 = .ok (.aload_n 0, 1) := by decide +kernel
theorem dX4_readHead_1 : decode cX4_readHead 1 = .ok (.ldc 67, 2) := by decide +kernel
theorem dX4_readHead_3 : decode cX4_readHead 3 = .ok (.invokevirtual 69, 3) := by decide +kernel
theorem dX4_readHead_6 : decode cX4_readHead 6 = .ok (.ifCond .ne 9, 3) := by decide +kernel
theorem dX4_readHead_9 : decode cX4_readHead 9 = .ok (.aload_n 0, 1) := by decide +kernel
theorem dX4_readHead_10 : decode cX4_readHead 10 = .ok (.bipush (-2), 2) := by decide +kernel
theorem dX4_readHead_12 : decode cX4_readHead 12 = .ok (.invokevirtual 73, 3) := by decide +kernel
theorem dX4_readHead_15 : decode cX4_readHead 15 = .ok (.aload_n 0, 1) := by decide +kernel
theorem dX4_readHead_16 : decode cX4_readHead 16 = .ok (.dup, 1) := by decide +kernel
theorem dX4_readHead_17 : decode cX4_readHead 17 = .ok (.getfield 57, 3) := by decide +kernel
theorem dX4_readHead_20 : decode cX4_readHead 20 = .ok (.iconst 4, 1) := by decide +kernel
theorem dX4_readHead_21 : decode cX4_readHead 21 = .ok (.iadd, 1) := by decide +kernel
theorem dX4_readHead_22 : decode cX4_readHead 22 = .ok (.putfield 57, 3) := by decide +kernel
theorem dX4_readHead_25 : decode cX4_readHead 25 = .ok (.aload_n 1, 1) := by decide +kernel
theorem dX4_readHead_26 : decode cX4_readHead 26 = .ok (.aload_n 0, 1) := by decide +kernel
theorem dX4_readHead_27 : decode cX4_readHead 27 = .ok (.iconst 4, 1) := by decide +kernel
theorem dX4_readHead_28 : decode cX4_readHead 28 = .ok (.bipush 40, 2) := by decide +kernel
theorem dX4_readHead_30 : decode cX4_readHead 30 = .ok (.invokevirtual 76, 3) := by decide +kernel
theorem dX4_readHead_33 : decode cX4_readHead 33 = .ok (.putfield 79, 3) := by decide +kernel
theorem dX4_readHead_36 : decode cX4_readHead 36 = .ok (.aload_n 0, 1) := by decide +kernel
theorem dX4_readHead_37 : decode cX4_readHead 37 = .ok (.invokevirtual 45, 3) := by decide +kernel
theorem dX4_readHead_40 : decode cX4_readHead 40 = .ok (.return_, 1) := by decide +kernel
set_option maxRecDepth 20000 in
theorem ggX4_readStatement_X4_nextIsWord : GoodIn wsX4_readStatement wsX4_nextIsWord := goodIn_r _ [7, 8, 9, 10, 11, 6, 12, 13, 14, 15, 16, 17, 18, 19, 20, 21, 22, 23, 24, 25, 26, 27, 28, 29, 30, 31, 32, 33, 34, 35, 36, 37, 38, 39, 40, 41, 42, 43, 44, 45, 46, 47, 48, 49, 50, 51, 52, 53, 54, 55, 56, 57, 58, 59, 60, 61, 62, 63, 64, 65, 66, 67, 68, 69, 70, 135, 136, 137, 138, 139, 140, 141, 142] (by decide +kernel) (by decide +kernel)
set_option maxRecDepth 20000 in
theorem gX4_readStatement_X4_nextIsWord : GoodIn wsX4_readStatement (wsV RX4 69 RX4 yX4_nextIsWord wsX4_nextIsWord) := goodIn_app (goodIn_of _ (by decide +kernel)) ggX4_readStatement_X4_nextIsWord
set_option maxRecDepth 20000 in
theorem ggX4_readStatement_X4_readLot : GoodIn wsX4_readStatement wsX4_readLot := goodIn_r _ [74, 75, 8, 76, 77, 78, 79, 80, 81, 6, 82, 83, 84, 85, 86, 87, 88, 89, 90, 91, 92, 93, 94, 95, 96, 97, 13, 98, 9, 10, 11, 12, 14, 15, 16, 17, 18, 99, 100, 101, 3, 4, 5, 7, 19, 20, 21, 22, 23, 24, 25, 26, 27, 28, 29, 30, 31, 32, 33, 34, 35, 36, 37, 38, 39, 40, 41, 42, 43, 44, 45, 46, 47, 48, 49, 50, 51, 52, 53, 54, 55, 56, 57, 58, 59, 60, 61, 62, 63, 64, 65, 66, 67, 68, 69, 70, 102, 103, 104, 105, 106, 107, 108, 109, 110, 111, 112, 113, 114, 115, 116, 117, 118, 119, 120, 121, 122, 123, 124, 143, 144, 145, 146, 147, 148, 149, 150, 151, 152, 153, 135, 136, 137, 138, 139, 140, 141, 142] (by decide +kernel) (by decide +kernel)
set_option maxRecDepth 20000 in
theorem gX4_readStatement_X4_readLot : GoodIn wsX4_readStatement (wsV RX4 84 RX4 yX4_readLot wsX4_readLot) := goodIn_app (goodIn_of _ (by decide +kernel)) ggX4_readStatement_X4_readLot
set_option maxRecDepth 20000 in
theorem ggX4_readStatement_X4_readCosts : GoodIn wsX4_readStatement wsX4_readCosts := goodIn_r _ [128, 1, 8, 129, 94, 95, 96, 6, 97, 13, 98, 91, 92, 93, 9, 10, 11, 12, 14, 15, 16, 17, 18, 99, 100, 101, 79, 80, 81, 82, 76, 83, 135, 136, 137, 138, 139, 140, 141, 142, 143, 144, 145, 146, 147, 148, 149, 150, 151, 152, 153] (by decide +kernel) (by decide +kernel)
set_option maxRecDepth 20000 in
theorem gX4_readStatement_X4_readCosts : GoodIn wsX4_readStatement (wsV RX4 89 RX4 yX4_readCosts wsX4_readCosts) := goodIn_app (goodIn_of _ (by decide +kernel)) ggX4_readStatement_X4_readCosts
set_option maxRecDepth 20000 in
theorem ggX4_readStatement_X4_readSlip : GoodIn wsX4_readStatement wsX4_readSlip := goodIn_r _ [133, 2, 8, 134, 94, 95, 96, 6, 97, 13, 98, 91, 92, 93, 9, 10, 11, 12, 14, 15, 16, 17, 18, 99, 100, 101, 79, 80, 81, 82, 76, 83, 135, 136, 137, 138, 139, 140, 141, 142, 143, 144, 145, 146, 147, 148, 149, 150, 151, 152, 153] (by decide +kernel) (by decide +kernel)
set_option maxRecDepth 20000 in
theorem gX4_readStatement_X4_readSlip : GoodIn wsX4_readStatement (wsV RX4 94 RX4 yX4_readSlip wsX4_readSlip) := goodIn_app (goodIn_of _ (by decide +kernel)) ggX4_readStatement_X4_readSlip
set_option maxRecDepth 20000 in
theorem ggX4_readStatement_X4_fail : GoodIn wsX4_readStatement wsX4_fail := goodIn_r _ [82, 76, 8, 83, 135, 136, 137, 138, 139, 140, 141, 142] (by decide +kernel) (by decide +kernel)
set_option maxRecDepth 20000 in
theorem gX4_readStatement_X4_fail : GoodIn wsX4_readStatement (wsV RX4 73 RX4 yX4_fail wsX4_fail) := goodIn_app (goodIn_of _ (by decide +kernel)) ggX4_readStatement_X4_fail
theorem dX4_readStatement_0 : decode cX4_readStatement 0 = .ok (.aload_n 0, 1) := by decide +kernel
theorem dX4_readStatement_1 : decode cX4_readStatement 1 = .ok (.ldc 82, 2) := by decide +kernel
theorem dX4_readStatement_3 : decode cX4_readStatement 3 = .ok (.invokevirtual 69, 3) := by decide +kernel
theorem dX4_readStatement_6 : decode cX4_readStatement 6 = .ok (.ifCond .eq 11, 3) := by decide +kernel
theorem dX4_readStatement_9 : decode cX4_readStatement 9 = .ok (.aload_n 0, 1) := by decide +kernel
theorem dX4_readStatement_10 : decode cX4_readStatement 10 = .ok (.aload_n 1, 1) := by decide +kernel
theorem dX4_readStatement_11 : decode cX4_readStatement 11 = .ok (.invokevirtual 84, 3) := by decide +kernel
theorem dX4_readStatement_14 : decode cX4_readStatement 14 = .ok (.goto 57, 3) := by decide +kernel
theorem dX4_readStatement_17 : decode cX4_readStatement 17 = .ok (.aload_n 0, 1) := by decide +kernel
theorem dX4_readStatement_18 : decode cX4_readStatement 18 = .ok (.ldc 87, 2) := by decide +kernel
theorem dX4_readStatement_20 : decode cX4_readStatement 20 = .ok (.invokevirtual 69, 3) := by decide +kernel
theorem dX4_readStatement_23 : decode cX4_readStatement 23 = .ok (.ifCond .eq 18, 3) := by decide +kernel
theorem dX4_readStatement_26 : decode cX4_readStatement 26 = .ok (.aload_n 0, 1) := by decide +kernel
theorem dX4_readStatement_27 : decode cX4_readStatement 27 = .ok (.getfield 60, 3) := by decide +kernel
theorem dX4_readStatement_30 : decode cX4_readStatement 30 = .ok (.ifCond .ne 11, 3) := by decide +kernel
theorem dX4_readStatement_33 : decode cX4_readStatement 33 = .ok (.aload_n 0, 1) := by decide +kernel
theorem dX4_readStatement_34 : decode cX4_readStatement 34 = .ok (.aload_n 1, 1) := by decide +kernel
theorem dX4_readStatement_35 : decode cX4_readStatement 35 = .ok (.invokevirtual 89, 3) := by decide +kernel
theorem dX4_readStatement_38 : decode cX4_readStatement 38 = .ok (.goto 33, 3) := by decide +kernel
theorem dX4_readStatement_41 : decode cX4_readStatement 41 = .ok (.aload_n 0, 1) := by decide +kernel
theorem dX4_readStatement_42 : decode cX4_readStatement 42 = .ok (.ldc 92, 2) := by decide +kernel
theorem dX4_readStatement_44 : decode cX4_readStatement 44 = .ok (.invokevirtual 69, 3) := by decide +kernel
theorem dX4_readStatement_47 : decode cX4_readStatement 47 = .ok (.ifCond .eq 18, 3) := by decide +kernel
theorem dX4_readStatement_50 : decode cX4_readStatement 50 = .ok (.aload_n 0, 1) := by decide +kernel
theorem dX4_readStatement_51 : decode cX4_readStatement 51 = .ok (.getfield 64, 3) := by decide +kernel
theorem dX4_readStatement_54 : decode cX4_readStatement 54 = .ok (.ifCond .ne 11, 3) := by decide +kernel
theorem dX4_readStatement_57 : decode cX4_readStatement 57 = .ok (.aload_n 0, 1) := by decide +kernel
theorem dX4_readStatement_58 : decode cX4_readStatement 58 = .ok (.aload_n 1, 1) := by decide +kernel
theorem dX4_readStatement_59 : decode cX4_readStatement 59 = .ok (.invokevirtual 94, 3) := by decide +kernel
theorem dX4_readStatement_62 : decode cX4_readStatement 62 = .ok (.goto 9, 3) := by decide +kernel
theorem dX4_readStatement_65 : decode cX4_readStatement 65 = .ok (.aload_n 0, 1) := by decide +kernel
theorem dX4_readStatement_66 : decode cX4_readStatement 66 = .ok (.bipush (-2), 2) := by decide +kernel
theorem dX4_readStatement_68 : decode cX4_readStatement 68 = .ok (.invokevirtual 73, 3) := by decide +kernel
theorem dX4_readStatement_71 : decode cX4_readStatement 71 = .ok (.return_, 1) := by decide +kernel
set_option maxRecDepth 20000 in
theorem ggX4_readLot_X4_fail : GoodIn wsX4_readLot wsX4_fail := goodIn_r _ [10, 3, 2, 11, 130, 131, 132, 133, 134, 135, 136, 137] (by decide +kernel) (by decide +kernel)
set_option maxRecDepth 20000 in
theorem gX4_readLot_X4_fail : GoodIn wsX4_readLot (wsV RX4 73 RX4 yX4_fail wsX4_fail) := goodIn_app (goodIn_of _ (by decide +kernel)) ggX4_readLot_X4_fail
set_option maxRecDepth 20000 in
theorem ggX4_readLot_X0_mostLines : GoodIn wsX4_readLot wsX0_mostLines := goodIn_r _ [16, 17, 18, 19, 20, 21, 119, 120, 121, 122, 123, 124, 125, 126, 127, 128, 129] (by decide +kernel) (by decide +kernel)
set_option maxRecDepth 20000 in
theorem gX4_readLot_X0_mostLines : GoodIn wsX4_readLot (wsV RX4 100 RX0 yX0_mostLines wsX0_mostLines) := goodIn_app (goodIn_of _ (by decide +kernel)) ggX4_readLot_X0_mostLines
set_option maxRecDepth 20000 in
theorem ggX4_readLot_X4_takeNumber : GoodIn wsX4_readLot wsX4_takeNumber := goodIn_r _ [25, 2, 26, 27, 19, 20, 21, 28, 29, 30, 9, 31, 32, 33, 34, 35, 36, 37, 38, 39, 6, 7, 8, 10, 3, 11, 130, 131, 132, 133, 134, 135, 136, 137] (by decide +kernel) (by decide +kernel)
set_option maxRecDepth 20000 in
theorem gX4_readLot_X4_takeNumber : GoodIn wsX4_readLot (wsV RX4 76 RX4 yX4_takeNumber wsX4_takeNumber) := goodIn_app (goodIn_of _ (by decide +kernel)) ggX4_readLot_X4_takeNumber
set_option maxRecDepth 20000 in
theorem ggX4_readLot_X4_nextIsWord : GoodIn wsX4_readLot wsX4_nextIsWord := goodIn_r _ [43, 2, 28, 29, 30, 9, 31, 26, 32, 33, 34, 35, 36, 44, 45, 46, 47, 48, 49, 50, 51, 52, 53, 54, 55, 56, 57, 58, 59, 60, 61, 62, 63, 64, 65, 66, 67, 68, 69, 70, 71, 72, 73, 74, 75, 76, 77, 78, 79, 80, 81, 82, 83, 84, 85, 86, 87, 88, 89, 90, 91, 92, 93, 94, 95, 130, 131, 132, 133, 134, 135, 136, 137] (by decide +kernel) (by decide +kernel)
set_option maxRecDepth 20000 in
theorem gX4_readLot_X4_nextIsWord : GoodIn wsX4_readLot (wsV RX4 69 RX4 yX4_nextIsWord wsX4_nextIsWord) := goodIn_app (goodIn_of _ (by decide +kernel)) ggX4_readLot_X4_nextIsWord
set_option maxRecDepth 20000 in
theorem ggX4_readLot_X0_differentLots : GoodIn wsX4_readLot wsX0_differentLots := goodIn_r _ [99, 100, 101, 102, 103, 15, 104, 105, 106, 119, 120, 121, 122, 123, 124, 125, 126, 127, 128, 129] (by decide +kernel) (by decide +kernel)
set_option maxRecDepth 20000 in
theorem gX4_readLot_X0_differentLots : GoodIn wsX4_readLot (wsV RX4 107 RX0 yX0_differentLots wsX0_differentLots) := goodIn_app (goodIn_of _ (by decide +kernel)) ggX4_readLot_X0_differentLots
set_option maxRecDepth 20000 in
theorem ggX4_readLot_X0_insert : GoodIn wsX4_readLot wsX0_insert := goodIn_r _ [110, 100, 111, 112, 113, 105, 106, 114, 115, 116, 117, 15, 118, 119, 120, 121, 122, 123, 124, 125, 126, 127, 128, 129] (by decide +kernel) (by decide +kernel)
set_option maxRecDepth 20000 in
theorem gX4_readLot_X0_insert : GoodIn wsX4_readLot (wsV RX4 110 RX0 yX0_insert wsX0_insert) := goodIn_app (goodIn_of _ (by decide +kernel)) ggX4_readLot_X0_insert
theorem dX4_readLot_0 : decode cX4_readLot 0 = .ok (.aload_n 1, 1) := by decide +kernel
theorem dX4_readLot_1 : decode cX4_readLot 1 = .ok (.getfield 97, 3) := by decide +kernel
theorem dX4_readLot_4 : decode cX4_readLot 4 = .ok (.bipush 24, 2) := by decide +kernel
theorem dX4_readLot_6 : decode cX4_readLot 6 = .ok (.if_icmp .lt 10, 3) := by decide +kernel
theorem dX4_readLot_9 : decode cX4_readLot 9 = .ok (.aload_n 0, 1) := by decide +kernel
theorem dX4_readLot_10 : decode cX4_readLot 10 = .ok (.bipush (-4), 2) := by decide +kernel
theorem dX4_readLot_12 : decode cX4_readLot 12 = .ok (.invokevirtual 73, 3) := by decide +kernel
theorem dX4_readLot_15 : decode cX4_readLot 15 = .ok (.return_, 1) := by decide +kernel
theorem dX4_readLot_16 : decode cX4_readLot 16 = .ok (.aload_n 0, 1) := by decide +kernel
theorem dX4_readLot_17 : decode cX4_readLot 17 = .ok (.dup, 1) := by decide +kernel
theorem dX4_readLot_18 : decode cX4_readLot 18 = .ok (.getfield 57, 3) := by decide +kernel
theorem dX4_readLot_21 : decode cX4_readLot 21 = .ok (.iconst 3, 1) := by decide +kernel
theorem dX4_readLot_22 : decode cX4_readLot 22 = .ok (.iadd, 1) := by decide +kernel
theorem dX4_readLot_23 : decode cX4_readLot 23 = .ok (.putfield 57, 3) := by decide +kernel
theorem dX4_readLot_26 : decode cX4_readLot 26 = .ok (.aload_n 0, 1) := by decide +kernel
theorem dX4_readLot_27 : decode cX4_readLot 27 = .ok (.iconst 1, 1) := by decide +kernel
theorem dX4_readLot_28 : decode cX4_readLot 28 = .ok (.aload_n 1, 1) := by decide +kernel
theorem dX4_readLot_29 : decode cX4_readLot 29 = .ok (.invokevirtual 100, 3) := by decide +kernel
theorem dX4_readLot_32 : decode cX4_readLot 32 = .ok (.invokevirtual 76, 3) := by decide +kernel
theorem dX4_readLot_35 : decode cX4_readLot 35 = .ok (.istore_n 2, 1) := by decide +kernel
theorem dX4_readLot_36 : decode cX4_readLot 36 = .ok (.aload_n 0, 1) := by decide +kernel
theorem dX4_readLot_37 : decode cX4_readLot 37 = .ok (.iconst 0, 1) := by decide +kernel
theorem dX4_readLot_38 : decode cX4_readLot 38 = .ok (.sipush 9999, 3) := by decide +kernel
theorem dX4_readLot_41 : decode cX4_readLot 41 = .ok (.invokevirtual 76, 3) := by decide +kernel
theorem dX4_readLot_44 : decode cX4_readLot 44 = .ok (.istore_n 3, 1) := by decide +kernel
theorem dX4_readLot_45 : decode cX4_readLot 45 = .ok (.aload_n 0, 1) := by decide +kernel
theorem dX4_readLot_46 : decode cX4_readLot 46 = .ok (.iconst 0, 1) := by decide +kernel
theorem dX4_readLot_47 : decode cX4_readLot 47 = .ok (.bipush 9, 2) := by decide +kernel
theorem dX4_readLot_49 : decode cX4_readLot 49 = .ok (.invokevirtual 76, 3) := by decide +kernel
theorem dX4_readLot_52 : decode cX4_readLot 52 = .ok (.istore 4, 2) := by decide +kernel
theorem dX4_readLot_54 : decode cX4_readLot 54 = .ok (.aload_n 0, 1) := by decide +kernel
theorem dX4_readLot_55 : decode cX4_readLot 55 = .ok (.ldc 103, 2) := by decide +kernel
theorem dX4_readLot_57 : decode cX4_readLot 57 = .ok (.invokevirtual 69, 3) := by decide +kernel
theorem dX4_readLot_60 : decode cX4_readLot 60 = .ok (.istore 5, 2) := by decide +kernel
theorem dX4_readLot_62 : decode cX4_readLot 62 = .ok (.aload_n 0, 1) := by decide +kernel
theorem dX4_readLot_63 : decode cX4_readLot 63 = .ok (.ldc 105, 2) := by decide +kernel
theorem dX4_readLot_65 : decode cX4_readLot 65 = .ok (.invokevirtual 69, 3) := by decide +kernel
theorem dX4_readLot_68 : decode cX4_readLot 68 = .ok (.istore 6, 2) := by decide +kernel
theorem dX4_readLot_70 : decode cX4_readLot 70 = .ok (.iload 5, 2) := by decide +kernel
theorem dX4_readLot_72 : decode cX4_readLot 72 = .ok (.ifCond .ne 8, 3) := by decide +kernel
theorem dX4_readLot_75 : decode cX4_readLot 75 = .ok (.iload 6, 2) := by decide +kernel
theorem dX4_readLot_77 : decode cX4_readLot 77 = .ok (.ifCond .eq 18, 3) := by decide +kernel
theorem dX4_readLot_80 : decode cX4_readLot 80 = .ok (.aload_n 1, 1) := by decide +kernel
theorem dX4_readLot_81 : decode cX4_readLot 81 = .ok (.invokevirtual 107, 3) := by decide +kernel
theorem dX4_readLot_84 : decode cX4_readLot 84 = .ok (.bipush 8, 2) := by decide +kernel
theorem dX4_readLot_86 : decode cX4_readLot 86 = .ok (.if_icmp .lt 9, 3) := by decide +kernel
theorem dX4_readLot_89 : decode cX4_readLot 89 = .ok (.aload_n 0, 1) := by decide +kernel
theorem dX4_readLot_90 : decode cX4_readLot 90 = .ok (.bipush (-4), 2) := by decide +kernel
theorem dX4_readLot_92 : decode cX4_readLot 92 = .ok (.invokevirtual 73, 3) := by decide +kernel
theorem dX4_readLot_95 : decode cX4_readLot 95 = .ok (.aload_n 0, 1) := by decide +kernel
theorem dX4_readLot_96 : decode cX4_readLot 96 = .ok (.getfield 35, 3) := by decide +kernel
theorem dX4_readLot_99 : decode cX4_readLot 99 = .ok (.ifCond .eq 4, 3) := by decide +kernel
theorem dX4_readLot_102 : decode cX4_readLot 102 = .ok (.return_, 1) := by decide +kernel
theorem dX4_readLot_103 : decode cX4_readLot 103 = .ok (.aload_n 0, 1) := by decide +kernel
theorem dX4_readLot_104 : decode cX4_readLot 104 = .ok (.dup, 1) := by decide +kernel
theorem dX4_readLot_105 : decode cX4_readLot 105 = .ok (.getfield 57, 3) := by decide +kernel
theorem dX4_readLot_108 : decode cX4_readLot 108 = .ok (.iload 5, 2) := by decide +kernel
theorem dX4_readLot_110 : decode cX4_readLot 110 = .ok (.ifCond .eq 7, 3) := by decide +kernel
theorem dX4_readLot_113 : decode cX4_readLot 113 = .ok (.iconst 3, 1) := by decide +kernel
theorem dX4_readLot_114 : decode cX4_readLot 114 = .ok (.goto 13, 3) := by decide +kernel
theorem dX4_readLot_117 : decode cX4_readLot 117 = .ok (.iload 6, 2) := by decide +kernel
theorem dX4_readLot_119 : decode cX4_readLot 119 = .ok (.ifCond .eq 7, 3) := by decide +kernel
theorem dX4_readLot_122 : decode cX4_readLot 122 = .ok (.iconst 2, 1) := by decide +kernel
theorem dX4_readLot_123 : decode cX4_readLot 123 = .ok (.goto 4, 3) := by decide +kernel
theorem dX4_readLot_126 : decode cX4_readLot 126 = .ok (.iconst 0, 1) := by decide +kernel
theorem dX4_readLot_127 : decode cX4_readLot 127 = .ok (.iadd, 1) := by decide +kernel
theorem dX4_readLot_128 : decode cX4_readLot 128 = .ok (.putfield 57, 3) := by decide +kernel
theorem dX4_readLot_131 : decode cX4_readLot 131 = .ok (.aload_n 1, 1) := by decide +kernel
theorem dX4_readLot_132 : decode cX4_readLot 132 = .ok (.getfield 97, 3) := by decide +kernel
theorem dX4_readLot_135 : decode cX4_readLot 135 = .ok (.istore 7, 2) := by decide +kernel
theorem dX4_readLot_137 : decode cX4_readLot 137 = .ok (.aload_n 1, 1) := by decide +kernel
theorem dX4_readLot_138 : decode cX4_readLot 138 = .ok (.iload 7, 2) := by decide +kernel
theorem dX4_readLot_140 : decode cX4_readLot 140 = .ok (.iload_n 2, 1) := by decide +kernel
theorem dX4_readLot_141 : decode cX4_readLot 141 = .ok (.iload_n 3, 1) := by decide +kernel
theorem dX4_readLot_142 : decode cX4_readLot 142 = .ok (.iload 4, 2) := by decide +kernel
theorem dX4_readLot_144 : decode cX4_readLot 144 = .ok (.invokevirtual 110, 3) := by decide +kernel
theorem dX4_readLot_147 : decode cX4_readLot 147 = .ok (.aload_n 1, 1) := by decide +kernel
theorem dX4_readLot_148 : decode cX4_readLot 148 = .ok (.getfield 114, 3) := by decide +kernel
theorem dX4_readLot_151 : decode cX4_readLot 151 = .ok (.iload 7, 2) := by decide +kernel
theorem dX4_readLot_153 : decode cX4_readLot 153 = .ok (.iload 6, 2) := by decide +kernel
theorem dX4_readLot_155 : decode cX4_readLot 155 = .ok (.ifCond .ne 7, 3) := by decide +kernel
theorem dX4_readLot_158 : decode cX4_readLot 158 = .ok (.iconst 1, 1) := by decide +kernel
theorem dX4_readLot_159 : decode cX4_readLot 159 = .ok (.goto 4, 3) := by decide +kernel
theorem dX4_readLot_162 : decode cX4_readLot 162 = .ok (.iconst 0, 1) := by decide +kernel
theorem dX4_readLot_163 : decode cX4_readLot 163 = .ok (.bastore, 1) := by decide +kernel
theorem dX4_readLot_164 : decode cX4_readLot 164 = .ok (.aload_n 1, 1) := by decide +kernel
theorem dX4_readLot_165 : decode cX4_readLot 165 = .ok (.getfield 118, 3) := by decide +kernel
theorem dX4_readLot_168 : decode cX4_readLot 168 = .ok (.iload 7, 2) := by decide +kernel
theorem dX4_readLot_170 : decode cX4_readLot 170 = .ok (.iload 5, 2) := by decide +kernel
theorem dX4_readLot_172 : decode cX4_readLot 172 = .ok (.ifCond .ne 7, 3) := by decide +kernel
theorem dX4_readLot_175 : decode cX4_readLot 175 = .ok (.iconst 1, 1) := by decide +kernel
theorem dX4_readLot_176 : decode cX4_readLot 176 = .ok (.goto 4, 3) := by decide +kernel
theorem dX4_readLot_179 : decode cX4_readLot 179 = .ok (.iconst 0, 1) := by decide +kernel
theorem dX4_readLot_180 : decode cX4_readLot 180 = .ok (.bastore, 1) := by decide +kernel
theorem dX4_readLot_181 : decode cX4_readLot 181 = .ok (.return_, 1) := by decide +kernel
set_option maxRecDepth 20000 in
theorem ggX4_readCosts_X4_takeNumber : GoodIn wsX4_readCosts wsX4_takeNumber := goodIn_r _ [8, 2, 9, 10, 11, 12, 13, 14, 15, 16, 7, 17, 18, 19, 20, 21, 22, 23, 24, 25, 26, 27, 28, 29, 30, 31, 32, 33, 34, 35, 36, 37, 38, 39] (by decide +kernel) (by decide +kernel)
set_option maxRecDepth 20000 in
theorem gX4_readCosts_X4_takeNumber : GoodIn wsX4_readCosts (wsV RX4 76 RX4 yX4_takeNumber wsX4_takeNumber) := goodIn_app (goodIn_of _ (by decide +kernel)) ggX4_readCosts_X4_takeNumber
theorem dX4_readCosts_0 : decode cX4_readCosts 0 = .ok (.aload_n 0, 1) := by decide +kernel
theorem dX4_readCosts_1 : decode cX4_readCosts 1 = .ok (.iconst 1, 1) := by decide +kernel
theorem dX4_readCosts_2 : decode cX4_readCosts 2 = .ok (.putfield 60, 3) := by decide +kernel
theorem dX4_readCosts_5 : decode cX4_readCosts 5 = .ok (.aload_n 0, 1) := by decide +kernel
theorem dX4_readCosts_6 : decode cX4_readCosts 6 = .ok (.dup, 1) := by decide +kernel
theorem dX4_readCosts_7 : decode cX4_readCosts 7 = .ok (.getfield 57, 3) := by decide +kernel
theorem dX4_readCosts_10 : decode cX4_readCosts 10 = .ok (.iconst 5, 1) := by decide +kernel
theorem dX4_readCosts_11 : decode cX4_readCosts 11 = .ok (.iadd, 1) := by decide +kernel
theorem dX4_readCosts_12 : decode cX4_readCosts 12 = .ok (.putfield 57, 3) := by decide +kernel
theorem dX4_readCosts_15 : decode cX4_readCosts 15 = .ok (.iconst 0, 1) := by decide +kernel
theorem dX4_readCosts_16 : decode cX4_readCosts 16 = .ok (.istore_n 2, 1) := by decide +kernel
theorem dX4_readCosts_17 : decode cX4_readCosts 17 = .ok (.iload_n 2, 1) := by decide +kernel
theorem dX4_readCosts_18 : decode cX4_readCosts 18 = .ok (.iconst 5, 1) := by decide +kernel
theorem dX4_readCosts_19 : decode cX4_readCosts 19 = .ok (.if_icmp .ge 22, 3) := by decide +kernel
theorem dX4_readCosts_22 : decode cX4_readCosts 22 = .ok (.aload_n 1, 1) := by decide +kernel
theorem dX4_readCosts_23 : decode cX4_readCosts 23 = .ok (.getfield 121, 3) := by decide +kernel
theorem dX4_readCosts_26 : decode cX4_readCosts 26 = .ok (.iload_n 2, 1) := by decide +kernel
theorem dX4_readCosts_27 : decode cX4_readCosts 27 = .ok (.aload_n 0, 1) := by decide +kernel
theorem dX4_readCosts_28 : decode cX4_readCosts 28 = .ok (.iconst 0, 1) := by decide +kernel
theorem dX4_readCosts_29 : decode cX4_readCosts 29 = .ok (.bipush 99, 2) := by decide +kernel
theorem dX4_readCosts_31 : decode cX4_readCosts 31 = .ok (.invokevirtual 76, 3) := by decide +kernel
theorem dX4_readCosts_34 : decode cX4_readCosts 34 = .ok (.iastore, 1) := by decide +kernel
theorem dX4_readCosts_35 : decode cX4_readCosts 35 = .ok (.iinc 2 1, 3) := by decide +kernel
theorem dX4_readCosts_38 : decode cX4_readCosts 38 = .ok (.goto (-21), 3) := by decide +kernel
theorem dX4_readCosts_41 : decode cX4_readCosts 41 = .ok (.return_, 1) := by decide +kernel
set_option maxRecDepth 20000 in
theorem ggX4_readSlip_X4_takeNumber : GoodIn wsX4_readSlip wsX4_takeNumber := goodIn_r _ [8, 2, 9, 10, 11, 12, 13, 14, 15, 16, 7, 17, 18, 19, 20, 21, 22, 23, 24, 25, 26, 27, 28, 29, 30, 31, 32, 33, 34, 35, 36, 37, 38, 39] (by decide +kernel) (by decide +kernel)
set_option maxRecDepth 20000 in
theorem gX4_readSlip_X4_takeNumber : GoodIn wsX4_readSlip (wsV RX4 76 RX4 yX4_takeNumber wsX4_takeNumber) := goodIn_app (goodIn_of _ (by decide +kernel)) ggX4_readSlip_X4_takeNumber
theorem dX4_readSlip_0 : decode cX4_readSlip 0 = .ok (.aload_n 0, 1) := by decide +kernel
theorem dX4_readSlip_1 : decode cX4_readSlip 1 = .ok (.iconst 1, 1) := by decide +kernel
theorem dX4_readSlip_2 : decode cX4_readSlip 2 = .ok (.putfield 64, 3) := by decide +kernel
theorem dX4_readSlip_5 : decode cX4_readSlip 5 = .ok (.aload_n 0, 1) := by decide +kernel
theorem dX4_readSlip_6 : decode cX4_readSlip 6 = .ok (.dup, 1) := by decide +kernel
theorem dX4_readSlip_7 : decode cX4_readSlip 7 = .ok (.getfield 57, 3) := by decide +kernel
theorem dX4_readSlip_10 : decode cX4_readSlip 10 = .ok (.iconst 4, 1) := by decide +kernel
theorem dX4_readSlip_11 : decode cX4_readSlip 11 = .ok (.iadd, 1) := by decide +kernel
theorem dX4_readSlip_12 : decode cX4_readSlip 12 = .ok (.putfield 57, 3) := by decide +kernel
theorem dX4_readSlip_15 : decode cX4_readSlip 15 = .ok (.aload_n 1, 1) := by decide +kernel
theorem dX4_readSlip_16 : decode cX4_readSlip 16 = .ok (.aload_n 0, 1) := by decide +kernel
theorem dX4_readSlip_17 : decode cX4_readSlip 17 = .ok (.iconst 1, 1) := by decide +kernel
theorem dX4_readSlip_18 : decode cX4_readSlip 18 = .ok (.bipush 9, 2) := by decide +kernel
theorem dX4_readSlip_20 : decode cX4_readSlip 20 = .ok (.invokevirtual 76, 3) := by decide +kernel
theorem dX4_readSlip_23 : decode cX4_readSlip 23 = .ok (.putfield 124, 3) := by decide +kernel
theorem dX4_readSlip_26 : decode cX4_readSlip 26 = .ok (.return_, 1) := by decide +kernel
theorem dX4_fail_0 : decode cX4_fail 0 = .ok (.aload_n 0, 1) := by decide +kernel
theorem dX4_fail_1 : decode cX4_fail 1 = .ok (.getfield 35, 3) := by decide +kernel
theorem dX4_fail_4 : decode cX4_fail 4 = .ok (.ifCond .ne 16, 3) := by decide +kernel
theorem dX4_fail_7 : decode cX4_fail 7 = .ok (.aload_n 0, 1) := by decide +kernel
theorem dX4_fail_8 : decode cX4_fail 8 = .ok (.iload_n 1, 1) := by decide +kernel
theorem dX4_fail_9 : decode cX4_fail 9 = .ok (.putfield 35, 3) := by decide +kernel
theorem dX4_fail_12 : decode cX4_fail 12 = .ok (.aload_n 0, 1) := by decide +kernel
theorem dX4_fail_13 : decode cX4_fail 13 = .ok (.aload_n 0, 1) := by decide +kernel
theorem dX4_fail_14 : decode cX4_fail 14 = .ok (.getfield 57, 3) := by decide +kernel
theorem dX4_fail_17 : decode cX4_fail 17 = .ok (.putfield 9, 3) := by decide +kernel
theorem dX4_fail_20 : decode cX4_fail 20 = .ok (.return_, 1) := by decide +kernel
set_option maxRecDepth 20000 in
theorem ggX4_takeSemicolon_X4_next : GoodIn wsX4_takeSemicolon wsX4_next := goodIn_r _ [6, 1, 7, 8, 9, 10, 5, 11, 12, 19, 20, 21, 22, 23, 24, 25, 26] (by decide +kernel) (by decide +kernel)
set_option maxRecDepth 20000 in
theorem gX4_takeSemicolon_X4_next : GoodIn wsX4_takeSemicolon (wsV RX4 38 RX4 yX4_next wsX4_next) := goodIn_app (goodIn_of _ (by decide +kernel)) ggX4_takeSemicolon_X4_next
set_option maxRecDepth 20000 in
theorem ggX4_takeSemicolon_X4_fail : GoodIn wsX4_takeSemicolon wsX4_fail := goodIn_r _ [16, 17, 1, 18, 19, 20, 21, 22, 23, 24, 25, 26] (by decide +kernel) (by decide +kernel)
set_option maxRecDepth 20000 in
theorem gX4_takeSemicolon_X4_fail : GoodIn wsX4_takeSemicolon (wsV RX4 73 RX4 yX4_fail wsX4_fail) := goodIn_app (goodIn_of _ (by decide +kernel)) ggX4_takeSemicolon_X4_fail
theorem dX4_takeSemicolon_0 : decode cX4_takeSemicolon 0 = .ok (.aload_n 0, 1) := by decide +kernel
theorem dX4_takeSemicolon_1 : decode cX4_takeSemicolon 1 = .ok (.invokevirtual 38, 3) := by decide +kernel
theorem dX4_takeSemicolon_4 : decode cX4_takeSemicolon 4 = .ok (.bipush 59, 2) := by decide +kernel
theorem dX4_takeSemicolon_6 : decode cX4_takeSemicolon 6 = .ok (.if_icmp .eq 9, 3) := by decide +kernel
theorem dX4_takeSemicolon_9 : decode cX4_takeSemicolon 9 = .ok (.aload_n 0, 1) := by decide +kernel
theorem dX4_takeSemicolon_10 : decode cX4_takeSemicolon 10 = .ok (.bipush (-2), 2) := by decide +kernel
theorem dX4_takeSemicolon_12 : decode cX4_takeSemicolon 12 = .ok (.invokevirtual 73, 3) := by decide +kernel
theorem dX4_takeSemicolon_15 : decode cX4_takeSemicolon 15 = .ok (.aload_n 0, 1) := by decide +kernel
theorem dX4_takeSemicolon_16 : decode cX4_takeSemicolon 16 = .ok (.dup, 1) := by decide +kernel
theorem dX4_takeSemicolon_17 : decode cX4_takeSemicolon 17 = .ok (.getfield 57, 3) := by decide +kernel
theorem dX4_takeSemicolon_20 : decode cX4_takeSemicolon 20 = .ok (.iconst 1, 1) := by decide +kernel
theorem dX4_takeSemicolon_21 : decode cX4_takeSemicolon 21 = .ok (.iadd, 1) := by decide +kernel
theorem dX4_takeSemicolon_22 : decode cX4_takeSemicolon 22 = .ok (.putfield 57, 3) := by decide +kernel
theorem dX4_takeSemicolon_25 : decode cX4_takeSemicolon 25 = .ok (.return_, 1) := by decide +kernel
set_option maxRecDepth 20000 in
theorem ggX4_takeNumber_X4_next : GoodIn wsX4_takeNumber wsX4_next := goodIn_r _ [11, 1, 2, 12, 13, 14, 10, 15, 16, 26, 27, 28, 29, 30, 31, 32, 33] (by decide +kernel) (by decide +kernel)
set_option maxRecDepth 20000 in
theorem gX4_takeNumber_X4_next : GoodIn wsX4_takeNumber (wsV RX4 38 RX4 yX4_next wsX4_next) := goodIn_app (goodIn_of _ (by decide +kernel)) ggX4_takeNumber_X4_next
set_option maxRecDepth 20000 in
theorem ggX4_takeNumber_X4_isDigit : GoodIn wsX4_takeNumber wsX4_isDigit := goodIn_r _ [19] (by decide +kernel) (by decide +kernel)
set_option maxRecDepth 20000 in
theorem gX4_takeNumber_X4_isDigit : GoodIn wsX4_takeNumber (va_wsS RX4 127 yX4_isDigit wsX4_isDigit) := goodIn_app (goodIn_of _ (by decide +kernel)) ggX4_takeNumber_X4_isDigit
set_option maxRecDepth 20000 in
theorem ggX4_takeNumber_X4_fail : GoodIn wsX4_takeNumber wsX4_fail := goodIn_r _ [23, 24, 1, 25, 26, 27, 28, 29, 30, 31, 32, 33] (by decide +kernel) (by decide +kernel)
set_option maxRecDepth 20000 in
theorem gX4_takeNumber_X4_fail : GoodIn wsX4_takeNumber (wsV RX4 73 RX4 yX4_fail wsX4_fail) := goodIn_app (goodIn_of _ (by decide +kernel)) ggX4_takeNumber_X4_fail
set_option maxRecDepth 20000 in
theorem ggX4_takeNumber_X4_byteAt : GoodIn wsX4_takeNumber wsX4_byteAt := goodIn_r _ [15, 2, 16, 26, 27, 28, 29, 30, 31, 32, 33] (by decide +kernel) (by decide +kernel)
set_option maxRecDepth 20000 in
theorem gX4_takeNumber_X4_byteAt : GoodIn wsX4_takeNumber (wsV RX4 131 RX4 yX4_byteAt wsX4_byteAt) := goodIn_app (goodIn_of _ (by decide +kernel)) ggX4_takeNumber_X4_byteAt
theorem dX4_takeNumber_0 : decode cX4_takeNumber 0 = .ok (.aload_n 0, 1) := by decide +kernel
theorem dX4_takeNumber_1 : decode cX4_takeNumber 1 = .ok (.invokevirtual 38, 3) := by decide +kernel
theorem dX4_takeNumber_4 : decode cX4_takeNumber 4 = .ok (.invokestatic 127, 3) := by decide +kernel
theorem dX4_takeNumber_7 : decode cX4_takeNumber 7 = .ok (.ifCond .ne 11, 3) := by decide +kernel
theorem dX4_takeNumber_10 : decode cX4_takeNumber 10 = .ok (.aload_n 0, 1) := by decide +kernel
theorem dX4_takeNumber_11 : decode cX4_takeNumber 11 = .ok (.bipush (-2), 2) := by decide +kernel
theorem dX4_takeNumber_13 : decode cX4_takeNumber 13 = .ok (.invokevirtual 73, 3) := by decide +kernel
theorem dX4_takeNumber_16 : decode cX4_takeNumber 16 = .ok (.iload_n 1, 1) := by decide +kernel
theorem dX4_takeNumber_17 : decode cX4_takeNumber 17 = .ok (.ireturn, 1) := by decide +kernel
theorem dX4_takeNumber_18 : decode cX4_takeNumber 18 = .ok (.aload_n 0, 1) := by decide +kernel
theorem dX4_takeNumber_19 : decode cX4_takeNumber 19 = .ok (.getfield 57, 3) := by decide +kernel
theorem dX4_takeNumber_22 : decode cX4_takeNumber 22 = .ok (.istore_n 3, 1) := by decide +kernel
theorem dX4_takeNumber_23 : decode cX4_takeNumber 23 = .ok (.iconst 0, 1) := by decide +kernel
theorem dX4_takeNumber_24 : decode cX4_takeNumber 24 = .ok (.istore 4, 2) := by decide +kernel
theorem dX4_takeNumber_26 : decode cX4_takeNumber 26 = .ok (.iload_n 3, 1) := by decide +kernel
theorem dX4_takeNumber_27 : decode cX4_takeNumber 27 = .ok (.aload_n 0, 1) := by decide +kernel
theorem dX4_takeNumber_28 : decode cX4_takeNumber 28 = .ok (.getfield 54, 3) := by decide +kernel
theorem dX4_takeNumber_31 : decode cX4_takeNumber 31 = .ok (.if_icmp .ge 42, 3) := by decide +kernel
theorem dX4_takeNumber_34 : decode cX4_takeNumber 34 = .ok (.aload_n 0, 1) := by decide +kernel
theorem dX4_takeNumber_35 : decode cX4_takeNumber 35 = .ok (.iload_n 3, 1) := by decide +kernel
theorem dX4_takeNumber_36 : decode cX4_takeNumber 36 = .ok (.invokevirtual 131, 3) := by decide +kernel
theorem dX4_takeNumber_39 : decode cX4_takeNumber 39 = .ok (.invokestatic 127, 3) := by decide +kernel
theorem dX4_takeNumber_42 : decode cX4_takeNumber 42 = .ok (.ifCond .eq 31, 3) := by decide +kernel
theorem dX4_takeNumber_45 : decode cX4_takeNumber 45 = .ok (.bipush 10, 2) := by decide +kernel
theorem dX4_takeNumber_47 : decode cX4_takeNumber 47 = .ok (.iload 4, 2) := by decide +kernel
theorem dX4_takeNumber_49 : decode cX4_takeNumber 49 = .ok (.imul, 1) := by decide +kernel
theorem dX4_takeNumber_50 : decode cX4_takeNumber 50 = .ok (.aload_n 0, 1) := by decide +kernel
theorem dX4_takeNumber_51 : decode cX4_takeNumber 51 = .ok (.iload_n 3, 1) := by decide +kernel
theorem dX4_takeNumber_52 : decode cX4_takeNumber 52 = .ok (.invokevirtual 131, 3) := by decide +kernel
theorem dX4_takeNumber_55 : decode cX4_takeNumber 55 = .ok (.iadd, 1) := by decide +kernel
theorem dX4_takeNumber_56 : decode cX4_takeNumber 56 = .ok (.bipush 48, 2) := by decide +kernel
theorem dX4_takeNumber_58 : decode cX4_takeNumber 58 = .ok (.isub, 1) := by decide +kernel
theorem dX4_takeNumber_59 : decode cX4_takeNumber 59 = .ok (.sipush 10000, 3) := by decide +kernel
theorem dX4_takeNumber_62 : decode cX4_takeNumber 62 = .ok (.invokestatic 48, 3) := by decide +kernel
theorem dX4_takeNumber_65 : decode cX4_takeNumber 65 = .ok (.istore 4, 2) := by decide +kernel
theorem dX4_takeNumber_67 : decode cX4_takeNumber 67 = .ok (.iinc 3 1, 3) := by decide +kernel
theorem dX4_takeNumber_70 : decode cX4_takeNumber 70 = .ok (.goto (-44), 3) := by decide +kernel
theorem dX4_takeNumber_73 : decode cX4_takeNumber 73 = .ok (.iload 4, 2) := by decide +kernel
theorem dX4_takeNumber_75 : decode cX4_takeNumber 75 = .ok (.iload_n 1, 1) := by decide +kernel
theorem dX4_takeNumber_76 : decode cX4_takeNumber 76 = .ok (.if_icmp .lt 9, 3) := by decide +kernel
theorem dX4_takeNumber_79 : decode cX4_takeNumber 79 = .ok (.iload 4, 2) := by decide +kernel
theorem dX4_takeNumber_81 : decode cX4_takeNumber 81 = .ok (.iload_n 2, 1) := by decide +kernel
theorem dX4_takeNumber_82 : decode cX4_takeNumber 82 = .ok (.if_icmp .le 9, 3) := by decide +kernel
theorem dX4_takeNumber_85 : decode cX4_takeNumber 85 = .ok (.aload_n 0, 1) := by decide +kernel
theorem dX4_takeNumber_86 : decode cX4_takeNumber 86 = .ok (.bipush (-3), 2) := by decide +kernel
theorem dX4_takeNumber_88 : decode cX4_takeNumber 88 = .ok (.invokevirtual 73, 3) := by decide +kernel
theorem dX4_takeNumber_91 : decode cX4_takeNumber 91 = .ok (.aload_n 0, 1) := by decide +kernel
theorem dX4_takeNumber_92 : decode cX4_takeNumber 92 = .ok (.iload_n 3, 1) := by decide +kernel
theorem dX4_takeNumber_93 : decode cX4_takeNumber 93 = .ok (.putfield 57, 3) := by decide +kernel
theorem dX4_takeNumber_96 : decode cX4_takeNumber 96 = .ok (.iload 4, 2) := by decide +kernel
theorem dX4_takeNumber_98 : decode cX4_takeNumber 98 = .ok (.ireturn, 1) := by decide +kernel
set_option maxRecDepth 20000 in
theorem ggX4_nextIsWord_X4_next : GoodIn wsX4_nextIsWord wsX4_next := goodIn_r _ [6, 1, 7, 8, 9, 10, 5, 11, 12, 65, 66, 67, 68, 69, 70, 71, 72] (by decide +kernel) (by decide +kernel)
set_option maxRecDepth 20000 in
theorem gX4_nextIsWord_X4_next : GoodIn wsX4_nextIsWord (wsV RX4 38 RX4 yX4_next wsX4_next) := goodIn_app (goodIn_of _ (by decide +kernel)) ggX4_nextIsWord_X4_next
set_option maxRecDepth 20000 in
theorem ggX4_nextIsWord_J0_length_8abf5 : GoodIn wsX4_nextIsWord wsJ0_length_8abf5 := goodIn_r _ [17, 18, 19, 20, 21, 16, 22, 23, 24] (by decide +kernel) (by decide +kernel)
set_option maxRecDepth 20000 in
theorem gX4_nextIsWord_J0_length_8abf5 : GoodIn wsX4_nextIsWord (wsV RX4 135 RJ0 yJ0_length_8abf5 wsJ0_length_8abf5) := goodIn_app (goodIn_of _ (by decide +kernel)) ggX4_nextIsWord_J0_length_8abf5
set_option maxRecDepth 20000 in
theorem ggX4_nextIsWord_X4_byteAt : GoodIn wsX4_nextIsWord wsX4_byteAt := goodIn_r _ [11, 7, 12, 65, 66, 67, 68, 69, 70, 71, 72] (by decide +kernel) (by decide +kernel)
set_option maxRecDepth 20000 in
theorem gX4_nextIsWord_X4_byteAt : GoodIn wsX4_nextIsWord (wsV RX4 131 RX4 yX4_byteAt wsX4_byteAt) := goodIn_app (goodIn_of _ (by decide +kernel)) ggX4_nextIsWord_X4_byteAt
set_option maxRecDepth 20000 in
theorem ggX4_nextIsWord_J0_charAt_5068e : GoodIn wsX4_nextIsWord wsJ0_charAt_5068e := goodIn_r _ [28, 18, 29, 30, 31, 16, 32, 23, 24, 33, 34, 35, 36, 37, 38, 39, 40, 41, 42, 43, 44, 45, 46, 47, 48, 49, 50, 51, 52, 53, 54, 55, 56, 57, 58, 59, 60, 61] (by decide +kernel) (by decide +kernel)
set_option maxRecDepth 20000 in
theorem gX4_nextIsWord_J0_charAt_5068e : GoodIn wsX4_nextIsWord (wsV RX4 139 RJ0 yJ0_charAt_5068e wsJ0_charAt_5068e) := goodIn_app (goodIn_of _ (by decide +kernel)) ggX4_nextIsWord_J0_charAt_5068e
set_option maxRecDepth 20000 in
theorem ggX4_nextIsWord_X4_isLetter : GoodIn wsX4_nextIsWord wsX4_isLetter := goodIn_r _ [64] (by decide +kernel) (by decide +kernel)
set_option maxRecDepth 20000 in
theorem gX4_nextIsWord_X4_isLetter : GoodIn wsX4_nextIsWord (va_wsS RX4 143 yX4_isLetter wsX4_isLetter) := goodIn_app (goodIn_of _ (by decide +kernel)) ggX4_nextIsWord_X4_isLetter
theorem dX4_nextIsWord_0 : decode cX4_nextIsWord 0 = .ok (.aload_n 0, 1) := by decide +kernel
theorem dX4_nextIsWord_1 : decode cX4_nextIsWord 1 = .ok (.invokevirtual 38, 3) := by decide +kernel
theorem dX4_nextIsWord_4 : decode cX4_nextIsWord 4 = .ok (.pop, 1) := by decide +kernel
theorem dX4_nextIsWord_5 : decode cX4_nextIsWord 5 = .ok (.iconst 0, 1) := by decide +kernel
theorem dX4_nextIsWord_6 : decode cX4_nextIsWord 6 = .ok (.istore_n 2, 1) := by decide +kernel
theorem dX4_nextIsWord_7 : decode cX4_nextIsWord 7 = .ok (.iload_n 2, 1) := by decide +kernel
theorem dX4_nextIsWord_8 : decode cX4_nextIsWord 8 = .ok (.aload_n 1, 1) := by decide +kernel
theorem dX4_nextIsWord_9 : decode cX4_nextIsWord 9 = .ok (.invokevirtual 135, 3) := by decide +kernel
theorem dX4_nextIsWord_12 : decode cX4_nextIsWord 12 = .ok (.if_icmp .ge 29, 3) := by decide +kernel
theorem dX4_nextIsWord_15 : decode cX4_nextIsWord 15 = .ok (.aload_n 0, 1) := by decide +kernel
theorem dX4_nextIsWord_16 : decode cX4_nextIsWord 16 = .ok (.aload_n 0, 1) := by decide +kernel
theorem dX4_nextIsWord_17 : decode cX4_nextIsWord 17 = .ok (.getfield 57, 3) := by decide +kernel
theorem dX4_nextIsWord_20 : decode cX4_nextIsWord 20 = .ok (.iload_n 2, 1) := by decide +kernel
theorem dX4_nextIsWord_21 : decode cX4_nextIsWord 21 = .ok (.iadd, 1) := by decide +kernel
theorem dX4_nextIsWord_22 : decode cX4_nextIsWord 22 = .ok (.invokevirtual 131, 3) := by decide +kernel
theorem dX4_nextIsWord_25 : decode cX4_nextIsWord 25 = .ok (.aload_n 1, 1) := by decide +kernel
theorem dX4_nextIsWord_26 : decode cX4_nextIsWord 26 = .ok (.iload_n 2, 1) := by decide +kernel
theorem dX4_nextIsWord_27 : decode cX4_nextIsWord 27 = .ok (.invokevirtual 139, 3) := by decide +kernel
theorem dX4_nextIsWord_30 : decode cX4_nextIsWord 30 = .ok (.if_icmp .eq 5, 3) := by decide +kernel
theorem dX4_nextIsWord_33 : decode cX4_nextIsWord 33 = .ok (.iconst 0, 1) := by decide +kernel
theorem dX4_nextIsWord_34 : decode cX4_nextIsWord 34 = .ok (.ireturn, 1) := by decide +kernel
theorem dX4_nextIsWord_35 : decode cX4_nextIsWord 35 = .ok (.iinc 2 1, 3) := by decide +kernel
theorem dX4_nextIsWord_38 : decode cX4_nextIsWord 38 = .ok (.goto (-31), 3) := by decide +kernel
theorem dX4_nextIsWord_41 : decode cX4_nextIsWord 41 = .ok (.aload_n 0, 1) := by decide +kernel
theorem dX4_nextIsWord_42 : decode cX4_nextIsWord 42 = .ok (.aload_n 0, 1) := by decide +kernel
theorem dX4_nextIsWord_43 : decode cX4_nextIsWord 43 = .ok (.getfield 57, 3) := by decide +kernel
theorem dX4_nextIsWord_46 : decode cX4_nextIsWord 46 = .ok (.aload_n 1, 1) := by decide +kernel
theorem dX4_nextIsWord_47 : decode cX4_nextIsWord 47 = .ok (.invokevirtual 135, 3) := by decide +kernel
theorem dX4_nextIsWord_50 : decode cX4_nextIsWord 50 = .ok (.iadd, 1) := by decide +kernel
theorem dX4_nextIsWord_51 : decode cX4_nextIsWord 51 = .ok (.invokevirtual 131, 3) := by decide +kernel
theorem dX4_nextIsWord_54 : decode cX4_nextIsWord 54 = .ok (.invokestatic 143, 3) := by decide +kernel
theorem dX4_nextIsWord_57 : decode cX4_nextIsWord 57 = .ok (.ifCond .ne 7, 3) := by decide +kernel
theorem dX4_nextIsWord_60 : decode cX4_nextIsWord 60 = .ok (.iconst 1, 1) := by decide +kernel
theorem dX4_nextIsWord_61 : decode cX4_nextIsWord 61 = .ok (.goto 4, 3) := by decide +kernel
theorem dX4_nextIsWord_64 : decode cX4_nextIsWord 64 = .ok (.iconst 0, 1) := by decide +kernel
theorem dX4_nextIsWord_65 : decode cX4_nextIsWord 65 = .ok (.ireturn, 1) := by decide +kernel
set_option maxRecDepth 20000 in
theorem ggX4_next_X4_byteAt : GoodIn wsX4_next wsX4_byteAt := goodIn_r _ [7, 2, 8, 9, 10, 11, 12, 13, 14, 15, 16] (by decide +kernel) (by decide +kernel)
set_option maxRecDepth 20000 in
theorem gX4_next_X4_byteAt : GoodIn wsX4_next (wsV RX4 131 RX4 yX4_byteAt wsX4_byteAt) := goodIn_app (goodIn_of _ (by decide +kernel)) ggX4_next_X4_byteAt
theorem dX4_next_0 : decode cX4_next 0 = .ok (.aload_n 0, 1) := by decide +kernel
theorem dX4_next_1 : decode cX4_next 1 = .ok (.getfield 57, 3) := by decide +kernel
theorem dX4_next_4 : decode cX4_next 4 = .ok (.aload_n 0, 1) := by decide +kernel
theorem dX4_next_5 : decode cX4_next 5 = .ok (.getfield 54, 3) := by decide +kernel
theorem dX4_next_8 : decode cX4_next 8 = .ok (.if_icmp .ge 29, 3) := by decide +kernel
theorem dX4_next_11 : decode cX4_next 11 = .ok (.aload_n 0, 1) := by decide +kernel
theorem dX4_next_12 : decode cX4_next 12 = .ok (.aload_n 0, 1) := by decide +kernel
theorem dX4_next_13 : decode cX4_next 13 = .ok (.getfield 57, 3) := by decide +kernel
theorem dX4_next_16 : decode cX4_next 16 = .ok (.invokevirtual 131, 3) := by decide +kernel
theorem dX4_next_19 : decode cX4_next 19 = .ok (.bipush 32, 2) := by decide +kernel
theorem dX4_next_21 : decode cX4_next 21 = .ok (.if_icmp .ne 16, 3) := by decide +kernel
theorem dX4_next_24 : decode cX4_next 24 = .ok (.aload_n 0, 1) := by decide +kernel
theorem dX4_next_25 : decode cX4_next 25 = .ok (.dup, 1) := by decide +kernel
theorem dX4_next_26 : decode cX4_next 26 = .ok (.getfield 57, 3) := by decide +kernel
theorem dX4_next_29 : decode cX4_next 29 = .ok (.iconst 1, 1) := by decide +kernel
theorem dX4_next_30 : decode cX4_next 30 = .ok (.iadd, 1) := by decide +kernel
theorem dX4_next_31 : decode cX4_next 31 = .ok (.putfield 57, 3) := by decide +kernel
theorem dX4_next_34 : decode cX4_next 34 = .ok (.goto (-34), 3) := by decide +kernel
theorem dX4_next_37 : decode cX4_next 37 = .ok (.aload_n 0, 1) := by decide +kernel
theorem dX4_next_38 : decode cX4_next 38 = .ok (.aload_n 0, 1) := by decide +kernel
theorem dX4_next_39 : decode cX4_next 39 = .ok (.getfield 57, 3) := by decide +kernel
theorem dX4_next_42 : decode cX4_next 42 = .ok (.invokevirtual 131, 3) := by decide +kernel
theorem dX4_next_45 : decode cX4_next 45 = .ok (.ireturn, 1) := by decide +kernel
theorem dX4_byteAt_0 : decode cX4_byteAt 0 = .ok (.iload_n 1, 1) := by decide +kernel
theorem dX4_byteAt_1 : decode cX4_byteAt 1 = .ok (.ifCond .lt 31, 3) := by decide +kernel
theorem dX4_byteAt_4 : decode cX4_byteAt 4 = .ok (.iload_n 1, 1) := by decide +kernel
theorem dX4_byteAt_5 : decode cX4_byteAt 5 = .ok (.aload_n 0, 1) := by decide +kernel
theorem dX4_byteAt_6 : decode cX4_byteAt 6 = .ok (.getfield 54, 3) := by decide +kernel
theorem dX4_byteAt_9 : decode cX4_byteAt 9 = .ok (.if_icmp .ge 23, 3) := by decide +kernel
theorem dX4_byteAt_12 : decode cX4_byteAt 12 = .ok (.iload_n 1, 1) := by decide +kernel
theorem dX4_byteAt_13 : decode cX4_byteAt 13 = .ok (.sipush 500, 3) := by decide +kernel
theorem dX4_byteAt_16 : decode cX4_byteAt 16 = .ok (.if_icmp .ge 16, 3) := by decide +kernel
theorem dX4_byteAt_19 : decode cX4_byteAt 19 = .ok (.aload_n 0, 1) := by decide +kernel
theorem dX4_byteAt_20 : decode cX4_byteAt 20 = .ok (.getfield 15, 3) := by decide +kernel
theorem dX4_byteAt_23 : decode cX4_byteAt 23 = .ok (.iload_n 1, 1) := by decide +kernel
theorem dX4_byteAt_24 : decode cX4_byteAt 24 = .ok (.baload, 1) := by decide +kernel
theorem dX4_byteAt_25 : decode cX4_byteAt 25 = .ok (.sipush 255, 3) := by decide +kernel
theorem dX4_byteAt_28 : decode cX4_byteAt 28 = .ok (.iand, 1) := by decide +kernel
theorem dX4_byteAt_29 : decode cX4_byteAt 29 = .ok (.goto 4, 3) := by decide +kernel
theorem dX4_byteAt_32 : decode cX4_byteAt 32 = .ok (.iconst (-1), 1) := by decide +kernel
theorem dX4_byteAt_33 : decode cX4_byteAt 33 = .ok (.ireturn, 1) := by decide +kernel
theorem dX4_isDigit_0 : decode cX4_isDigit 0 = .ok (.iload_n 0, 1) := by decide +kernel
theorem dX4_isDigit_1 : decode cX4_isDigit 1 = .ok (.bipush 48, 2) := by decide +kernel
theorem dX4_isDigit_3 : decode cX4_isDigit 3 = .ok (.if_icmp .lt 13, 3) := by decide +kernel
theorem dX4_isDigit_6 : decode cX4_isDigit 6 = .ok (.iload_n 0, 1) := by decide +kernel
theorem dX4_isDigit_7 : decode cX4_isDigit 7 = .ok (.bipush 57, 2) := by decide +kernel
theorem dX4_isDigit_9 : decode cX4_isDigit 9 = .ok (.if_icmp .gt 7, 3) := by decide +kernel
theorem dX4_isDigit_12 : decode cX4_isDigit 12 = .ok (.iconst 1, 1) := by decide +kernel
theorem dX4_isDigit_13 : decode cX4_isDigit 13 = .ok (.goto 4, 3) := by decide +kernel
theorem dX4_isDigit_16 : decode cX4_isDigit 16 = .ok (.iconst 0, 1) := by decide +kernel
theorem dX4_isDigit_17 : decode cX4_isDigit 17 = .ok (.ireturn, 1) := by decide +kernel
theorem dX4_isLetter_0 : decode cX4_isLetter 0 = .ok (.iload_n 0, 1) := by decide +kernel
theorem dX4_isLetter_1 : decode cX4_isLetter 1 = .ok (.bipush 97, 2) := by decide +kernel
theorem dX4_isLetter_3 : decode cX4_isLetter 3 = .ok (.if_icmp .lt 13, 3) := by decide +kernel
theorem dX4_isLetter_6 : decode cX4_isLetter 6 = .ok (.iload_n 0, 1) := by decide +kernel
theorem dX4_isLetter_7 : decode cX4_isLetter 7 = .ok (.bipush 122, 2) := by decide +kernel
theorem dX4_isLetter_9 : decode cX4_isLetter 9 = .ok (.if_icmp .gt 7, 3) := by decide +kernel
theorem dX4_isLetter_12 : decode cX4_isLetter 12 = .ok (.iconst 1, 1) := by decide +kernel
theorem dX4_isLetter_13 : decode cX4_isLetter 13 = .ok (.goto 4, 3) := by decide +kernel
theorem dX4_isLetter_16 : decode cX4_isLetter 16 = .ok (.iconst 0, 1) := by decide +kernel
theorem dX4_isLetter_17 : decode cX4_isLetter 17 = .ok (.ireturn, 1) := by decide +kernel
