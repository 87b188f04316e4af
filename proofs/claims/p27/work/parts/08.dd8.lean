theorem dX6_init_0 : decode cX6_init 0 = .ok (.aload_n 0, 1) := by decide +kernel
theorem dX6_init_1 : decode cX6_init 1 = .ok (.invokespecial 1, 3) := by decide +kernel
theorem dX6_init_4 : decode cX6_init 4 = .ok (.aload_n 0, 1) := by decide +kernel
theorem dX6_init_5 : decode cX6_init 5 = .ok (.bipush 20, 2) := by decide +kernel
theorem dX6_init_7 : decode cX6_init 7 = .ok (.putfield 7, 3) := by decide +kernel
theorem dX6_init_10 : decode cX6_init 10 = .ok (.aload_n 0, 1) := by decide +kernel
theorem dX6_init_11 : decode cX6_init 11 = .ok (.iconst 3, 1) := by decide +kernel
theorem dX6_init_12 : decode cX6_init 12 = .ok (.putfield 13, 3) := by decide +kernel
theorem dX6_init_15 : decode cX6_init 15 = .ok (.aload_n 0, 1) := by decide +kernel
theorem dX6_init_16 : decode cX6_init 16 = .ok (.iconst 5, 1) := by decide +kernel
theorem dX6_init_17 : decode cX6_init 17 = .ok (.newarray .int, 2) := by decide +kernel
theorem dX6_init_19 : decode cX6_init 19 = .ok (.dup, 1) := by decide +kernel
theorem dX6_init_20 : decode cX6_init 20 = .ok (.iconst 0, 1) := by decide +kernel
theorem dX6_init_21 : decode cX6_init 21 = .ok (.iconst 1, 1) := by decide +kernel
theorem dX6_init_22 : decode cX6_init 22 = .ok (.iastore, 1) := by decide +kernel
theorem dX6_init_23 : decode cX6_init 23 = .ok (.dup, 1) := by decide +kernel
theorem dX6_init_24 : decode cX6_init 24 = .ok (.iconst 1, 1) := by decide +kernel
theorem dX6_init_25 : decode cX6_init 25 = .ok (.iconst 5, 1) := by decide +kernel
theorem dX6_init_26 : decode cX6_init 26 = .ok (.iastore, 1) := by decide +kernel
theorem dX6_init_27 : decode cX6_init 27 = .ok (.dup, 1) := by decide +kernel
theorem dX6_init_28 : decode cX6_init 28 = .ok (.iconst 2, 1) := by decide +kernel
theorem dX6_init_29 : decode cX6_init 29 = .ok (.bipush 10, 2) := by decide +kernel
theorem dX6_init_31 : decode cX6_init 31 = .ok (.iastore, 1) := by decide +kernel
theorem dX6_init_32 : decode cX6_init 32 = .ok (.dup, 1) := by decide +kernel
theorem dX6_init_33 : decode cX6_init 33 = .ok (.iconst 3, 1) := by decide +kernel
theorem dX6_init_34 : decode cX6_init 34 = .ok (.bipush 8, 2) := by decide +kernel
theorem dX6_init_36 : decode cX6_init 36 = .ok (.iastore, 1) := by decide +kernel
theorem dX6_init_37 : decode cX6_init 37 = .ok (.dup, 1) := by decide +kernel
theorem dX6_init_38 : decode cX6_init 38 = .ok (.iconst 4, 1) := by decide +kernel
theorem dX6_init_39 : decode cX6_init 39 = .ok (.iconst 2, 1) := by decide +kernel
theorem dX6_init_40 : decode cX6_init 40 = .ok (.iastore, 1) := by decide +kernel
theorem dX6_init_41 : decode cX6_init 41 = .ok (.putfield 16, 3) := by decide +kernel
theorem dX6_init_44 : decode cX6_init 44 = .ok (.aload_n 0, 1) := by decide +kernel
theorem dX6_init_45 : decode cX6_init 45 = .ok (.iconst 0, 1) := by decide +kernel
theorem dX6_init_46 : decode cX6_init 46 = .ok (.anewarray 20, 3) := by decide +kernel
theorem dX6_init_49 : decode cX6_init 49 = .ok (.putfield 22, 3) := by decide +kernel
theorem dX6_init_52 : decode cX6_init 52 = .ok (.return_, 1) := by decide +kernel
set_option maxRecDepth 20000 in
theorem ggX6_copy_X6_init : GoodIn wsX6_copy wsX6_init := goodIn_r _ [18, 19, 20, 21, 4, 5, 22, 7, 15, 14, 40, 41, 42, 43, 44] (by decide +kernel) (by decide +kernel)
set_option maxRecDepth 20000 in
theorem gX6_copy_X6_init : GoodIn wsX6_copy (wsX6_init) := ggX6_copy_X6_init
set_option maxRecDepth 20000 in
theorem ggX6_copy_X7_copy : GoodIn wsX6_copy wsX7_copy := goodIn_r _ [27, 28, 29, 26, 30, 31, 32, 33, 34, 35, 36, 37, 38, 39, 20, 21, 45, 46, 47, 48, 49, 50] (by decide +kernel) (by decide +kernel)
set_option maxRecDepth 20000 in
theorem gX6_copy_X7_copy : GoodIn wsX6_copy (wsV RX6 35 RX7 yX7_copy wsX7_copy) := goodIn_app (goodIn_of _ (by decide +kernel)) ggX6_copy_X7_copy
theorem dX6_copy_0 : decode cX6_copy 0 = .ok (.new 8, 3) := by decide +kernel
theorem dX6_copy_3 : decode cX6_copy 3 = .ok (.dup, 1) := by decide +kernel
theorem dX6_copy_4 : decode cX6_copy 4 = .ok (.invokespecial 26, 3) := by decide +kernel
theorem dX6_copy_7 : decode cX6_copy 7 = .ok (.astore_n 1, 1) := by decide +kernel
theorem dX6_copy_8 : decode cX6_copy 8 = .ok (.aload_n 1, 1) := by decide +kernel
theorem dX6_copy_9 : decode cX6_copy 9 = .ok (.aload_n 0, 1) := by decide +kernel
theorem dX6_copy_10 : decode cX6_copy 10 = .ok (.getfield 7, 3) := by decide +kernel
theorem dX6_copy_13 : decode cX6_copy 13 = .ok (.putfield 7, 3) := by decide +kernel
theorem dX6_copy_16 : decode cX6_copy 16 = .ok (.aload_n 1, 1) := by decide +kernel
theorem dX6_copy_17 : decode cX6_copy 17 = .ok (.aload_n 0, 1) := by decide +kernel
theorem dX6_copy_18 : decode cX6_copy 18 = .ok (.getfield 13, 3) := by decide +kernel
theorem dX6_copy_21 : decode cX6_copy 21 = .ok (.putfield 13, 3) := by decide +kernel
theorem dX6_copy_24 : decode cX6_copy 24 = .ok (.aload_n 1, 1) := by decide +kernel
theorem dX6_copy_25 : decode cX6_copy 25 = .ok (.aload_n 0, 1) := by decide +kernel
theorem dX6_copy_26 : decode cX6_copy 26 = .ok (.getfield 27, 3) := by decide +kernel
theorem dX6_copy_29 : decode cX6_copy 29 = .ok (.putfield 27, 3) := by decide +kernel
theorem dX6_copy_32 : decode cX6_copy 32 = .ok (.aload_n 1, 1) := by decide +kernel
theorem dX6_copy_33 : decode cX6_copy 33 = .ok (.aload_n 0, 1) := by decide +kernel
theorem dX6_copy_34 : decode cX6_copy 34 = .ok (.getfield 16, 3) := by decide +kernel
theorem dX6_copy_37 : decode cX6_copy 37 = .ok (.invokevirtual 30, 3) := by decide +kernel
theorem dX6_copy_40 : decode cX6_copy 40 = .ok (.checkcast 31, 3) := by decide +kernel
theorem dX6_copy_43 : decode cX6_copy 43 = .ok (.putfield 16, 3) := by decide +kernel
theorem dX6_copy_46 : decode cX6_copy 46 = .ok (.aload_n 1, 1) := by decide +kernel
theorem dX6_copy_47 : decode cX6_copy 47 = .ok (.aload_n 0, 1) := by decide +kernel
theorem dX6_copy_48 : decode cX6_copy 48 = .ok (.getfield 22, 3) := by decide +kernel
theorem dX6_copy_51 : decode cX6_copy 51 = .ok (.arraylength, 1) := by decide +kernel
theorem dX6_copy_52 : decode cX6_copy 52 = .ok (.anewarray 20, 3) := by decide +kernel
theorem dX6_copy_55 : decode cX6_copy 55 = .ok (.putfield 22, 3) := by decide +kernel
theorem dX6_copy_58 : decode cX6_copy 58 = .ok (.iconst 0, 1) := by decide +kernel
theorem dX6_copy_59 : decode cX6_copy 59 = .ok (.istore_n 2, 1) := by decide +kernel
theorem dX6_copy_60 : decode cX6_copy 60 = .ok (.iload_n 2, 1) := by decide +kernel
theorem dX6_copy_61 : decode cX6_copy 61 = .ok (.aload_n 0, 1) := by decide +kernel
theorem dX6_copy_62 : decode cX6_copy 62 = .ok (.getfield 22, 3) := by decide +kernel
theorem dX6_copy_65 : decode cX6_copy 65 = .ok (.arraylength, 1) := by decide +kernel
theorem dX6_copy_66 : decode cX6_copy 66 = .ok (.if_icmp .ge 24, 3) := by decide +kernel
theorem dX6_copy_69 : decode cX6_copy 69 = .ok (.aload_n 1, 1) := by decide +kernel
theorem dX6_copy_70 : decode cX6_copy 70 = .ok (.getfield 22, 3) := by decide +kernel
theorem dX6_copy_73 : decode cX6_copy 73 = .ok (.iload_n 2, 1) := by decide +kernel
theorem dX6_copy_74 : decode cX6_copy 74 = .ok (.aload_n 0, 1) := by decide +kernel
theorem dX6_copy_75 : decode cX6_copy 75 = .ok (.getfield 22, 3) := by decide +kernel
theorem dX6_copy_78 : decode cX6_copy 78 = .ok (.iload_n 2, 1) := by decide +kernel
theorem dX6_copy_79 : decode cX6_copy 79 = .ok (.aaload, 1) := by decide +kernel
theorem dX6_copy_80 : decode cX6_copy 80 = .ok (.invokevirtual 35, 3) := by decide +kernel
theorem dX6_copy_83 : decode cX6_copy 83 = .ok (.aastore, 1) := by decide +kernel
theorem dX6_copy_84 : decode cX6_copy 84 = .ok (.iinc 2 1, 3) := by decide +kernel
theorem dX6_copy_87 : decode cX6_copy 87 = .ok (.goto (-27), 3) := by decide +kernel
theorem dX6_copy_90 : decode cX6_copy 90 = .ok (.aload_n 1, 1) := by decide +kernel
theorem dX6_copy_91 : decode cX6_copy 91 = .ok (.areturn, 1) := by decide +kernel
theorem dX6_adds_0 : decode cX6_adds 0 = .ok (.aload_n 0, 1) := by decide +kernel
theorem dX6_adds_1 : decode cX6_adds 1 = .ok (.getfield 22, 3) := by decide +kernel
theorem dX6_adds_4 : decode cX6_adds 4 = .ok (.arraylength, 1) := by decide +kernel
theorem dX6_adds_5 : decode cX6_adds 5 = .ok (.iconst 1, 1) := by decide +kernel
theorem dX6_adds_6 : decode cX6_adds 6 = .ok (.iadd, 1) := by decide +kernel
theorem dX6_adds_7 : decode cX6_adds 7 = .ok (.anewarray 20, 3) := by decide +kernel
theorem dX6_adds_10 : decode cX6_adds 10 = .ok (.astore_n 3, 1) := by decide +kernel
theorem dX6_adds_11 : decode cX6_adds 11 = .ok (.iconst 0, 1) := by decide +kernel
theorem dX6_adds_12 : decode cX6_adds 12 = .ok (.istore 4, 2) := by decide +kernel
theorem dX6_adds_14 : decode cX6_adds 14 = .ok (.iload 4, 2) := by decide +kernel
theorem dX6_adds_16 : decode cX6_adds 16 = .ok (.aload_n 3, 1) := by decide +kernel
theorem dX6_adds_17 : decode cX6_adds 17 = .ok (.arraylength, 1) := by decide +kernel
theorem dX6_adds_18 : decode cX6_adds 18 = .ok (.if_icmp .ge 48, 3) := by decide +kernel
theorem dX6_adds_21 : decode cX6_adds 21 = .ok (.aload_n 3, 1) := by decide +kernel
theorem dX6_adds_22 : decode cX6_adds 22 = .ok (.iload 4, 2) := by decide +kernel
theorem dX6_adds_24 : decode cX6_adds 24 = .ok (.iload 4, 2) := by decide +kernel
theorem dX6_adds_26 : decode cX6_adds 26 = .ok (.iload_n 1, 1) := by decide +kernel
theorem dX6_adds_27 : decode cX6_adds 27 = .ok (.if_icmp .ge 13, 3) := by decide +kernel
theorem dX6_adds_30 : decode cX6_adds 30 = .ok (.aload_n 0, 1) := by decide +kernel
theorem dX6_adds_31 : decode cX6_adds 31 = .ok (.getfield 22, 3) := by decide +kernel
theorem dX6_adds_34 : decode cX6_adds 34 = .ok (.iload 4, 2) := by decide +kernel
theorem dX6_adds_36 : decode cX6_adds 36 = .ok (.aaload, 1) := by decide +kernel
theorem dX6_adds_37 : decode cX6_adds 37 = .ok (.goto 22, 3) := by decide +kernel
theorem dX6_adds_40 : decode cX6_adds 40 = .ok (.iload 4, 2) := by decide +kernel
theorem dX6_adds_42 : decode cX6_adds 42 = .ok (.iload_n 1, 1) := by decide +kernel
theorem dX6_adds_43 : decode cX6_adds 43 = .ok (.if_icmp .ne 7, 3) := by decide +kernel
theorem dX6_adds_46 : decode cX6_adds 46 = .ok (.aload_n 2, 1) := by decide +kernel
theorem dX6_adds_47 : decode cX6_adds 47 = .ok (.goto 12, 3) := by decide +kernel
theorem dX6_adds_50 : decode cX6_adds 50 = .ok (.aload_n 0, 1) := by decide +kernel
theorem dX6_adds_51 : decode cX6_adds 51 = .ok (.getfield 22, 3) := by decide +kernel
theorem dX6_adds_54 : decode cX6_adds 54 = .ok (.iload 4, 2) := by decide +kernel
theorem dX6_adds_56 : decode cX6_adds 56 = .ok (.iconst 1, 1) := by decide +kernel
theorem dX6_adds_57 : decode cX6_adds 57 = .ok (.isub, 1) := by decide +kernel
theorem dX6_adds_58 : decode cX6_adds 58 = .ok (.aaload, 1) := by decide +kernel
theorem dX6_adds_59 : decode cX6_adds 59 = .ok (.aastore, 1) := by decide +kernel
theorem dX6_adds_60 : decode cX6_adds 60 = .ok (.iinc 4 1, 3) := by decide +kernel
theorem dX6_adds_63 : decode cX6_adds 63 = .ok (.goto (-49), 3) := by decide +kernel
theorem dX6_adds_66 : decode cX6_adds 66 = .ok (.aload_n 0, 1) := by decide +kernel
theorem dX6_adds_67 : decode cX6_adds 67 = .ok (.aload_n 3, 1) := by decide +kernel
theorem dX6_adds_68 : decode cX6_adds 68 = .ok (.putfield 22, 3) := by decide +kernel
theorem dX6_adds_71 : decode cX6_adds 71 = .ok (.return_, 1) := by decide +kernel
set_option maxRecDepth 20000 in
theorem ggX6_isPrinted_X7_differs : GoodIn wsX6_isPrinted wsX7_differs := goodIn_r _ [8, 9, 10, 16, 17, 18, 19, 20, 21] (by decide +kernel) (by decide +kernel)
set_option maxRecDepth 20000 in
theorem gX6_isPrinted_X7_differs : GoodIn wsX6_isPrinted (wsV RX6 39 RX7 yX7_differs wsX7_differs) := goodIn_app (goodIn_of _ (by decide +kernel)) ggX6_isPrinted_X7_differs
theorem dX6_isPrinted_0 : decode cX6_isPrinted 0 = .ok (.iconst 0, 1) := by decide +kernel
theorem dX6_isPrinted_1 : decode cX6_isPrinted 1 = .ok (.istore_n 3, 1) := by decide +kernel
theorem dX6_isPrinted_2 : decode cX6_isPrinted 2 = .ok (.iconst 0, 1) := by decide +kernel
theorem dX6_isPrinted_3 : decode cX6_isPrinted 3 = .ok (.istore 4, 2) := by decide +kernel
theorem dX6_isPrinted_5 : decode cX6_isPrinted 5 = .ok (.iload 4, 2) := by decide +kernel
theorem dX6_isPrinted_7 : decode cX6_isPrinted 7 = .ok (.iload_n 1, 1) := by decide +kernel
theorem dX6_isPrinted_8 : decode cX6_isPrinted 8 = .ok (.if_icmp .ge 25, 3) := by decide +kernel
theorem dX6_isPrinted_11 : decode cX6_isPrinted 11 = .ok (.aload_n 0, 1) := by decide +kernel
theorem dX6_isPrinted_12 : decode cX6_isPrinted 12 = .ok (.getfield 22, 3) := by decide +kernel
theorem dX6_isPrinted_15 : decode cX6_isPrinted 15 = .ok (.iload 4, 2) := by decide +kernel
theorem dX6_isPrinted_17 : decode cX6_isPrinted 17 = .ok (.aaload, 1) := by decide +kernel
theorem dX6_isPrinted_18 : decode cX6_isPrinted 18 = .ok (.invokevirtual 39, 3) := by decide +kernel
theorem dX6_isPrinted_21 : decode cX6_isPrinted 21 = .ok (.ifCond .eq 6, 3) := by decide +kernel
theorem dX6_isPrinted_24 : decode cX6_isPrinted 24 = .ok (.iinc 3 1, 3) := by decide +kernel
theorem dX6_isPrinted_27 : decode cX6_isPrinted 27 = .ok (.iinc 4 1, 3) := by decide +kernel
theorem dX6_isPrinted_30 : decode cX6_isPrinted 30 = .ok (.goto (-25), 3) := by decide +kernel
theorem dX6_isPrinted_33 : decode cX6_isPrinted 33 = .ok (.aload_n 0, 1) := by decide +kernel
theorem dX6_isPrinted_34 : decode cX6_isPrinted 34 = .ok (.getfield 22, 3) := by decide +kernel
theorem dX6_isPrinted_37 : decode cX6_isPrinted 37 = .ok (.iload_n 1, 1) := by decide +kernel
theorem dX6_isPrinted_38 : decode cX6_isPrinted 38 = .ok (.aaload, 1) := by decide +kernel
theorem dX6_isPrinted_39 : decode cX6_isPrinted 39 = .ok (.astore 4, 2) := by decide +kernel
theorem dX6_isPrinted_41 : decode cX6_isPrinted 41 = .ok (.aload 4, 2) := by decide +kernel
theorem dX6_isPrinted_43 : decode cX6_isPrinted 43 = .ok (.invokevirtual 39, 3) := by decide +kernel
theorem dX6_isPrinted_46 : decode cX6_isPrinted 46 = .ok (.ifCond .eq 20, 3) := by decide +kernel
theorem dX6_isPrinted_49 : decode cX6_isPrinted 49 = .ok (.iload_n 2, 1) := by decide +kernel
theorem dX6_isPrinted_50 : decode cX6_isPrinted 50 = .ok (.iload_n 3, 1) := by decide +kernel
theorem dX6_isPrinted_51 : decode cX6_isPrinted 51 = .ok (.ishr, 1) := by decide +kernel
theorem dX6_isPrinted_52 : decode cX6_isPrinted 52 = .ok (.iconst 1, 1) := by decide +kernel
theorem dX6_isPrinted_53 : decode cX6_isPrinted 53 = .ok (.iand, 1) := by decide +kernel
theorem dX6_isPrinted_54 : decode cX6_isPrinted 54 = .ok (.iconst 1, 1) := by decide +kernel
theorem dX6_isPrinted_55 : decode cX6_isPrinted 55 = .ok (.if_icmp .ne 11, 3) := by decide +kernel
theorem dX6_isPrinted_58 : decode cX6_isPrinted 58 = .ok (.aload 4, 2) := by decide +kernel
theorem dX6_isPrinted_60 : decode cX6_isPrinted 60 = .ok (.getfield 43, 3) := by decide +kernel
theorem dX6_isPrinted_63 : decode cX6_isPrinted 63 = .ok (.goto 8, 3) := by decide +kernel
theorem dX6_isPrinted_66 : decode cX6_isPrinted 66 = .ok (.aload 4, 2) := by decide +kernel
theorem dX6_isPrinted_68 : decode cX6_isPrinted 68 = .ok (.getfield 47, 3) := by decide +kernel
theorem dX6_isPrinted_71 : decode cX6_isPrinted 71 = .ok (.ireturn, 1) := by decide +kernel
set_option maxRecDepth 20000 in
theorem ggX6_places_X6_isPrinted : GoodIn wsX6_places wsX6_isPrinted := goodIn_r _ [9, 1, 10, 11, 12, 13, 14, 15, 16, 17, 18, 19, 20, 21, 22, 23, 24, 25, 26, 27, 28, 29] (by decide +kernel) (by decide +kernel)
set_option maxRecDepth 20000 in
theorem gX6_places_X6_isPrinted : GoodIn wsX6_places (wsV RX6 50 RX6 yX6_isPrinted wsX6_isPrinted) := goodIn_app (goodIn_of _ (by decide +kernel)) ggX6_places_X6_isPrinted
theorem dX6_places_0 : decode cX6_places 0 = .ok (.aload_n 0, 1) := by decide +kernel
theorem dX6_places_1 : decode cX6_places 1 = .ok (.getfield 22, 3) := by decide +kernel
theorem dX6_places_4 : decode cX6_places 4 = .ok (.arraylength, 1) := by decide +kernel
theorem dX6_places_5 : decode cX6_places 5 = .ok (.newarray .int, 2) := by decide +kernel
theorem dX6_places_7 : decode cX6_places 7 = .ok (.astore_n 2, 1) := by decide +kernel
theorem dX6_places_8 : decode cX6_places 8 = .ok (.iconst 0, 1) := by decide +kernel
theorem dX6_places_9 : decode cX6_places 9 = .ok (.istore_n 3, 1) := by decide +kernel
theorem dX6_places_10 : decode cX6_places 10 = .ok (.iconst 0, 1) := by decide +kernel
theorem dX6_places_11 : decode cX6_places 11 = .ok (.istore 4, 2) := by decide +kernel
theorem dX6_places_13 : decode cX6_places 13 = .ok (.iconst 0, 1) := by decide +kernel
theorem dX6_places_14 : decode cX6_places 14 = .ok (.istore 5, 2) := by decide +kernel
theorem dX6_places_16 : decode cX6_places 16 = .ok (.iload 5, 2) := by decide +kernel
theorem dX6_places_18 : decode cX6_places 18 = .ok (.aload_n 0, 1) := by decide +kernel
theorem dX6_places_19 : decode cX6_places 19 = .ok (.getfield 22, 3) := by decide +kernel
theorem dX6_places_22 : decode cX6_places 22 = .ok (.arraylength, 1) := by decide +kernel
theorem dX6_places_23 : decode cX6_places 23 = .ok (.if_icmp .ge 81, 3) := by decide +kernel
theorem dX6_places_26 : decode cX6_places 26 = .ok (.aload_n 2, 1) := by decide +kernel
theorem dX6_places_27 : decode cX6_places 27 = .ok (.iload 5, 2) := by decide +kernel
theorem dX6_places_29 : decode cX6_places 29 = .ok (.iconst (-1), 1) := by decide +kernel
theorem dX6_places_30 : decode cX6_places 30 = .ok (.iastore, 1) := by decide +kernel
theorem dX6_places_31 : decode cX6_places 31 = .ok (.aload_n 0, 1) := by decide +kernel
theorem dX6_places_32 : decode cX6_places 32 = .ok (.iload 5, 2) := by decide +kernel
theorem dX6_places_34 : decode cX6_places 34 = .ok (.iload_n 1, 1) := by decide +kernel
theorem dX6_places_35 : decode cX6_places 35 = .ok (.invokevirtual 50, 3) := by decide +kernel
theorem dX6_places_38 : decode cX6_places 38 = .ok (.ifCond .ne 6, 3) := by decide +kernel
theorem dX6_places_41 : decode cX6_places 41 = .ok (.goto 57, 3) := by decide +kernel
theorem dX6_places_44 : decode cX6_places 44 = .ok (.iload 4, 2) := by decide +kernel
theorem dX6_places_46 : decode cX6_places 46 = .ok (.aload_n 0, 1) := by decide +kernel
theorem dX6_places_47 : decode cX6_places 47 = .ok (.getfield 22, 3) := by decide +kernel
theorem dX6_places_50 : decode cX6_places 50 = .ok (.iload 5, 2) := by decide +kernel
theorem dX6_places_52 : decode cX6_places 52 = .ok (.aaload, 1) := by decide +kernel
theorem dX6_places_53 : decode cX6_places 53 = .ok (.getfield 53, 3) := by decide +kernel
theorem dX6_places_56 : decode cX6_places 56 = .ok (.iadd, 1) := by decide +kernel
theorem dX6_places_57 : decode cX6_places 57 = .ok (.aload_n 0, 1) := by decide +kernel
theorem dX6_places_58 : decode cX6_places 58 = .ok (.getfield 7, 3) := by decide +kernel
theorem dX6_places_61 : decode cX6_places 61 = .ok (.if_icmp .le 9, 3) := by decide +kernel
theorem dX6_places_64 : decode cX6_places 64 = .ok (.iinc 3 1, 3) := by decide +kernel
theorem dX6_places_67 : decode cX6_places 67 = .ok (.iconst 0, 1) := by decide +kernel
theorem dX6_places_68 : decode cX6_places 68 = .ok (.istore 4, 2) := by decide +kernel
theorem dX6_places_70 : decode cX6_places 70 = .ok (.aload_n 2, 1) := by decide +kernel
theorem dX6_places_71 : decode cX6_places 71 = .ok (.iload 5, 2) := by decide +kernel
theorem dX6_places_73 : decode cX6_places 73 = .ok (.iload_n 3, 1) := by decide +kernel
theorem dX6_places_74 : decode cX6_places 74 = .ok (.aload_n 0, 1) := by decide +kernel
theorem dX6_places_75 : decode cX6_places 75 = .ok (.getfield 7, 3) := by decide +kernel
theorem dX6_places_78 : decode cX6_places 78 = .ok (.imul, 1) := by decide +kernel
theorem dX6_places_79 : decode cX6_places 79 = .ok (.iload 4, 2) := by decide +kernel
theorem dX6_places_81 : decode cX6_places 81 = .ok (.iadd, 1) := by decide +kernel
theorem dX6_places_82 : decode cX6_places 82 = .ok (.iastore, 1) := by decide +kernel
theorem dX6_places_83 : decode cX6_places 83 = .ok (.iload 4, 2) := by decide +kernel
theorem dX6_places_85 : decode cX6_places 85 = .ok (.aload_n 0, 1) := by decide +kernel
theorem dX6_places_86 : decode cX6_places 86 = .ok (.getfield 22, 3) := by decide +kernel
theorem dX6_places_89 : decode cX6_places 89 = .ok (.iload 5, 2) := by decide +kernel
theorem dX6_places_91 : decode cX6_places 91 = .ok (.aaload, 1) := by decide +kernel
theorem dX6_places_92 : decode cX6_places 92 = .ok (.getfield 53, 3) := by decide +kernel
theorem dX6_places_95 : decode cX6_places 95 = .ok (.iadd, 1) := by decide +kernel
theorem dX6_places_96 : decode cX6_places 96 = .ok (.istore 4, 2) := by decide +kernel
theorem dX6_places_98 : decode cX6_places 98 = .ok (.iinc 5 1, 3) := by decide +kernel
theorem dX6_places_101 : decode cX6_places 101 = .ok (.goto (-85), 3) := by decide +kernel
theorem dX6_places_104 : decode cX6_places 104 = .ok (.aload_n 2, 1) := by decide +kernel
theorem dX6_places_105 : decode cX6_places 105 = .ok (.areturn, 1) := by decide +kernel
theorem dX6_number_0 : decode cX6_number 0 = .ok (.iconst 0, 1) := by decide +kernel
theorem dX6_number_1 : decode cX6_number 1 = .ok (.istore_n 3, 1) := by decide +kernel
theorem dX6_number_2 : decode cX6_number 2 = .ok (.aload_n 1, 1) := by decide +kernel
theorem dX6_number_3 : decode cX6_number 3 = .ok (.iload_n 2, 1) := by decide +kernel
theorem dX6_number_4 : decode cX6_number 4 = .ok (.iaload, 1) := by decide +kernel
theorem dX6_number_5 : decode cX6_number 5 = .ok (.ifCond .ge 5, 3) := by decide +kernel
theorem dX6_number_8 : decode cX6_number 8 = .ok (.iconst 0, 1) := by decide +kernel
theorem dX6_number_9 : decode cX6_number 9 = .ok (.ireturn, 1) := by decide +kernel
theorem dX6_number_10 : decode cX6_number 10 = .ok (.iconst 0, 1) := by decide +kernel
theorem dX6_number_11 : decode cX6_number 11 = .ok (.istore 4, 2) := by decide +kernel
theorem dX6_number_13 : decode cX6_number 13 = .ok (.iload 4, 2) := by decide +kernel
theorem dX6_number_15 : decode cX6_number 15 = .ok (.iload_n 2, 1) := by decide +kernel
theorem dX6_number_16 : decode cX6_number 16 = .ok (.if_icmp .gt 19, 3) := by decide +kernel
theorem dX6_number_19 : decode cX6_number 19 = .ok (.aload_n 1, 1) := by decide +kernel
theorem dX6_number_20 : decode cX6_number 20 = .ok (.iload 4, 2) := by decide +kernel
theorem dX6_number_22 : decode cX6_number 22 = .ok (.iaload, 1) := by decide +kernel
theorem dX6_number_23 : decode cX6_number 23 = .ok (.ifCond .lt 6, 3) := by decide +kernel
theorem dX6_number_26 : decode cX6_number 26 = .ok (.iinc 3 1, 3) := by decide +kernel
theorem dX6_number_29 : decode cX6_number 29 = .ok (.iinc 4 1, 3) := by decide +kernel
theorem dX6_number_32 : decode cX6_number 32 = .ok (.goto (-19), 3) := by decide +kernel
theorem dX6_number_35 : decode cX6_number 35 = .ok (.iload_n 3, 1) := by decide +kernel
theorem dX6_number_36 : decode cX6_number 36 = .ok (.ireturn, 1) := by decide +kernel
theorem dX6_pages_0 : decode cX6_pages 0 = .ok (.iconst 0, 1) := by decide +kernel
theorem dX6_pages_1 : decode cX6_pages 1 = .ok (.istore_n 2, 1) := by decide +kernel
theorem dX6_pages_2 : decode cX6_pages 2 = .ok (.aload_n 1, 1) := by decide +kernel
theorem dX6_pages_3 : decode cX6_pages 3 = .ok (.astore_n 3, 1) := by decide +kernel
theorem dX6_pages_4 : decode cX6_pages 4 = .ok (.aload_n 3, 1) := by decide +kernel
theorem dX6_pages_5 : decode cX6_pages 5 = .ok (.arraylength, 1) := by decide +kernel
theorem dX6_pages_6 : decode cX6_pages 6 = .ok (.istore 4, 2) := by decide +kernel
theorem dX6_pages_8 : decode cX6_pages 8 = .ok (.iconst 0, 1) := by decide +kernel
theorem dX6_pages_9 : decode cX6_pages 9 = .ok (.istore 5, 2) := by decide +kernel
theorem dX6_pages_11 : decode cX6_pages 11 = .ok (.iload 5, 2) := by decide +kernel
theorem dX6_pages_13 : decode cX6_pages 13 = .ok (.iload 4, 2) := by decide +kernel
theorem dX6_pages_15 : decode cX6_pages 15 = .ok (.if_icmp .ge 38, 3) := by decide +kernel
theorem dX6_pages_18 : decode cX6_pages 18 = .ok (.aload_n 3, 1) := by decide +kernel
theorem dX6_pages_19 : decode cX6_pages 19 = .ok (.iload 5, 2) := by decide +kernel
theorem dX6_pages_21 : decode cX6_pages 21 = .ok (.iaload, 1) := by decide +kernel
theorem dX6_pages_22 : decode cX6_pages 22 = .ok (.istore 6, 2) := by decide +kernel
theorem dX6_pages_24 : decode cX6_pages 24 = .ok (.iload_n 2, 1) := by decide +kernel
theorem dX6_pages_25 : decode cX6_pages 25 = .ok (.iload 6, 2) := by decide +kernel
theorem dX6_pages_27 : decode cX6_pages 27 = .ok (.ifCond .ge 7, 3) := by decide +kernel
theorem dX6_pages_30 : decode cX6_pages 30 = .ok (.iconst 0, 1) := by decide +kernel
theorem dX6_pages_31 : decode cX6_pages 31 = .ok (.goto 12, 3) := by decide +kernel
theorem dX6_pages_34 : decode cX6_pages 34 = .ok (.iload 6, 2) := by decide +kernel
theorem dX6_pages_36 : decode cX6_pages 36 = .ok (.aload_n 0, 1) := by decide +kernel
theorem dX6_pages_37 : decode cX6_pages 37 = .ok (.getfield 7, 3) := by decide +kernel
theorem dX6_pages_40 : decode cX6_pages 40 = .ok (.idiv, 1) := by decide +kernel
theorem dX6_pages_41 : decode cX6_pages 41 = .ok (.iconst 1, 1) := by decide +kernel
theorem dX6_pages_42 : decode cX6_pages 42 = .ok (.iadd, 1) := by decide +kernel
theorem dX6_pages_43 : decode cX6_pages 43 = .ok (.invokestatic 56, 3) := by decide +kernel
theorem dX6_pages_46 : decode cX6_pages 46 = .ok (.istore_n 2, 1) := by decide +kernel
theorem dX6_pages_47 : decode cX6_pages 47 = .ok (.iinc 5 1, 3) := by decide +kernel
theorem dX6_pages_50 : decode cX6_pages 50 = .ok (.goto (-39), 3) := by decide +kernel
theorem dX6_pages_53 : decode cX6_pages 53 = .ok (.iload_n 2, 1) := by decide +kernel
theorem dX6_pages_54 : decode cX6_pages 54 = .ok (.ireturn, 1) := by decide +kernel
theorem dX6_standing_0 : decode cX6_standing 0 = .ok (.iconst 0, 1) := by decide +kernel
theorem dX6_standing_1 : decode cX6_standing 1 = .ok (.istore_n 3, 1) := by decide +kernel
theorem dX6_standing_2 : decode cX6_standing 2 = .ok (.iload_n 3, 1) := by decide +kernel
theorem dX6_standing_3 : decode cX6_standing 3 = .ok (.aload_n 0, 1) := by decide +kernel
theorem dX6_standing_4 : decode cX6_standing 4 = .ok (.getfield 22, 3) := by decide +kernel
theorem dX6_standing_7 : decode cX6_standing 7 = .ok (.arraylength, 1) := by decide +kernel
theorem dX6_standing_8 : decode cX6_standing 8 = .ok (.if_icmp .ge 50, 3) := by decide +kernel
theorem dX6_standing_11 : decode cX6_standing 11 = .ok (.aload_n 1, 1) := by decide +kernel
theorem dX6_standing_12 : decode cX6_standing 12 = .ok (.iload_n 3, 1) := by decide +kernel
theorem dX6_standing_13 : decode cX6_standing 13 = .ok (.iaload, 1) := by decide +kernel
theorem dX6_standing_14 : decode cX6_standing 14 = .ok (.ifCond .lt 38, 3) := by decide +kernel
theorem dX6_standing_17 : decode cX6_standing 17 = .ok (.iload_n 2, 1) := by decide +kernel
theorem dX6_standing_18 : decode cX6_standing 18 = .ok (.aload_n 1, 1) := by decide +kernel
theorem dX6_standing_19 : decode cX6_standing 19 = .ok (.iload_n 3, 1) := by decide +kernel
theorem dX6_standing_20 : decode cX6_standing 20 = .ok (.iaload, 1) := by decide +kernel
theorem dX6_standing_21 : decode cX6_standing 21 = .ok (.if_icmp .lt 31, 3) := by decide +kernel
theorem dX6_standing_24 : decode cX6_standing 24 = .ok (.iload_n 2, 1) := by decide +kernel
theorem dX6_standing_25 : decode cX6_standing 25 = .ok (.aload_n 1, 1) := by decide +kernel
theorem dX6_standing_26 : decode cX6_standing 26 = .ok (.iload_n 3, 1) := by decide +kernel
theorem dX6_standing_27 : decode cX6_standing 27 = .ok (.iaload, 1) := by decide +kernel
theorem dX6_standing_28 : decode cX6_standing 28 = .ok (.aload_n 0, 1) := by decide +kernel
theorem dX6_standing_29 : decode cX6_standing 29 = .ok (.getfield 22, 3) := by decide +kernel
theorem dX6_standing_32 : decode cX6_standing 32 = .ok (.iload_n 3, 1) := by decide +kernel
theorem dX6_standing_33 : decode cX6_standing 33 = .ok (.aaload, 1) := by decide +kernel
theorem dX6_standing_34 : decode cX6_standing 34 = .ok (.getfield 53, 3) := by decide +kernel
theorem dX6_standing_37 : decode cX6_standing 37 = .ok (.iadd, 1) := by decide +kernel
theorem dX6_standing_38 : decode cX6_standing 38 = .ok (.if_icmp .ge 14, 3) := by decide +kernel
theorem dX6_standing_41 : decode cX6_standing 41 = .ok (.bipush 10, 2) := by decide +kernel
theorem dX6_standing_43 : decode cX6_standing 43 = .ok (.iload_n 3, 1) := by decide +kernel
theorem dX6_standing_44 : decode cX6_standing 44 = .ok (.imul, 1) := by decide +kernel
theorem dX6_standing_45 : decode cX6_standing 45 = .ok (.iload_n 2, 1) := by decide +kernel
theorem dX6_standing_46 : decode cX6_standing 46 = .ok (.iadd, 1) := by decide +kernel
theorem dX6_standing_47 : decode cX6_standing 47 = .ok (.aload_n 1, 1) := by decide +kernel
theorem dX6_standing_48 : decode cX6_standing 48 = .ok (.iload_n 3, 1) := by decide +kernel
theorem dX6_standing_49 : decode cX6_standing 49 = .ok (.iaload, 1) := by decide +kernel
theorem dX6_standing_50 : decode cX6_standing 50 = .ok (.isub, 1) := by decide +kernel
theorem dX6_standing_51 : decode cX6_standing 51 = .ok (.ireturn, 1) := by decide +kernel
theorem dX6_standing_52 : decode cX6_standing 52 = .ok (.iinc 3 1, 3) := by decide +kernel
theorem dX6_standing_55 : decode cX6_standing 55 = .ok (.goto (-53), 3) := by decide +kernel
theorem dX6_standing_58 : decode cX6_standing 58 = .ok (.iconst (-1), 1) := by decide +kernel
theorem dX6_standing_59 : decode cX6_standing 59 = .ok (.ireturn, 1) := by decide +kernel
set_option maxRecDepth 20000 in
theorem ggX6_different_X7_differs : GoodIn wsX6_different wsX7_differs := goodIn_r _ [6, 7, 8, 14, 15, 16, 17, 18, 19] (by decide +kernel) (by decide +kernel)
set_option maxRecDepth 20000 in
theorem gX6_different_X7_differs : GoodIn wsX6_different (wsV RX6 39 RX7 yX7_differs wsX7_differs) := goodIn_app (goodIn_of _ (by decide +kernel)) ggX6_different_X7_differs
theorem dX6_different_0 : decode cX6_different 0 = .ok (.iconst 0, 1) := by decide +kernel
theorem dX6_different_1 : decode cX6_different 1 = .ok (.istore_n 1, 1) := by decide +kernel
theorem dX6_different_2 : decode cX6_different 2 = .ok (.aload_n 0, 1) := by decide +kernel
theorem dX6_different_3 : decode cX6_different 3 = .ok (.getfield 22, 3) := by decide +kernel
theorem dX6_different_6 : decode cX6_different 6 = .ok (.astore_n 2, 1) := by decide +kernel
theorem dX6_different_7 : decode cX6_different 7 = .ok (.aload_n 2, 1) := by decide +kernel
theorem dX6_different_8 : decode cX6_different 8 = .ok (.arraylength, 1) := by decide +kernel
theorem dX6_different_9 : decode cX6_different 9 = .ok (.istore_n 3, 1) := by decide +kernel
theorem dX6_different_10 : decode cX6_different 10 = .ok (.iconst 0, 1) := by decide +kernel
theorem dX6_different_11 : decode cX6_different 11 = .ok (.istore 4, 2) := by decide +kernel
theorem dX6_different_13 : decode cX6_different 13 = .ok (.iload 4, 2) := by decide +kernel
theorem dX6_different_15 : decode cX6_different 15 = .ok (.iload_n 3, 1) := by decide +kernel
theorem dX6_different_16 : decode cX6_different 16 = .ok (.if_icmp .ge 26, 3) := by decide +kernel
theorem dX6_different_19 : decode cX6_different 19 = .ok (.aload_n 2, 1) := by decide +kernel
theorem dX6_different_20 : decode cX6_different 20 = .ok (.iload 4, 2) := by decide +kernel
theorem dX6_different_22 : decode cX6_different 22 = .ok (.aaload, 1) := by decide +kernel
theorem dX6_different_23 : decode cX6_different 23 = .ok (.astore 5, 2) := by decide +kernel
theorem dX6_different_25 : decode cX6_different 25 = .ok (.aload 5, 2) := by decide +kernel
theorem dX6_different_27 : decode cX6_different 27 = .ok (.invokevirtual 39, 3) := by decide +kernel
theorem dX6_different_30 : decode cX6_different 30 = .ok (.ifCond .eq 6, 3) := by decide +kernel
theorem dX6_different_33 : decode cX6_different 33 = .ok (.iinc 1 1, 3) := by decide +kernel
theorem dX6_different_36 : decode cX6_different 36 = .ok (.iinc 4 1, 3) := by decide +kernel
theorem dX6_different_39 : decode cX6_different 39 = .ok (.goto (-26), 3) := by decide +kernel
theorem dX6_different_42 : decode cX6_different 42 = .ok (.iload_n 1, 1) := by decide +kernel
theorem dX6_different_43 : decode cX6_different 43 = .ok (.ireturn, 1) := by decide +kernel
set_option maxRecDepth 20000 in
theorem ggX6_indexOf_X7_differs : GoodIn wsX6_indexOf wsX7_differs := goodIn_r _ [6, 7, 8, 14, 15, 16, 17, 18, 19] (by decide +kernel) (by decide +kernel)
set_option maxRecDepth 20000 in
theorem gX6_indexOf_X7_differs : GoodIn wsX6_indexOf (wsV RX6 39 RX7 yX7_differs wsX7_differs) := goodIn_app (goodIn_of _ (by decide +kernel)) ggX6_indexOf_X7_differs
theorem dX6_indexOf_0 : decode cX6_indexOf 0 = .ok (.iload_n 1, 1) := by decide +kernel
theorem dX6_indexOf_1 : decode cX6_indexOf 1 = .ok (.istore_n 2, 1) := by decide +kernel
theorem dX6_indexOf_2 : decode cX6_indexOf 2 = .ok (.iconst 0, 1) := by decide +kernel
theorem dX6_indexOf_3 : decode cX6_indexOf 3 = .ok (.istore_n 3, 1) := by decide +kernel
theorem dX6_indexOf_4 : decode cX6_indexOf 4 = .ok (.iload_n 3, 1) := by decide +kernel
theorem dX6_indexOf_5 : decode cX6_indexOf 5 = .ok (.aload_n 0, 1) := by decide +kernel
theorem dX6_indexOf_6 : decode cX6_indexOf 6 = .ok (.getfield 22, 3) := by decide +kernel
theorem dX6_indexOf_9 : decode cX6_indexOf 9 = .ok (.arraylength, 1) := by decide +kernel
theorem dX6_indexOf_10 : decode cX6_indexOf 10 = .ok (.if_icmp .ge 33, 3) := by decide +kernel
theorem dX6_indexOf_13 : decode cX6_indexOf 13 = .ok (.aload_n 0, 1) := by decide +kernel
theorem dX6_indexOf_14 : decode cX6_indexOf 14 = .ok (.getfield 22, 3) := by decide +kernel
theorem dX6_indexOf_17 : decode cX6_indexOf 17 = .ok (.iload_n 3, 1) := by decide +kernel
theorem dX6_indexOf_18 : decode cX6_indexOf 18 = .ok (.aaload, 1) := by decide +kernel
theorem dX6_indexOf_19 : decode cX6_indexOf 19 = .ok (.invokevirtual 39, 3) := by decide +kernel
theorem dX6_indexOf_22 : decode cX6_indexOf 22 = .ok (.ifCond .ne 6, 3) := by decide +kernel
theorem dX6_indexOf_25 : decode cX6_indexOf 25 = .ok (.goto 12, 3) := by decide +kernel
theorem dX6_indexOf_28 : decode cX6_indexOf 28 = .ok (.iload_n 2, 1) := by decide +kernel
theorem dX6_indexOf_29 : decode cX6_indexOf 29 = .ok (.ifCond .ne 5, 3) := by decide +kernel
theorem dX6_indexOf_32 : decode cX6_indexOf 32 = .ok (.iload_n 3, 1) := by decide +kernel
theorem dX6_indexOf_33 : decode cX6_indexOf 33 = .ok (.ireturn, 1) := by decide +kernel
theorem dX6_indexOf_34 : decode cX6_indexOf 34 = .ok (.iinc 2 (-1), 3) := by decide +kernel
theorem dX6_indexOf_37 : decode cX6_indexOf 37 = .ok (.iinc 3 1, 3) := by decide +kernel
theorem dX6_indexOf_40 : decode cX6_indexOf 40 = .ok (.goto (-36), 3) := by decide +kernel
theorem dX6_indexOf_43 : decode cX6_indexOf 43 = .ok (.iconst (-1), 1) := by decide +kernel
theorem dX6_indexOf_44 : decode cX6_indexOf 44 = .ok (.ireturn, 1) := by decide +kernel
set_option maxRecDepth 20000 in
theorem ggX6_choice_X6_places : GoodIn wsX6_choice wsX6_places := goodIn_r _ [15, 7, 1, 16, 2, 17, 18, 19, 14, 20, 21, 22, 23, 24, 25, 26, 27, 28, 29, 50, 51, 52, 53, 54, 55, 56, 57, 58, 59, 60] (by decide +kernel) (by decide +kernel)
set_option maxRecDepth 20000 in
theorem gX6_choice_X6_places : GoodIn wsX6_choice (wsV RX6 62 RX6 yX6_places wsX6_places) := goodIn_app (goodIn_of _ (by decide +kernel)) ggX6_choice_X6_places
set_option maxRecDepth 20000 in
theorem ggX6_choice_X6_pages : GoodIn wsX6_choice wsX6_pages := goodIn_r _ [33, 2, 3, 4, 5, 6, 50, 51, 52, 53, 54] (by decide +kernel) (by decide +kernel)
set_option maxRecDepth 20000 in
theorem gX6_choice_X6_pages : GoodIn wsX6_choice (wsV RX6 66 RX6 yX6_pages wsX6_pages) := goodIn_app (goodIn_of _ (by decide +kernel)) ggX6_choice_X6_pages
set_option maxRecDepth 20000 in
theorem ggX6_choice_X6_standing : GoodIn wsX6_choice wsX6_standing := goodIn_r _ [37, 7, 16, 50, 51, 52, 53, 54, 55, 56, 57, 58, 59, 60] (by decide +kernel) (by decide +kernel)
set_option maxRecDepth 20000 in
theorem gX6_choice_X6_standing : GoodIn wsX6_choice (wsV RX6 70 RX6 yX6_standing wsX6_standing) := goodIn_app (goodIn_of _ (by decide +kernel)) ggX6_choice_X6_standing
set_option maxRecDepth 20000 in
theorem ggX6_choice_X6_number : GoodIn wsX6_choice wsX6_number := goodIn_r _ [41] (by decide +kernel) (by decide +kernel)
set_option maxRecDepth 20000 in
theorem gX6_choice_X6_number : GoodIn wsX6_choice (wsV RX6 74 RX6 yX6_number wsX6_number) := goodIn_app (goodIn_of _ (by decide +kernel)) ggX6_choice_X6_number
set_option maxRecDepth 20000 in
theorem ggX6_choice_X6_different : GoodIn wsX6_choice wsX6_different := goodIn_r _ [45, 7, 23, 24, 25, 26, 27, 28, 29, 50, 51, 52, 53, 54, 55, 56, 57, 58, 59, 60] (by decide +kernel) (by decide +kernel)
set_option maxRecDepth 20000 in
theorem gX6_choice_X6_different : GoodIn wsX6_choice (wsV RX6 77 RX6 yX6_different wsX6_different) := goodIn_app (goodIn_of _ (by decide +kernel)) ggX6_choice_X6_different
set_option maxRecDepth 20000 in
theorem ggX6_choice_X6_indexOf : GoodIn wsX6_choice wsX6_indexOf := goodIn_r _ [49, 7, 23, 24, 25, 26, 27, 28, 29, 50, 51, 52, 53, 54, 55, 56, 57, 58, 59, 60] (by decide +kernel) (by decide +kernel)
set_option maxRecDepth 20000 in
theorem gX6_choice_X6_indexOf : GoodIn wsX6_choice (wsV RX6 81 RX6 yX6_indexOf wsX6_indexOf) := goodIn_app (goodIn_of _ (by decide +kernel)) ggX6_choice_X6_indexOf
theorem dX6_choice_0 : decode cX6_choice 0 = .ok (.aload_n 0, 1) := by decide +kernel
theorem dX6_choice_1 : decode cX6_choice 1 = .ok (.iconst 0, 1) := by decide +kernel
theorem dX6_choice_2 : decode cX6_choice 2 = .ok (.invokevirtual 62, 3) := by decide +kernel
theorem dX6_choice_5 : decode cX6_choice 5 = .ok (.astore_n 2, 1) := by decide +kernel
theorem dX6_choice_6 : decode cX6_choice 6 = .ok (.aload_n 0, 1) := by decide +kernel
theorem dX6_choice_7 : decode cX6_choice 7 = .ok (.iload_n 1, 1) := by decide +kernel
theorem dX6_choice_8 : decode cX6_choice 8 = .ok (.invokevirtual 62, 3) := by decide +kernel
theorem dX6_choice_11 : decode cX6_choice 11 = .ok (.astore_n 3, 1) := by decide +kernel
theorem dX6_choice_12 : decode cX6_choice 12 = .ok (.bipush 7, 2) := by decide +kernel
theorem dX6_choice_14 : decode cX6_choice 14 = .ok (.newarray .int, 2) := by decide +kernel
theorem dX6_choice_16 : decode cX6_choice 16 = .ok (.astore 4, 2) := by decide +kernel
theorem dX6_choice_18 : decode cX6_choice 18 = .ok (.aload_n 0, 1) := by decide +kernel
theorem dX6_choice_19 : decode cX6_choice 19 = .ok (.getfield 7, 3) := by decide +kernel
theorem dX6_choice_22 : decode cX6_choice 22 = .ok (.aload_n 0, 1) := by decide +kernel
theorem dX6_choice_23 : decode cX6_choice 23 = .ok (.aload_n 2, 1) := by decide +kernel
theorem dX6_choice_24 : decode cX6_choice 24 = .ok (.invokevirtual 66, 3) := by decide +kernel
theorem dX6_choice_27 : decode cX6_choice 27 = .ok (.aload_n 0, 1) := by decide +kernel
theorem dX6_choice_28 : decode cX6_choice 28 = .ok (.aload_n 3, 1) := by decide +kernel
theorem dX6_choice_29 : decode cX6_choice 29 = .ok (.invokevirtual 66, 3) := by decide +kernel
theorem dX6_choice_32 : decode cX6_choice 32 = .ok (.invokestatic 56, 3) := by decide +kernel
theorem dX6_choice_35 : decode cX6_choice 35 = .ok (.imul, 1) := by decide +kernel
theorem dX6_choice_36 : decode cX6_choice 36 = .ok (.istore 5, 2) := by decide +kernel
theorem dX6_choice_38 : decode cX6_choice 38 = .ok (.iconst 0, 1) := by decide +kernel
theorem dX6_choice_39 : decode cX6_choice 39 = .ok (.istore 6, 2) := by decide +kernel
theorem dX6_choice_41 : decode cX6_choice 41 = .ok (.iconst 0, 1) := by decide +kernel
theorem dX6_choice_42 : decode cX6_choice 42 = .ok (.istore 7, 2) := by decide +kernel
theorem dX6_choice_44 : decode cX6_choice 44 = .ok (.iconst 0, 1) := by decide +kernel
theorem dX6_choice_45 : decode cX6_choice 45 = .ok (.istore 8, 2) := by decide +kernel
theorem dX6_choice_47 : decode cX6_choice 47 = .ok (.iload 8, 2) := by decide +kernel
theorem dX6_choice_49 : decode cX6_choice 49 = .ok (.iload 5, 2) := by decide +kernel
theorem dX6_choice_51 : decode cX6_choice 51 = .ok (.if_icmp .ge 153, 3) := by decide +kernel
theorem dX6_choice_54 : decode cX6_choice 54 = .ok (.iload 8, 2) := by decide +kernel
theorem dX6_choice_56 : decode cX6_choice 56 = .ok (.aload_n 0, 1) := by decide +kernel
theorem dX6_choice_57 : decode cX6_choice 57 = .ok (.getfield 7, 3) := by decide +kernel
theorem dX6_choice_60 : decode cX6_choice 60 = .ok (.irem, 1) := by decide +kernel
theorem dX6_choice_61 : decode cX6_choice 61 = .ok (.ifCond .ne 6, 3) := by decide +kernel
theorem dX6_choice_64 : decode cX6_choice 64 = .ok (.iconst 0, 1) := by decide +kernel
theorem dX6_choice_65 : decode cX6_choice 65 = .ok (.istore 6, 2) := by decide +kernel
theorem dX6_choice_67 : decode cX6_choice 67 = .ok (.iload 8, 2) := by decide +kernel
theorem dX6_choice_69 : decode cX6_choice 69 = .ok (.iconst 4, 1) := by decide +kernel
theorem dX6_choice_70 : decode cX6_choice 70 = .ok (.aload_n 0, 1) := by decide +kernel
theorem dX6_choice_71 : decode cX6_choice 71 = .ok (.getfield 7, 3) := by decide +kernel
theorem dX6_choice_74 : decode cX6_choice 74 = .ok (.imul, 1) := by decide +kernel
theorem dX6_choice_75 : decode cX6_choice 75 = .ok (.irem, 1) := by decide +kernel
theorem dX6_choice_76 : decode cX6_choice 76 = .ok (.ifCond .ne 6, 3) := by decide +kernel
theorem dX6_choice_79 : decode cX6_choice 79 = .ok (.iconst 0, 1) := by decide +kernel
theorem dX6_choice_80 : decode cX6_choice 80 = .ok (.istore 7, 2) := by decide +kernel
theorem dX6_choice_82 : decode cX6_choice 82 = .ok (.aload_n 0, 1) := by decide +kernel
theorem dX6_choice_83 : decode cX6_choice 83 = .ok (.aload_n 2, 1) := by decide +kernel
theorem dX6_choice_84 : decode cX6_choice 84 = .ok (.iload 8, 2) := by decide +kernel
theorem dX6_choice_86 : decode cX6_choice 86 = .ok (.invokevirtual 70, 3) := by decide +kernel
theorem dX6_choice_89 : decode cX6_choice 89 = .ok (.istore 9, 2) := by decide +kernel
theorem dX6_choice_91 : decode cX6_choice 91 = .ok (.aload_n 0, 1) := by decide +kernel
theorem dX6_choice_92 : decode cX6_choice 92 = .ok (.aload_n 3, 1) := by decide +kernel
theorem dX6_choice_93 : decode cX6_choice 93 = .ok (.iload 8, 2) := by decide +kernel
theorem dX6_choice_95 : decode cX6_choice 95 = .ok (.invokevirtual 70, 3) := by decide +kernel
theorem dX6_choice_98 : decode cX6_choice 98 = .ok (.istore 10, 2) := by decide +kernel
theorem dX6_choice_100 : decode cX6_choice 100 = .ok (.iload 9, 2) := by decide +kernel
theorem dX6_choice_102 : decode cX6_choice 102 = .ok (.iload 10, 2) := by decide +kernel
theorem dX6_choice_104 : decode cX6_choice 104 = .ok (.if_icmp .ne 43, 3) := by decide +kernel
theorem dX6_choice_107 : decode cX6_choice 107 = .ok (.iload 9, 2) := by decide +kernel
theorem dX6_choice_109 : decode cX6_choice 109 = .ok (.ifCond .lt 34, 3) := by decide +kernel
theorem dX6_choice_112 : decode cX6_choice 112 = .ok (.iload 9, 2) := by decide +kernel
theorem dX6_choice_114 : decode cX6_choice 114 = .ok (.bipush 10, 2) := by decide +kernel
theorem dX6_choice_116 : decode cX6_choice 116 = .ok (.irem, 1) := by decide +kernel
theorem dX6_choice_117 : decode cX6_choice 117 = .ok (.ifCond .gt 26, 3) := by decide +kernel
theorem dX6_choice_120 : decode cX6_choice 120 = .ok (.aload_n 0, 1) := by decide +kernel
theorem dX6_choice_121 : decode cX6_choice 121 = .ok (.aload_n 2, 1) := by decide +kernel
theorem dX6_choice_122 : decode cX6_choice 122 = .ok (.iload 9, 2) := by decide +kernel
theorem dX6_choice_124 : decode cX6_choice 124 = .ok (.bipush 10, 2) := by decide +kernel
theorem dX6_choice_126 : decode cX6_choice 126 = .ok (.idiv, 1) := by decide +kernel
theorem dX6_choice_127 : decode cX6_choice 127 = .ok (.invokevirtual 74, 3) := by decide +kernel
theorem dX6_choice_130 : decode cX6_choice 130 = .ok (.aload_n 0, 1) := by decide +kernel
theorem dX6_choice_131 : decode cX6_choice 131 = .ok (.aload_n 3, 1) := by decide +kernel
theorem dX6_choice_132 : decode cX6_choice 132 = .ok (.iload 9, 2) := by decide +kernel
theorem dX6_choice_134 : decode cX6_choice 134 = .ok (.bipush 10, 2) := by decide +kernel
theorem dX6_choice_136 : decode cX6_choice 136 = .ok (.idiv, 1) := by decide +kernel
theorem dX6_choice_137 : decode cX6_choice 137 = .ok (.invokevirtual 74, 3) := by decide +kernel
theorem dX6_choice_140 : decode cX6_choice 140 = .ok (.if_icmp .ne 7, 3) := by decide +kernel
theorem dX6_choice_143 : decode cX6_choice 143 = .ok (.iconst 1, 1) := by decide +kernel
theorem dX6_choice_144 : decode cX6_choice 144 = .ok (.goto 4, 3) := by decide +kernel
theorem dX6_choice_147 : decode cX6_choice 147 = .ok (.iconst 0, 1) := by decide +kernel
theorem dX6_choice_148 : decode cX6_choice 148 = .ok (.istore 11, 2) := by decide +kernel
theorem dX6_choice_150 : decode cX6_choice 150 = .ok (.iload 11, 2) := by decide +kernel
theorem dX6_choice_152 : decode cX6_choice 152 = .ok (.ifCond .eq 6, 3) := by decide +kernel
theorem dX6_choice_155 : decode cX6_choice 155 = .ok (.goto 43, 3) := by decide +kernel
theorem dX6_choice_158 : decode cX6_choice 158 = .ok (.aload 4, 2) := by decide +kernel
theorem dX6_choice_160 : decode cX6_choice 160 = .ok (.iconst 1, 1) := by decide +kernel
theorem dX6_choice_161 : decode cX6_choice 161 = .ok (.dup2, 1) := by decide +kernel
theorem dX6_choice_162 : decode cX6_choice 162 = .ok (.iaload, 1) := by decide +kernel
theorem dX6_choice_163 : decode cX6_choice 163 = .ok (.iconst 1, 1) := by decide +kernel
theorem dX6_choice_164 : decode cX6_choice 164 = .ok (.iadd, 1) := by decide +kernel
theorem dX6_choice_165 : decode cX6_choice 165 = .ok (.iastore, 1) := by decide +kernel
theorem dX6_choice_166 : decode cX6_choice 166 = .ok (.iload 6, 2) := by decide +kernel
theorem dX6_choice_168 : decode cX6_choice 168 = .ok (.ifCond .ne 11, 3) := by decide +kernel
theorem dX6_choice_171 : decode cX6_choice 171 = .ok (.aload 4, 2) := by decide +kernel
theorem dX6_choice_173 : decode cX6_choice 173 = .ok (.iconst 2, 1) := by decide +kernel
theorem dX6_choice_174 : decode cX6_choice 174 = .ok (.dup2, 1) := by decide +kernel
theorem dX6_choice_175 : decode cX6_choice 175 = .ok (.iaload, 1) := by decide +kernel
theorem dX6_choice_176 : decode cX6_choice 176 = .ok (.iconst 1, 1) := by decide +kernel
theorem dX6_choice_177 : decode cX6_choice 177 = .ok (.iadd, 1) := by decide +kernel
theorem dX6_choice_178 : decode cX6_choice 178 = .ok (.iastore, 1) := by decide +kernel
theorem dX6_choice_179 : decode cX6_choice 179 = .ok (.iload 7, 2) := by decide +kernel
theorem dX6_choice_181 : decode cX6_choice 181 = .ok (.ifCond .ne 11, 3) := by decide +kernel
theorem dX6_choice_184 : decode cX6_choice 184 = .ok (.aload 4, 2) := by decide +kernel
theorem dX6_choice_186 : decode cX6_choice 186 = .ok (.iconst 3, 1) := by decide +kernel
theorem dX6_choice_187 : decode cX6_choice 187 = .ok (.dup2, 1) := by decide +kernel
theorem dX6_choice_188 : decode cX6_choice 188 = .ok (.iaload, 1) := by decide +kernel
theorem dX6_choice_189 : decode cX6_choice 189 = .ok (.iconst 1, 1) := by decide +kernel
theorem dX6_choice_190 : decode cX6_choice 190 = .ok (.iadd, 1) := by decide +kernel
theorem dX6_choice_191 : decode cX6_choice 191 = .ok (.iastore, 1) := by decide +kernel
theorem dX6_choice_192 : decode cX6_choice 192 = .ok (.iconst 1, 1) := by decide +kernel
theorem dX6_choice_193 : decode cX6_choice 193 = .ok (.istore 6, 2) := by decide +kernel
theorem dX6_choice_195 : decode cX6_choice 195 = .ok (.iconst 1, 1) := by decide +kernel
theorem dX6_choice_196 : decode cX6_choice 196 = .ok (.istore 7, 2) := by decide +kernel
theorem dX6_choice_198 : decode cX6_choice 198 = .ok (.iinc 8 1, 3) := by decide +kernel
theorem dX6_choice_201 : decode cX6_choice 201 = .ok (.goto (-154), 3) := by decide +kernel
theorem dX6_choice_204 : decode cX6_choice 204 = .ok (.iconst 0, 1) := by decide +kernel
theorem dX6_choice_205 : decode cX6_choice 205 = .ok (.istore 8, 2) := by decide +kernel
theorem dX6_choice_207 : decode cX6_choice 207 = .ok (.iload 8, 2) := by decide +kernel
theorem dX6_choice_209 : decode cX6_choice 209 = .ok (.aload_n 0, 1) := by decide +kernel
theorem dX6_choice_210 : decode cX6_choice 210 = .ok (.invokevirtual 77, 3) := by decide +kernel
theorem dX6_choice_213 : decode cX6_choice 213 = .ok (.if_icmp .ge 43, 3) := by decide +kernel
theorem dX6_choice_216 : decode cX6_choice 216 = .ok (.iload_n 1, 1) := by decide +kernel
theorem dX6_choice_217 : decode cX6_choice 217 = .ok (.iload 8, 2) := by decide +kernel
theorem dX6_choice_219 : decode cX6_choice 219 = .ok (.ishr, 1) := by decide +kernel
theorem dX6_choice_220 : decode cX6_choice 220 = .ok (.iconst 1, 1) := by decide +kernel
theorem dX6_choice_221 : decode cX6_choice 221 = .ok (.iand, 1) := by decide +kernel
theorem dX6_choice_222 : decode cX6_choice 222 = .ok (.ifCond .ne 28, 3) := by decide +kernel
theorem dX6_choice_225 : decode cX6_choice 225 = .ok (.aload_n 0, 1) := by decide +kernel
theorem dX6_choice_226 : decode cX6_choice 226 = .ok (.getfield 22, 3) := by decide +kernel
theorem dX6_choice_229 : decode cX6_choice 229 = .ok (.aload_n 0, 1) := by decide +kernel
theorem dX6_choice_230 : decode cX6_choice 230 = .ok (.iload 8, 2) := by decide +kernel
theorem dX6_choice_232 : decode cX6_choice 232 = .ok (.invokevirtual 81, 3) := by decide +kernel
theorem dX6_choice_235 : decode cX6_choice 235 = .ok (.aaload, 1) := by decide +kernel
theorem dX6_choice_236 : decode cX6_choice 236 = .ok (.getfield 85, 3) := by decide +kernel
theorem dX6_choice_239 : decode cX6_choice 239 = .ok (.ifCond .ne 11, 3) := by decide +kernel
theorem dX6_choice_242 : decode cX6_choice 242 = .ok (.aload 4, 2) := by decide +kernel
theorem dX6_choice_244 : decode cX6_choice 244 = .ok (.iconst 5, 1) := by decide +kernel
theorem dX6_choice_245 : decode cX6_choice 245 = .ok (.dup2, 1) := by decide +kernel
theorem dX6_choice_246 : decode cX6_choice 246 = .ok (.iaload, 1) := by decide +kernel
theorem dX6_choice_247 : decode cX6_choice 247 = .ok (.iconst 1, 1) := by decide +kernel
theorem dX6_choice_248 : decode cX6_choice 248 = .ok (.iadd, 1) := by decide +kernel
theorem dX6_choice_249 : decode cX6_choice 249 = .ok (.iastore, 1) := by decide +kernel
theorem dX6_choice_250 : decode cX6_choice 250 = .ok (.iinc 8 1, 3) := by decide +kernel
theorem dX6_choice_253 : decode cX6_choice 253 = .ok (.goto (-46), 3) := by decide +kernel
theorem dX6_choice_256 : decode cX6_choice 256 = .ok (.aload 4, 2) := by decide +kernel
theorem dX6_choice_258 : decode cX6_choice 258 = .ok (.iconst 4, 1) := by decide +kernel
theorem dX6_choice_259 : decode cX6_choice 259 = .ok (.aload 4, 2) := by decide +kernel
theorem dX6_choice_261 : decode cX6_choice 261 = .ok (.iconst 5, 1) := by decide +kernel
theorem dX6_choice_262 : decode cX6_choice 262 = .ok (.iaload, 1) := by decide +kernel
theorem dX6_choice_263 : decode cX6_choice 263 = .ok (.aload_n 0, 1) := by decide +kernel
theorem dX6_choice_264 : decode cX6_choice 264 = .ok (.getfield 13, 3) := by decide +kernel
theorem dX6_choice_267 : decode cX6_choice 267 = .ok (.idiv, 1) := by decide +kernel
theorem dX6_choice_268 : decode cX6_choice 268 = .ok (.aload 4, 2) := by decide +kernel
theorem dX6_choice_270 : decode cX6_choice 270 = .ok (.iconst 5, 1) := by decide +kernel
theorem dX6_choice_271 : decode cX6_choice 271 = .ok (.iaload, 1) := by decide +kernel
theorem dX6_choice_272 : decode cX6_choice 272 = .ok (.aload_n 0, 1) := by decide +kernel
theorem dX6_choice_273 : decode cX6_choice 273 = .ok (.getfield 13, 3) := by decide +kernel
theorem dX6_choice_276 : decode cX6_choice 276 = .ok (.irem, 1) := by decide +kernel
theorem dX6_choice_277 : decode cX6_choice 277 = .ok (.ifCond .le 7, 3) := by decide +kernel
theorem dX6_choice_280 : decode cX6_choice 280 = .ok (.iconst 1, 1) := by decide +kernel
theorem dX6_choice_281 : decode cX6_choice 281 = .ok (.goto 4, 3) := by decide +kernel
theorem dX6_choice_284 : decode cX6_choice 284 = .ok (.iconst 0, 1) := by decide +kernel
theorem dX6_choice_285 : decode cX6_choice 285 = .ok (.iadd, 1) := by decide +kernel
theorem dX6_choice_286 : decode cX6_choice 286 = .ok (.iastore, 1) := by decide +kernel
theorem dX6_choice_287 : decode cX6_choice 287 = .ok (.aload 4, 2) := by decide +kernel
theorem dX6_choice_289 : decode cX6_choice 289 = .ok (.bipush 6, 2) := by decide +kernel
theorem dX6_choice_291 : decode cX6_choice 291 = .ok (.aload_n 0, 1) := by decide +kernel
theorem dX6_choice_292 : decode cX6_choice 292 = .ok (.aload_n 3, 1) := by decide +kernel
theorem dX6_choice_293 : decode cX6_choice 293 = .ok (.invokevirtual 66, 3) := by decide +kernel
theorem dX6_choice_296 : decode cX6_choice 296 = .ok (.iastore, 1) := by decide +kernel
theorem dX6_choice_297 : decode cX6_choice 297 = .ok (.iconst 0, 1) := by decide +kernel
theorem dX6_choice_298 : decode cX6_choice 298 = .ok (.istore 8, 2) := by decide +kernel
theorem dX6_choice_300 : decode cX6_choice 300 = .ok (.iload 8, 2) := by decide +kernel
theorem dX6_choice_302 : decode cX6_choice 302 = .ok (.iconst 5, 1) := by decide +kernel
theorem dX6_choice_303 : decode cX6_choice 303 = .ok (.if_icmp .ge 31, 3) := by decide +kernel
theorem dX6_choice_306 : decode cX6_choice 306 = .ok (.aload 4, 2) := by decide +kernel
theorem dX6_choice_308 : decode cX6_choice 308 = .ok (.iconst 0, 1) := by decide +kernel
theorem dX6_choice_309 : decode cX6_choice 309 = .ok (.dup2, 1) := by decide +kernel
theorem dX6_choice_310 : decode cX6_choice 310 = .ok (.iaload, 1) := by decide +kernel
theorem dX6_choice_311 : decode cX6_choice 311 = .ok (.aload 4, 2) := by decide +kernel
theorem dX6_choice_313 : decode cX6_choice 313 = .ok (.iload 8, 2) := by decide +kernel
theorem dX6_choice_315 : decode cX6_choice 315 = .ok (.iconst 1, 1) := by decide +kernel
theorem dX6_choice_316 : decode cX6_choice 316 = .ok (.iadd, 1) := by decide +kernel
theorem dX6_choice_317 : decode cX6_choice 317 = .ok (.iaload, 1) := by decide +kernel
theorem dX6_choice_318 : decode cX6_choice 318 = .ok (.aload_n 0, 1) := by decide +kernel
theorem dX6_choice_319 : decode cX6_choice 319 = .ok (.getfield 16, 3) := by decide +kernel
theorem dX6_choice_322 : decode cX6_choice 322 = .ok (.iload 8, 2) := by decide +kernel
theorem dX6_choice_324 : decode cX6_choice 324 = .ok (.iaload, 1) := by decide +kernel
theorem dX6_choice_325 : decode cX6_choice 325 = .ok (.imul, 1) := by decide +kernel
theorem dX6_choice_326 : decode cX6_choice 326 = .ok (.iadd, 1) := by decide +kernel
theorem dX6_choice_327 : decode cX6_choice 327 = .ok (.iastore, 1) := by decide +kernel
theorem dX6_choice_328 : decode cX6_choice 328 = .ok (.iinc 8 1, 3) := by decide +kernel
theorem dX6_choice_331 : decode cX6_choice 331 = .ok (.goto (-31), 3) := by decide +kernel
theorem dX6_choice_334 : decode cX6_choice 334 = .ok (.aload 4, 2) := by decide +kernel
theorem dX6_choice_336 : decode cX6_choice 336 = .ok (.areturn, 1) := by decide +kernel
set_option maxRecDepth 20000 in
theorem ggX6_best_X6_different : GoodIn wsX6_best wsX6_different := goodIn_r _ [5, 6, 7, 8, 9, 10, 11, 12, 13, 54, 55, 56, 57, 58, 59, 60, 61, 62, 63, 64] (by decide +kernel) (by decide +kernel)
set_option maxRecDepth 20000 in
theorem gX6_best_X6_different : GoodIn wsX6_best (wsV RX6 77 RX6 yX6_different wsX6_different) := goodIn_app (goodIn_of _ (by decide +kernel)) ggX6_best_X6_different
set_option maxRecDepth 20000 in
theorem ggX6_best_X6_choice : GoodIn wsX6_best wsX6_choice := goodIn_r _ [17, 18, 19, 20, 21, 22, 23, 6, 24, 25, 26, 27, 28, 29, 4, 30, 31, 32, 33, 34, 35, 36, 37, 7, 8, 9, 10, 11, 12, 13, 38, 39, 40, 41, 42, 43, 44, 45, 46, 47, 48, 49, 1, 2, 3, 5, 50, 51, 52, 53, 54, 55, 56, 57, 58, 59, 60, 61, 62, 63, 64] (by decide +kernel) (by decide +kernel)
set_option maxRecDepth 20000 in
theorem gX6_best_X6_choice : GoodIn wsX6_best (wsV RX6 88 RX6 yX6_choice wsX6_choice) := goodIn_app (goodIn_of _ (by decide +kernel)) ggX6_best_X6_choice
theorem dX6_best_0 : decode cX6_best 0 = .ok (.iconst (-1), 1) := by decide +kernel
theorem dX6_best_1 : decode cX6_best 1 = .ok (.istore_n 3, 1) := by decide +kernel
theorem dX6_best_2 : decode cX6_best 2 = .ok (.iconst 0, 1) := by decide +kernel
theorem dX6_best_3 : decode cX6_best 3 = .ok (.istore 4, 2) := by decide +kernel
theorem dX6_best_5 : decode cX6_best 5 = .ok (.iconst 0, 1) := by decide +kernel
theorem dX6_best_6 : decode cX6_best 6 = .ok (.istore 5, 2) := by decide +kernel
theorem dX6_best_8 : decode cX6_best 8 = .ok (.iload 5, 2) := by decide +kernel
theorem dX6_best_10 : decode cX6_best 10 = .ok (.iconst 1, 1) := by decide +kernel
theorem dX6_best_11 : decode cX6_best 11 = .ok (.aload_n 0, 1) := by decide +kernel
theorem dX6_best_12 : decode cX6_best 12 = .ok (.invokevirtual 77, 3) := by decide +kernel
theorem dX6_best_15 : decode cX6_best 15 = .ok (.ishl, 1) := by decide +kernel
theorem dX6_best_16 : decode cX6_best 16 = .ok (.if_icmp .ge 57, 3) := by decide +kernel
theorem dX6_best_19 : decode cX6_best 19 = .ok (.iload_n 2, 1) := by decide +kernel
theorem dX6_best_20 : decode cX6_best 20 = .ok (.ifCond .lt 16, 3) := by decide +kernel
theorem dX6_best_23 : decode cX6_best 23 = .ok (.iload 5, 2) := by decide +kernel
theorem dX6_best_25 : decode cX6_best 25 = .ok (.iload_n 1, 1) := by decide +kernel
theorem dX6_best_26 : decode cX6_best 26 = .ok (.ishr, 1) := by decide +kernel
theorem dX6_best_27 : decode cX6_best 27 = .ok (.iconst 1, 1) := by decide +kernel
theorem dX6_best_28 : decode cX6_best 28 = .ok (.iand, 1) := by decide +kernel
theorem dX6_best_29 : decode cX6_best 29 = .ok (.iload_n 2, 1) := by decide +kernel
theorem dX6_best_30 : decode cX6_best 30 = .ok (.if_icmp .eq 6, 3) := by decide +kernel
theorem dX6_best_33 : decode cX6_best 33 = .ok (.goto 34, 3) := by decide +kernel
theorem dX6_best_36 : decode cX6_best 36 = .ok (.aload_n 0, 1) := by decide +kernel
theorem dX6_best_37 : decode cX6_best 37 = .ok (.iload 5, 2) := by decide +kernel
theorem dX6_best_39 : decode cX6_best 39 = .ok (.invokevirtual 88, 3) := by decide +kernel
theorem dX6_best_42 : decode cX6_best 42 = .ok (.iconst 0, 1) := by decide +kernel
theorem dX6_best_43 : decode cX6_best 43 = .ok (.iaload, 1) := by decide +kernel
theorem dX6_best_44 : decode cX6_best 44 = .ok (.istore 6, 2) := by decide +kernel
theorem dX6_best_46 : decode cX6_best 46 = .ok (.iload_n 3, 1) := by decide +kernel
theorem dX6_best_47 : decode cX6_best 47 = .ok (.ifCond .lt 13, 3) := by decide +kernel
theorem dX6_best_50 : decode cX6_best 50 = .ok (.iload 6, 2) := by decide +kernel
theorem dX6_best_52 : decode cX6_best 52 = .ok (.iload 4, 2) := by decide +kernel
theorem dX6_best_54 : decode cX6_best 54 = .ok (.if_icmp .lt 6, 3) := by decide +kernel
theorem dX6_best_57 : decode cX6_best 57 = .ok (.goto 10, 3) := by decide +kernel
theorem dX6_best_60 : decode cX6_best 60 = .ok (.iload 5, 2) := by decide +kernel
theorem dX6_best_62 : decode cX6_best 62 = .ok (.istore_n 3, 1) := by decide +kernel
theorem dX6_best_63 : decode cX6_best 63 = .ok (.iload 6, 2) := by decide +kernel
theorem dX6_best_65 : decode cX6_best 65 = .ok (.istore 4, 2) := by decide +kernel
theorem dX6_best_67 : decode cX6_best 67 = .ok (.iinc 5 1, 3) := by decide +kernel
theorem dX6_best_70 : decode cX6_best 70 = .ok (.goto (-62), 3) := by decide +kernel
theorem dX6_best_73 : decode cX6_best 73 = .ok (.iload_n 3, 1) := by decide +kernel
theorem dX6_best_74 : decode cX6_best 74 = .ok (.ireturn, 1) := by decide +kernel
set_option maxRecDepth 20000 in
theorem ggX6_carries_X6_choice : GoodIn wsX6_carries wsX6_choice := goodIn_r _ [11, 1, 12, 13, 14, 15, 16, 2, 5, 17, 18, 19, 20, 21, 10, 22, 23, 24, 25, 26, 27, 3, 4, 28, 29, 30, 31, 32, 33, 34, 35, 36, 37, 38, 39, 40, 41, 42, 43, 44, 45, 46, 47, 48, 49, 50, 51, 52, 53, 54, 55, 56, 57, 58, 59, 60, 61, 62, 63, 64, 65] (by decide +kernel) (by decide +kernel)
set_option maxRecDepth 20000 in
theorem gX6_carries_X6_choice : GoodIn wsX6_carries (wsV RX6 88 RX6 yX6_choice wsX6_choice) := goodIn_app (goodIn_of _ (by decide +kernel)) ggX6_carries_X6_choice
set_option maxRecDepth 20000 in
theorem ggX6_carries_X6_different : GoodIn wsX6_carries wsX6_different := goodIn_r _ [50, 2, 28, 29, 30, 31, 32, 33, 34, 55, 56, 57, 58, 59, 60, 61, 62, 63, 64, 65] (by decide +kernel) (by decide +kernel)
set_option maxRecDepth 20000 in
theorem gX6_carries_X6_different : GoodIn wsX6_carries (wsV RX6 77 RX6 yX6_different wsX6_different) := goodIn_app (goodIn_of _ (by decide +kernel)) ggX6_carries_X6_different
set_option maxRecDepth 20000 in
theorem ggX6_carries_X6_indexOf : GoodIn wsX6_carries wsX6_indexOf := goodIn_r _ [54, 2, 28, 29, 30, 31, 32, 33, 34, 55, 56, 57, 58, 59, 60, 61, 62, 63, 64, 65] (by decide +kernel) (by decide +kernel)
set_option maxRecDepth 20000 in
theorem gX6_carries_X6_indexOf : GoodIn wsX6_carries (wsV RX6 81 RX6 yX6_indexOf wsX6_indexOf) := goodIn_app (goodIn_of _ (by decide +kernel)) ggX6_carries_X6_indexOf
set_option maxRecDepth 20000 in
theorem ggX6_carries_X7_differs : GoodIn wsX6_carries wsX7_differs := goodIn_r _ [32, 33, 34, 60, 61, 62, 63, 64, 65] (by decide +kernel) (by decide +kernel)
set_option maxRecDepth 20000 in
theorem gX6_carries_X7_differs : GoodIn wsX6_carries (wsV RX6 39 RX7 yX7_differs wsX7_differs) := goodIn_app (goodIn_of _ (by decide +kernel)) ggX6_carries_X7_differs
theorem dX6_carries_0 : decode cX6_carries 0 = .ok (.aload_n 0, 1) := by decide +kernel
theorem dX6_carries_1 : decode cX6_carries 1 = .ok (.iload_n 1, 1) := by decide +kernel
theorem dX6_carries_2 : decode cX6_carries 2 = .ok (.invokevirtual 88, 3) := by decide +kernel
theorem dX6_carries_5 : decode cX6_carries 5 = .ok (.iconst 0, 1) := by decide +kernel
theorem dX6_carries_6 : decode cX6_carries 6 = .ok (.iaload, 1) := by decide +kernel
theorem dX6_carries_7 : decode cX6_carries 7 = .ok (.istore_n 2, 1) := by decide +kernel
theorem dX6_carries_8 : decode cX6_carries 8 = .ok (.aload_n 0, 1) := by decide +kernel
theorem dX6_carries_9 : decode cX6_carries 9 = .ok (.invokevirtual 77, 3) := by decide +kernel
theorem dX6_carries_12 : decode cX6_carries 12 = .ok (.istore_n 3, 1) := by decide +kernel
theorem dX6_carries_13 : decode cX6_carries 13 = .ok (.iload_n 3, 1) := by decide +kernel
theorem dX6_carries_14 : decode cX6_carries 14 = .ok (.newarray .int, 2) := by decide +kernel
theorem dX6_carries_16 : decode cX6_carries 16 = .ok (.astore 4, 2) := by decide +kernel
theorem dX6_carries_18 : decode cX6_carries 18 = .ok (.iconst 0, 1) := by decide +kernel
theorem dX6_carries_19 : decode cX6_carries 19 = .ok (.istore 5, 2) := by decide +kernel
theorem dX6_carries_21 : decode cX6_carries 21 = .ok (.iload 5, 2) := by decide +kernel
theorem dX6_carries_23 : decode cX6_carries 23 = .ok (.iload_n 3, 1) := by decide +kernel
theorem dX6_carries_24 : decode cX6_carries 24 = .ok (.if_icmp .ge 20, 3) := by decide +kernel
theorem dX6_carries_27 : decode cX6_carries 27 = .ok (.aload 4, 2) := by decide +kernel
theorem dX6_carries_29 : decode cX6_carries 29 = .ok (.iload 5, 2) := by decide +kernel
theorem dX6_carries_31 : decode cX6_carries 31 = .ok (.aload_n 0, 1) := by decide +kernel
theorem dX6_carries_32 : decode cX6_carries 32 = .ok (.iload 5, 2) := by decide +kernel
theorem dX6_carries_34 : decode cX6_carries 34 = .ok (.invokevirtual 81, 3) := by decide +kernel
theorem dX6_carries_37 : decode cX6_carries 37 = .ok (.iastore, 1) := by decide +kernel
theorem dX6_carries_38 : decode cX6_carries 38 = .ok (.iinc 5 1, 3) := by decide +kernel
theorem dX6_carries_41 : decode cX6_carries 41 = .ok (.goto (-20), 3) := by decide +kernel
theorem dX6_carries_44 : decode cX6_carries 44 = .ok (.iconst 0, 1) := by decide +kernel
theorem dX6_carries_45 : decode cX6_carries 45 = .ok (.istore 5, 2) := by decide +kernel
theorem dX6_carries_47 : decode cX6_carries 47 = .ok (.iload 5, 2) := by decide +kernel
theorem dX6_carries_49 : decode cX6_carries 49 = .ok (.iload_n 3, 1) := by decide +kernel
theorem dX6_carries_50 : decode cX6_carries 50 = .ok (.if_icmp .ge 51, 3) := by decide +kernel
theorem dX6_carries_53 : decode cX6_carries 53 = .ok (.aload_n 0, 1) := by decide +kernel
theorem dX6_carries_54 : decode cX6_carries 54 = .ok (.getfield 22, 3) := by decide +kernel
theorem dX6_carries_57 : decode cX6_carries 57 = .ok (.aload 4, 2) := by decide +kernel
theorem dX6_carries_59 : decode cX6_carries 59 = .ok (.iload 5, 2) := by decide +kernel
theorem dX6_carries_61 : decode cX6_carries 61 = .ok (.iaload, 1) := by decide +kernel
theorem dX6_carries_62 : decode cX6_carries 62 = .ok (.aaload, 1) := by decide +kernel
theorem dX6_carries_63 : decode cX6_carries 63 = .ok (.astore 6, 2) := by decide +kernel
theorem dX6_carries_65 : decode cX6_carries 65 = .ok (.iload_n 1, 1) := by decide +kernel
theorem dX6_carries_66 : decode cX6_carries 66 = .ok (.iload 5, 2) := by decide +kernel
theorem dX6_carries_68 : decode cX6_carries 68 = .ok (.ishr, 1) := by decide +kernel
theorem dX6_carries_69 : decode cX6_carries 69 = .ok (.iconst 1, 1) := by decide +kernel
theorem dX6_carries_70 : decode cX6_carries 70 = .ok (.iand, 1) := by decide +kernel
theorem dX6_carries_71 : decode cX6_carries 71 = .ok (.iconst 1, 1) := by decide +kernel
theorem dX6_carries_72 : decode cX6_carries 72 = .ok (.if_icmp .ne 13, 3) := by decide +kernel
theorem dX6_carries_75 : decode cX6_carries 75 = .ok (.aload 6, 2) := by decide +kernel
theorem dX6_carries_77 : decode cX6_carries 77 = .ok (.aload 6, 2) := by decide +kernel
theorem dX6_carries_79 : decode cX6_carries 79 = .ok (.getfield 43, 3) := by decide +kernel
theorem dX6_carries_82 : decode cX6_carries 82 = .ok (.putfield 47, 3) := by decide +kernel
theorem dX6_carries_85 : decode cX6_carries 85 = .ok (.aload 6, 2) := by decide +kernel
theorem dX6_carries_87 : decode cX6_carries 87 = .ok (.aload 6, 2) := by decide +kernel
theorem dX6_carries_89 : decode cX6_carries 89 = .ok (.invokevirtual 39, 3) := by decide +kernel
theorem dX6_carries_92 : decode cX6_carries 92 = .ok (.putfield 85, 3) := by decide +kernel
theorem dX6_carries_95 : decode cX6_carries 95 = .ok (.iinc 5 1, 3) := by decide +kernel
theorem dX6_carries_98 : decode cX6_carries 98 = .ok (.goto (-51), 3) := by decide +kernel
theorem dX6_carries_101 : decode cX6_carries 101 = .ok (.aload_n 0, 1) := by decide +kernel
theorem dX6_carries_102 : decode cX6_carries 102 = .ok (.dup, 1) := by decide +kernel
theorem dX6_carries_103 : decode cX6_carries 103 = .ok (.getfield 27, 3) := by decide +kernel
theorem dX6_carries_106 : decode cX6_carries 106 = .ok (.iload_n 2, 1) := by decide +kernel
theorem dX6_carries_107 : decode cX6_carries 107 = .ok (.iadd, 1) := by decide +kernel
theorem dX6_carries_108 : decode cX6_carries 108 = .ok (.putfield 27, 3) := by decide +kernel
theorem dX6_carries_111 : decode cX6_carries 111 = .ok (.iload_n 2, 1) := by decide +kernel
theorem dX6_carries_112 : decode cX6_carries 112 = .ok (.ireturn, 1) := by decide +kernel
theorem dX6_ofPage_0 : decode cX6_ofPage 0 = .ok (.iconst 0, 1) := by decide +kernel
theorem dX6_ofPage_1 : decode cX6_ofPage 1 = .ok (.istore 4, 2) := by decide +kernel
theorem dX6_ofPage_3 : decode cX6_ofPage 3 = .ok (.iconst (-1), 1) := by decide +kernel
theorem dX6_ofPage_4 : decode cX6_ofPage 4 = .ok (.istore 5, 2) := by decide +kernel
theorem dX6_ofPage_6 : decode cX6_ofPage 6 = .ok (.aload_n 0, 1) := by decide +kernel
theorem dX6_ofPage_7 : decode cX6_ofPage 7 = .ok (.getfield 7, 3) := by decide +kernel
theorem dX6_ofPage_10 : decode cX6_ofPage 10 = .ok (.istore 6, 2) := by decide +kernel
theorem dX6_ofPage_12 : decode cX6_ofPage 12 = .ok (.iconst 0, 1) := by decide +kernel
theorem dX6_ofPage_13 : decode cX6_ofPage 13 = .ok (.istore 7, 2) := by decide +kernel
theorem dX6_ofPage_15 : decode cX6_ofPage 15 = .ok (.iconst 0, 1) := by decide +kernel
theorem dX6_ofPage_16 : decode cX6_ofPage 16 = .ok (.istore 8, 2) := by decide +kernel
theorem dX6_ofPage_18 : decode cX6_ofPage 18 = .ok (.iload 8, 2) := by decide +kernel
theorem dX6_ofPage_20 : decode cX6_ofPage 20 = .ok (.aload_n 0, 1) := by decide +kernel
theorem dX6_ofPage_21 : decode cX6_ofPage 21 = .ok (.getfield 22, 3) := by decide +kernel
theorem dX6_ofPage_24 : decode cX6_ofPage 24 = .ok (.arraylength, 1) := by decide +kernel
theorem dX6_ofPage_25 : decode cX6_ofPage 25 = .ok (.if_icmp .ge 91, 3) := by decide +kernel
theorem dX6_ofPage_28 : decode cX6_ofPage 28 = .ok (.aload_n 1, 1) := by decide +kernel
theorem dX6_ofPage_29 : decode cX6_ofPage 29 = .ok (.iload 8, 2) := by decide +kernel
theorem dX6_ofPage_31 : decode cX6_ofPage 31 = .ok (.iaload, 1) := by decide +kernel
theorem dX6_ofPage_32 : decode cX6_ofPage 32 = .ok (.ifCond .lt 78, 3) := by decide +kernel
theorem dX6_ofPage_35 : decode cX6_ofPage 35 = .ok (.aload_n 1, 1) := by decide +kernel
theorem dX6_ofPage_36 : decode cX6_ofPage 36 = .ok (.iload 8, 2) := by decide +kernel
theorem dX6_ofPage_38 : decode cX6_ofPage 38 = .ok (.iaload, 1) := by decide +kernel
theorem dX6_ofPage_39 : decode cX6_ofPage 39 = .ok (.aload_n 0, 1) := by decide +kernel
theorem dX6_ofPage_40 : decode cX6_ofPage 40 = .ok (.getfield 7, 3) := by decide +kernel
theorem dX6_ofPage_43 : decode cX6_ofPage 43 = .ok (.idiv, 1) := by decide +kernel
theorem dX6_ofPage_44 : decode cX6_ofPage 44 = .ok (.iload_n 2, 1) := by decide +kernel
theorem dX6_ofPage_45 : decode cX6_ofPage 45 = .ok (.if_icmp .eq 6, 3) := by decide +kernel
theorem dX6_ofPage_48 : decode cX6_ofPage 48 = .ok (.goto 62, 3) := by decide +kernel
theorem dX6_ofPage_51 : decode cX6_ofPage 51 = .ok (.iload 5, 2) := by decide +kernel
theorem dX6_ofPage_53 : decode cX6_ofPage 53 = .ok (.ifCond .ge 7, 3) := by decide +kernel
theorem dX6_ofPage_56 : decode cX6_ofPage 56 = .ok (.iload 8, 2) := by decide +kernel
theorem dX6_ofPage_58 : decode cX6_ofPage 58 = .ok (.istore 5, 2) := by decide +kernel
theorem dX6_ofPage_60 : decode cX6_ofPage 60 = .ok (.iinc 4 1, 3) := by decide +kernel
theorem dX6_ofPage_63 : decode cX6_ofPage 63 = .ok (.iload 6, 2) := by decide +kernel
theorem dX6_ofPage_65 : decode cX6_ofPage 65 = .ok (.aload_n 0, 1) := by decide +kernel
theorem dX6_ofPage_66 : decode cX6_ofPage 66 = .ok (.getfield 22, 3) := by decide +kernel
theorem dX6_ofPage_69 : decode cX6_ofPage 69 = .ok (.iload 8, 2) := by decide +kernel
theorem dX6_ofPage_71 : decode cX6_ofPage 71 = .ok (.aaload, 1) := by decide +kernel
theorem dX6_ofPage_72 : decode cX6_ofPage 72 = .ok (.getfield 53, 3) := by decide +kernel
theorem dX6_ofPage_75 : decode cX6_ofPage 75 = .ok (.isub, 1) := by decide +kernel
theorem dX6_ofPage_76 : decode cX6_ofPage 76 = .ok (.istore 6, 2) := by decide +kernel
theorem dX6_ofPage_78 : decode cX6_ofPage 78 = .ok (.iload 7, 2) := by decide +kernel
theorem dX6_ofPage_80 : decode cX6_ofPage 80 = .ok (.aload_n 0, 1) := by decide +kernel
theorem dX6_ofPage_81 : decode cX6_ofPage 81 = .ok (.getfield 22, 3) := by decide +kernel
theorem dX6_ofPage_84 : decode cX6_ofPage 84 = .ok (.iload 8, 2) := by decide +kernel
theorem dX6_ofPage_86 : decode cX6_ofPage 86 = .ok (.aaload, 1) := by decide +kernel
theorem dX6_ofPage_87 : decode cX6_ofPage 87 = .ok (.getfield 43, 3) := by decide +kernel
theorem dX6_ofPage_90 : decode cX6_ofPage 90 = .ok (.ifCond .eq 16, 3) := by decide +kernel
theorem dX6_ofPage_93 : decode cX6_ofPage 93 = .ok (.aload_n 0, 1) := by decide +kernel
theorem dX6_ofPage_94 : decode cX6_ofPage 94 = .ok (.getfield 22, 3) := by decide +kernel
theorem dX6_ofPage_97 : decode cX6_ofPage 97 = .ok (.iload 8, 2) := by decide +kernel
theorem dX6_ofPage_99 : decode cX6_ofPage 99 = .ok (.aaload, 1) := by decide +kernel
theorem dX6_ofPage_100 : decode cX6_ofPage 100 = .ok (.getfield 91, 3) := by decide +kernel
theorem dX6_ofPage_103 : decode cX6_ofPage 103 = .ok (.goto 4, 3) := by decide +kernel
theorem dX6_ofPage_106 : decode cX6_ofPage 106 = .ok (.iconst 0, 1) := by decide +kernel
theorem dX6_ofPage_107 : decode cX6_ofPage 107 = .ok (.iadd, 1) := by decide +kernel
theorem dX6_ofPage_108 : decode cX6_ofPage 108 = .ok (.istore 7, 2) := by decide +kernel
theorem dX6_ofPage_110 : decode cX6_ofPage 110 = .ok (.iinc 8 1, 3) := by decide +kernel
theorem dX6_ofPage_113 : decode cX6_ofPage 113 = .ok (.goto (-95), 3) := by decide +kernel
theorem dX6_ofPage_116 : decode cX6_ofPage 116 = .ok (.iload_n 3, 1) := by decide +kernel
theorem dX6_ofPage_117 : decode cX6_ofPage 117 = .ok (.ifCond .ne 8, 3) := by decide +kernel
theorem dX6_ofPage_120 : decode cX6_ofPage 120 = .ok (.iload 4, 2) := by decide +kernel
theorem dX6_ofPage_122 : decode cX6_ofPage 122 = .ok (.goto 25, 3) := by decide +kernel
theorem dX6_ofPage_125 : decode cX6_ofPage 125 = .ok (.iload_n 3, 1) := by decide +kernel
theorem dX6_ofPage_126 : decode cX6_ofPage 126 = .ok (.iconst 1, 1) := by decide +kernel
theorem dX6_ofPage_127 : decode cX6_ofPage 127 = .ok (.if_icmp .ne 8, 3) := by decide +kernel
theorem dX6_ofPage_130 : decode cX6_ofPage 130 = .ok (.iload 5, 2) := by decide +kernel
theorem dX6_ofPage_132 : decode cX6_ofPage 132 = .ok (.goto 15, 3) := by decide +kernel
theorem dX6_ofPage_135 : decode cX6_ofPage 135 = .ok (.iload_n 3, 1) := by decide +kernel
theorem dX6_ofPage_136 : decode cX6_ofPage 136 = .ok (.iconst 2, 1) := by decide +kernel
theorem dX6_ofPage_137 : decode cX6_ofPage 137 = .ok (.if_icmp .ne 8, 3) := by decide +kernel
theorem dX6_ofPage_140 : decode cX6_ofPage 140 = .ok (.iload 6, 2) := by decide +kernel
theorem dX6_ofPage_142 : decode cX6_ofPage 142 = .ok (.goto 5, 3) := by decide +kernel
theorem dX6_ofPage_145 : decode cX6_ofPage 145 = .ok (.iload 7, 2) := by decide +kernel
theorem dX6_ofPage_147 : decode cX6_ofPage 147 = .ok (.ireturn, 1) := by decide +kernel
set_option maxRecDepth 20000 in
theorem ggX6_told_X6_places : GoodIn wsX6_told wsX6_places := goodIn_r _ [13, 1, 14, 15, 6, 16, 17, 18, 12, 19, 3, 2, 20, 21, 22, 23, 24, 25, 26, 43, 44, 45, 46, 47, 48, 49, 50, 51, 52, 53] (by decide +kernel) (by decide +kernel)
set_option maxRecDepth 20000 in
theorem gX6_told_X6_places : GoodIn wsX6_told (wsV RX6 62 RX6 yX6_places wsX6_places) := goodIn_app (goodIn_of _ (by decide +kernel)) ggX6_told_X6_places
set_option maxRecDepth 20000 in
theorem ggX6_told_X6_pages : GoodIn wsX6_told wsX6_pages := goodIn_r _ [30, 6, 31, 32, 33, 34, 43, 44, 45, 46, 47] (by decide +kernel) (by decide +kernel)
set_option maxRecDepth 20000 in
theorem gX6_told_X6_pages : GoodIn wsX6_told (wsV RX6 66 RX6 yX6_pages wsX6_pages) := goodIn_app (goodIn_of _ (by decide +kernel)) ggX6_told_X6_pages
set_option maxRecDepth 20000 in
theorem ggX6_told_X6_ofPage : GoodIn wsX6_told wsX6_ofPage := goodIn_r _ [38, 6, 1, 15, 3, 5, 43, 44, 45, 46, 47, 48, 49, 50, 51, 52, 53] (by decide +kernel) (by decide +kernel)
set_option maxRecDepth 20000 in
theorem gX6_told_X6_ofPage : GoodIn wsX6_told (wsV RX6 94 RX6 yX6_ofPage wsX6_ofPage) := goodIn_app (goodIn_of _ (by decide +kernel)) ggX6_told_X6_ofPage
set_option maxRecDepth 20000 in
theorem ggX6_told_X6_different : GoodIn wsX6_told wsX6_different := goodIn_r _ [42, 1, 20, 21, 22, 23, 24, 25, 26, 43, 44, 45, 46, 47, 48, 49, 50, 51, 52, 53] (by decide +kernel) (by decide +kernel)
set_option maxRecDepth 20000 in
theorem gX6_told_X6_different : GoodIn wsX6_told (wsV RX6 77 RX6 yX6_different wsX6_different) := goodIn_app (goodIn_of _ (by decide +kernel)) ggX6_told_X6_different
theorem dX6_told_0 : decode cX6_told 0 = .ok (.aload_n 0, 1) := by decide +kernel
theorem dX6_told_1 : decode cX6_told 1 = .ok (.iconst 0, 1) := by decide +kernel
theorem dX6_told_2 : decode cX6_told 2 = .ok (.invokevirtual 62, 3) := by decide +kernel
theorem dX6_told_5 : decode cX6_told 5 = .ok (.astore_n 2, 1) := by decide +kernel
theorem dX6_told_6 : decode cX6_told 6 = .ok (.aload_n 0, 1) := by decide +kernel
theorem dX6_told_7 : decode cX6_told 7 = .ok (.aload_n 2, 1) := by decide +kernel
theorem dX6_told_8 : decode cX6_told 8 = .ok (.invokevirtual 66, 3) := by decide +kernel
theorem dX6_told_11 : decode cX6_told 11 = .ok (.istore_n 3, 1) := by decide +kernel
theorem dX6_told_12 : decode cX6_told 12 = .ok (.iconst 0, 1) := by decide +kernel
theorem dX6_told_13 : decode cX6_told 13 = .ok (.istore 4, 2) := by decide +kernel
theorem dX6_told_15 : decode cX6_told 15 = .ok (.aload_n 0, 1) := by decide +kernel
theorem dX6_told_16 : decode cX6_told 16 = .ok (.getfield 22, 3) := by decide +kernel
theorem dX6_told_19 : decode cX6_told 19 = .ok (.astore 5, 2) := by decide +kernel
theorem dX6_told_21 : decode cX6_told 21 = .ok (.aload 5, 2) := by decide +kernel
theorem dX6_told_23 : decode cX6_told 23 = .ok (.arraylength, 1) := by decide +kernel
theorem dX6_told_24 : decode cX6_told 24 = .ok (.istore 6, 2) := by decide +kernel
theorem dX6_told_26 : decode cX6_told 26 = .ok (.iconst 0, 1) := by decide +kernel
theorem dX6_told_27 : decode cX6_told 27 = .ok (.istore 7, 2) := by decide +kernel
theorem dX6_told_29 : decode cX6_told 29 = .ok (.iload 7, 2) := by decide +kernel
theorem dX6_told_31 : decode cX6_told 31 = .ok (.iload 6, 2) := by decide +kernel
theorem dX6_told_33 : decode cX6_told 33 = .ok (.if_icmp .ge 82, 3) := by decide +kernel
theorem dX6_told_36 : decode cX6_told 36 = .ok (.aload 5, 2) := by decide +kernel
theorem dX6_told_38 : decode cX6_told 38 = .ok (.iload 7, 2) := by decide +kernel
theorem dX6_told_40 : decode cX6_told 40 = .ok (.aaload, 1) := by decide +kernel
theorem dX6_told_41 : decode cX6_told 41 = .ok (.astore 8, 2) := by decide +kernel
theorem dX6_told_43 : decode cX6_told 43 = .ok (.iload_n 1, 1) := by decide +kernel
theorem dX6_told_44 : decode cX6_told 44 = .ok (.iconst 2, 1) := by decide +kernel
theorem dX6_told_45 : decode cX6_told 45 = .ok (.if_icmp .ne 11, 3) := by decide +kernel
theorem dX6_told_48 : decode cX6_told 48 = .ok (.aload 8, 2) := by decide +kernel
theorem dX6_told_50 : decode cX6_told 50 = .ok (.getfield 47, 3) := by decide +kernel
theorem dX6_told_53 : decode cX6_told 53 = .ok (.ifCond .ne 29, 3) := by decide +kernel
theorem dX6_told_56 : decode cX6_told 56 = .ok (.iload_n 1, 1) := by decide +kernel
theorem dX6_told_57 : decode cX6_told 57 = .ok (.iconst 3, 1) := by decide +kernel
theorem dX6_told_58 : decode cX6_told 58 = .ok (.if_icmp .ne 11, 3) := by decide +kernel
theorem dX6_told_61 : decode cX6_told 61 = .ok (.aload 8, 2) := by decide +kernel
theorem dX6_told_63 : decode cX6_told 63 = .ok (.getfield 43, 3) := by decide +kernel
theorem dX6_told_66 : decode cX6_told 66 = .ok (.ifCond .ne 16, 3) := by decide +kernel
theorem dX6_told_69 : decode cX6_told 69 = .ok (.iload_n 1, 1) := by decide +kernel
theorem dX6_told_70 : decode cX6_told 70 = .ok (.iconst 5, 1) := by decide +kernel
theorem dX6_told_71 : decode cX6_told 71 = .ok (.if_icmp .ne 14, 3) := by decide +kernel
theorem dX6_told_74 : decode cX6_told 74 = .ok (.aload 8, 2) := by decide +kernel
theorem dX6_told_76 : decode cX6_told 76 = .ok (.getfield 85, 3) := by decide +kernel
theorem dX6_told_79 : decode cX6_told 79 = .ok (.ifCond .eq 6, 3) := by decide +kernel
theorem dX6_told_82 : decode cX6_told 82 = .ok (.iinc 4 1, 3) := by decide +kernel
theorem dX6_told_85 : decode cX6_told 85 = .ok (.iload_n 1, 1) := by decide +kernel
theorem dX6_told_86 : decode cX6_told 86 = .ok (.bipush 9, 2) := by decide +kernel
theorem dX6_told_88 : decode cX6_told 88 = .ok (.if_icmp .ne 21, 3) := by decide +kernel
theorem dX6_told_91 : decode cX6_told 91 = .ok (.aload 8, 2) := by decide +kernel
theorem dX6_told_93 : decode cX6_told 93 = .ok (.getfield 43, 3) := by decide +kernel
theorem dX6_told_96 : decode cX6_told 96 = .ok (.ifCond .eq 13, 3) := by decide +kernel
theorem dX6_told_99 : decode cX6_told 99 = .ok (.iload 4, 2) := by decide +kernel
theorem dX6_told_101 : decode cX6_told 101 = .ok (.aload 8, 2) := by decide +kernel
theorem dX6_told_103 : decode cX6_told 103 = .ok (.getfield 91, 3) := by decide +kernel
theorem dX6_told_106 : decode cX6_told 106 = .ok (.iadd, 1) := by decide +kernel
theorem dX6_told_107 : decode cX6_told 107 = .ok (.istore 4, 2) := by decide +kernel
theorem dX6_told_109 : decode cX6_told 109 = .ok (.iinc 7 1, 3) := by decide +kernel
theorem dX6_told_112 : decode cX6_told 112 = .ok (.goto (-83), 3) := by decide +kernel
theorem dX6_told_115 : decode cX6_told 115 = .ok (.iload_n 1, 1) := by decide +kernel
theorem dX6_told_116 : decode cX6_told 116 = .ok (.bipush 10, 2) := by decide +kernel
theorem dX6_told_118 : decode cX6_told 118 = .ok (.if_icmp .ne 33, 3) := by decide +kernel
theorem dX6_told_121 : decode cX6_told 121 = .ok (.iconst 0, 1) := by decide +kernel
theorem dX6_told_122 : decode cX6_told 122 = .ok (.istore 5, 2) := by decide +kernel
theorem dX6_told_124 : decode cX6_told 124 = .ok (.iload 5, 2) := by decide +kernel
theorem dX6_told_126 : decode cX6_told 126 = .ok (.iconst 1, 1) := by decide +kernel
theorem dX6_told_127 : decode cX6_told 127 = .ok (.iadd, 1) := by decide +kernel
theorem dX6_told_128 : decode cX6_told 128 = .ok (.iload_n 3, 1) := by decide +kernel
