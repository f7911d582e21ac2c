set_option maxRecDepth 20000 in
theorem ggX4_init_X1_init : GoodIn wsX4_init wsX1_init := goodIn_r _ [12, 13, 2, 3, 8, 14, 15, 16, 20, 21, 22, 23, 24, 25, 26, 27] (by decide +kernel) (by decide +kernel)
set_option maxRecDepth 20000 in
theorem gX4_init_X1_init : GoodIn wsX4_init (wsX1_init) := ggX4_init_X1_init
theorem dX4_init_0 : decode cX4_init 0 = .ok (.aload_n 0, 1) := by decide +kernel
theorem dX4_init_1 : decode cX4_init 1 = .ok (.invokespecial 3, 3) := by decide +kernel
theorem dX4_init_4 : decode cX4_init 4 = .ok (.aload_n 0, 1) := by decide +kernel
theorem dX4_init_5 : decode cX4_init 5 = .ok (.bipush 30, 2) := by decide +kernel
theorem dX4_init_7 : decode cX4_init 7 = .ok (.anewarray 9, 3) := by decide +kernel
theorem dX4_init_10 : decode cX4_init 10 = .ok (.putfield 11, 3) := by decide +kernel
theorem dX4_init_13 : decode cX4_init 13 = .ok (.iconst 0, 1) := by decide +kernel
theorem dX4_init_14 : decode cX4_init 14 = .ok (.istore_n 1, 1) := by decide +kernel
theorem dX4_init_15 : decode cX4_init 15 = .ok (.iload_n 1, 1) := by decide +kernel
theorem dX4_init_16 : decode cX4_init 16 = .ok (.bipush 30, 2) := by decide +kernel
theorem dX4_init_18 : decode cX4_init 18 = .ok (.if_icmp .ge 22, 3) := by decide +kernel
theorem dX4_init_21 : decode cX4_init 21 = .ok (.aload_n 0, 1) := by decide +kernel
theorem dX4_init_22 : decode cX4_init 22 = .ok (.getfield 11, 3) := by decide +kernel
theorem dX4_init_25 : decode cX4_init 25 = .ok (.iload_n 1, 1) := by decide +kernel
theorem dX4_init_26 : decode cX4_init 26 = .ok (.new 9, 3) := by decide +kernel
theorem dX4_init_29 : decode cX4_init 29 = .ok (.dup, 1) := by decide +kernel
theorem dX4_init_30 : decode cX4_init 30 = .ok (.invokespecial 17, 3) := by decide +kernel
theorem dX4_init_33 : decode cX4_init 33 = .ok (.aastore, 1) := by decide +kernel
theorem dX4_init_34 : decode cX4_init 34 = .ok (.iinc 1 1, 3) := by decide +kernel
theorem dX4_init_37 : decode cX4_init 37 = .ok (.goto (-22), 3) := by decide +kernel
theorem dX4_init_40 : decode cX4_init 40 = .ok (.aload_n 0, 1) := by decide +kernel
theorem dX4_init_41 : decode cX4_init 41 = .ok (.bipush 9, 2) := by decide +kernel
theorem dX4_init_43 : decode cX4_init 43 = .ok (.newarray .int, 2) := by decide +kernel
theorem dX4_init_45 : decode cX4_init 45 = .ok (.putfield 18, 3) := by decide +kernel
theorem dX4_init_48 : decode cX4_init 48 = .ok (.return_, 1) := by decide +kernel
theorem dX4_result_0 : decode cX4_result 0 = .ok (.aload_n 0, 1) := by decide +kernel
theorem dX4_result_1 : decode cX4_result 1 = .ok (.getfield 11, 3) := by decide +kernel
theorem dX4_result_4 : decode cX4_result 4 = .ok (.iconst 0, 1) := by decide +kernel
theorem dX4_result_5 : decode cX4_result 5 = .ok (.aaload, 1) := by decide +kernel
theorem dX4_result_6 : decode cX4_result 6 = .ok (.getfield 22, 3) := by decide +kernel
theorem dX4_result_9 : decode cX4_result 9 = .ok (.areturn, 1) := by decide +kernel
set_option maxRecDepth 20000 in
theorem ggX4_carryOut_X1_open : GoodIn wsX4_carryOut wsX1_open := goodIn_r _ [6, 7, 8, 9, 10, 11, 12, 4, 13, 14, 15, 16, 133, 134, 135, 136, 137, 138, 139, 140] (by decide +kernel) (by decide +kernel)
set_option maxRecDepth 20000 in
theorem gX4_carryOut_X1_open_n29 : GoodIn wsX4_carryOut (wsX1_open) := ggX4_carryOut_X1_open
set_option maxRecDepth 20000 in
theorem ggX4_carryOut_X3_target : GoodIn wsX4_carryOut wsX3_target := goodIn_r _ [20, 21, 22, 23, 24, 25, 126, 127, 128, 129, 130, 131, 132] (by decide +kernel) (by decide +kernel)
set_option maxRecDepth 20000 in
theorem gX4_carryOut_X3_target_n32 : GoodIn wsX4_carryOut (wsX3_target) := ggX4_carryOut_X3_target
set_option maxRecDepth 20000 in
theorem ggX4_carryOut_X4_openBracket : GoodIn wsX4_carryOut wsX4_openBracket := goodIn_r _ [30, 1, 2, 3, 4, 5, 6, 7, 8, 9, 10, 11, 12, 13, 14, 15, 16, 123, 124, 125, 133, 134, 135, 136, 137, 138, 139, 140] (by decide +kernel) (by decide +kernel)
set_option maxRecDepth 20000 in
theorem gX4_carryOut_X4_openBracket : GoodIn wsX4_carryOut (wsV RX4 45 RX4 yX4_openBracket wsX4_openBracket) := goodIn_app (goodIn_of _ (by decide +kernel)) ggX4_carryOut_X4_openBracket
set_option maxRecDepth 20000 in
theorem ggX4_carryOut_X1_finish : GoodIn wsX4_carryOut wsX1_finish := goodIn_r _ [33, 7, 34, 14, 35, 36, 37, 38, 39, 40, 41, 42, 43, 44, 45, 46, 47, 24, 48, 49, 50, 51, 52, 53, 54, 55, 56, 57, 58, 59, 60, 61, 62, 63, 64, 65, 66, 67, 68, 69, 70, 71, 72, 73, 74, 75, 76, 77, 78, 79, 80, 81, 82, 83, 84, 85, 86, 87, 88, 89, 90, 91, 92, 93, 94, 95, 96, 97, 98, 99, 100, 101, 133, 134, 135, 136, 137, 138, 139, 140, 141, 142, 143, 144, 145, 146, 147, 148, 149, 150, 151, 152, 153, 154, 155, 156, 157] (by decide +kernel) (by decide +kernel)
set_option maxRecDepth 20000 in
theorem gX4_carryOut_X1_finish_n48 : GoodIn wsX4_carryOut (wsX1_finish) := ggX4_carryOut_X1_finish
set_option maxRecDepth 20000 in
theorem ggX4_carryOut_X4_closeBracket : GoodIn wsX4_carryOut wsX4_closeBracket := goodIn_r _ [105, 1, 2, 106, 4, 107, 108, 14, 15, 16, 47, 24, 48, 123, 124, 125, 133, 134, 135, 136, 137, 138, 139, 140] (by decide +kernel) (by decide +kernel)
set_option maxRecDepth 20000 in
theorem gX4_carryOut_X4_closeBracket : GoodIn wsX4_carryOut (wsV RX4 66 RX4 yX4_closeBracket wsX4_closeBracket) := goodIn_app (goodIn_of _ (by decide +kernel)) ggX4_carryOut_X4_closeBracket
set_option maxRecDepth 20000 in
theorem ggX4_carryOut_X4_read : GoodIn wsX4_carryOut wsX4_read := goodIn_r _ [112, 113, 23, 24, 25, 106, 4, 107, 108, 14, 15, 16, 47, 48, 114, 115, 116, 9, 34, 35, 117, 118, 119, 120, 121, 122, 10, 11, 12, 13, 152, 153, 154, 133, 134, 135, 136, 137, 138, 139, 140, 123, 124, 125] (by decide +kernel) (by decide +kernel)
set_option maxRecDepth 20000 in
theorem gX4_carryOut_X4_read : GoodIn wsX4_carryOut (wsV RX4 70 RX4 yX4_read wsX4_read) := goodIn_app (goodIn_of _ (by decide +kernel)) ggX4_carryOut_X4_read
theorem dX4_carryOut_0 : decode cX4_carryOut 0 = .ok (.aload_n 0, 1) := by decide +kernel
theorem dX4_carryOut_1 : decode cX4_carryOut 1 = .ok (.iconst 0, 1) := by decide +kernel
theorem dX4_carryOut_2 : decode cX4_carryOut 2 = .ok (.putfield 25, 3) := by decide +kernel
theorem dX4_carryOut_5 : decode cX4_carryOut 5 = .ok (.aload_n 0, 1) := by decide +kernel
theorem dX4_carryOut_6 : decode cX4_carryOut 6 = .ok (.getfield 11, 3) := by decide +kernel
theorem dX4_carryOut_9 : decode cX4_carryOut 9 = .ok (.iconst 0, 1) := by decide +kernel
theorem dX4_carryOut_10 : decode cX4_carryOut 10 = .ok (.aaload, 1) := by decide +kernel
theorem dX4_carryOut_11 : decode cX4_carryOut 11 = .ok (.bipush 40, 2) := by decide +kernel
theorem dX4_carryOut_13 : decode cX4_carryOut 13 = .ok (.iconst 0, 1) := by decide +kernel
theorem dX4_carryOut_14 : decode cX4_carryOut 14 = .ok (.invokevirtual 29, 3) := by decide +kernel
theorem dX4_carryOut_17 : decode cX4_carryOut 17 = .ok (.bipush 40, 2) := by decide +kernel
theorem dX4_carryOut_19 : decode cX4_carryOut 19 = .ok (.istore_n 3, 1) := by decide +kernel
theorem dX4_carryOut_20 : decode cX4_carryOut 20 = .ok (.aload_n 1, 1) := by decide +kernel
theorem dX4_carryOut_21 : decode cX4_carryOut 21 = .ok (.invokevirtual 32, 3) := by decide +kernel
theorem dX4_carryOut_24 : decode cX4_carryOut 24 = .ok (.bipush (-6), 2) := by decide +kernel
theorem dX4_carryOut_26 : decode cX4_carryOut 26 = .ok (.if_icmp .ne 7, 3) := by decide +kernel
theorem dX4_carryOut_29 : decode cX4_carryOut 29 = .ok (.iconst 0, 1) := by decide +kernel
theorem dX4_carryOut_30 : decode cX4_carryOut 30 = .ok (.goto 4, 3) := by decide +kernel
theorem dX4_carryOut_33 : decode cX4_carryOut 33 = .ok (.iconst 2, 1) := by decide +kernel
theorem dX4_carryOut_34 : decode cX4_carryOut 34 = .ok (.istore 4, 2) := by decide +kernel
theorem dX4_carryOut_36 : decode cX4_carryOut 36 = .ok (.iload 4, 2) := by decide +kernel
theorem dX4_carryOut_38 : decode cX4_carryOut 38 = .ok (.aload_n 1, 1) := by decide +kernel
theorem dX4_carryOut_39 : decode cX4_carryOut 39 = .ok (.getfield 38, 3) := by decide +kernel
theorem dX4_carryOut_42 : decode cX4_carryOut 42 = .ok (.if_icmp .ge 109, 3) := by decide +kernel
theorem dX4_carryOut_45 : decode cX4_carryOut 45 = .ok (.aload_n 1, 1) := by decide +kernel
theorem dX4_carryOut_46 : decode cX4_carryOut 46 = .ok (.getfield 41, 3) := by decide +kernel
theorem dX4_carryOut_49 : decode cX4_carryOut 49 = .ok (.iload 4, 2) := by decide +kernel
theorem dX4_carryOut_51 : decode cX4_carryOut 51 = .ok (.caload, 1) := by decide +kernel
theorem dX4_carryOut_52 : decode cX4_carryOut 52 = .ok (.istore 5, 2) := by decide +kernel
theorem dX4_carryOut_54 : decode cX4_carryOut 54 = .ok (.iload 5, 2) := by decide +kernel
theorem dX4_carryOut_56 : decode cX4_carryOut 56 = .ok (.bipush 40, 2) := by decide +kernel
theorem dX4_carryOut_58 : decode cX4_carryOut 58 = .ok (.if_icmp .ne 15, 3) := by decide +kernel
theorem dX4_carryOut_61 : decode cX4_carryOut 61 = .ok (.aload_n 0, 1) := by decide +kernel
theorem dX4_carryOut_62 : decode cX4_carryOut 62 = .ok (.iload_n 3, 1) := by decide +kernel
theorem dX4_carryOut_63 : decode cX4_carryOut 63 = .ok (.iload 4, 2) := by decide +kernel
theorem dX4_carryOut_65 : decode cX4_carryOut 65 = .ok (.iconst 1, 1) := by decide +kernel
theorem dX4_carryOut_66 : decode cX4_carryOut 66 = .ok (.isub, 1) := by decide +kernel
theorem dX4_carryOut_67 : decode cX4_carryOut 67 = .ok (.invokevirtual 45, 3) := by decide +kernel
theorem dX4_carryOut_70 : decode cX4_carryOut 70 = .ok (.goto 72, 3) := by decide +kernel
theorem dX4_carryOut_73 : decode cX4_carryOut 73 = .ok (.iload 5, 2) := by decide +kernel
theorem dX4_carryOut_75 : decode cX4_carryOut 75 = .ok (.bipush 41, 2) := by decide +kernel
theorem dX4_carryOut_77 : decode cX4_carryOut 77 = .ok (.if_icmp .ne 46, 3) := by decide +kernel
theorem dX4_carryOut_80 : decode cX4_carryOut 80 = .ok (.aload_n 0, 1) := by decide +kernel
theorem dX4_carryOut_81 : decode cX4_carryOut 81 = .ok (.getfield 11, 3) := by decide +kernel
theorem dX4_carryOut_84 : decode cX4_carryOut 84 = .ok (.aload_n 0, 1) := by decide +kernel
theorem dX4_carryOut_85 : decode cX4_carryOut 85 = .ok (.getfield 25, 3) := by decide +kernel
theorem dX4_carryOut_88 : decode cX4_carryOut 88 = .ok (.aaload, 1) := by decide +kernel
theorem dX4_carryOut_89 : decode cX4_carryOut 89 = .ok (.aload_n 2, 1) := by decide +kernel
theorem dX4_carryOut_90 : decode cX4_carryOut 90 = .ok (.invokevirtual 48, 3) := by decide +kernel
theorem dX4_carryOut_93 : decode cX4_carryOut 93 = .ok (.ifCond .ne 16, 3) := by decide +kernel
theorem dX4_carryOut_96 : decode cX4_carryOut 96 = .ok (.aload_n 0, 1) := by decide +kernel
theorem dX4_carryOut_97 : decode cX4_carryOut 97 = .ok (.getfield 11, 3) := by decide +kernel
theorem dX4_carryOut_100 : decode cX4_carryOut 100 = .ok (.aload_n 0, 1) := by decide +kernel
theorem dX4_carryOut_101 : decode cX4_carryOut 101 = .ok (.getfield 25, 3) := by decide +kernel
theorem dX4_carryOut_104 : decode cX4_carryOut 104 = .ok (.aaload, 1) := by decide +kernel
theorem dX4_carryOut_105 : decode cX4_carryOut 105 = .ok (.getfield 52, 3) := by decide +kernel
theorem dX4_carryOut_108 : decode cX4_carryOut 108 = .ok (.ireturn, 1) := by decide +kernel
theorem dX4_carryOut_109 : decode cX4_carryOut 109 = .ok (.aload_n 0, 1) := by decide +kernel
theorem dX4_carryOut_110 : decode cX4_carryOut 110 = .ok (.aload_n 2, 1) := by decide +kernel
theorem dX4_carryOut_111 : decode cX4_carryOut 111 = .ok (.getfield 55, 3) := by decide +kernel
theorem dX4_carryOut_114 : decode cX4_carryOut 114 = .ok (.getfield 61, 3) := by decide +kernel
theorem dX4_carryOut_117 : decode cX4_carryOut 117 = .ok (.invokevirtual 66, 3) := by decide +kernel
theorem dX4_carryOut_120 : decode cX4_carryOut 120 = .ok (.goto 22, 3) := by decide +kernel
theorem dX4_carryOut_123 : decode cX4_carryOut 123 = .ok (.aload_n 0, 1) := by decide +kernel
theorem dX4_carryOut_124 : decode cX4_carryOut 124 = .ok (.iload 5, 2) := by decide +kernel
theorem dX4_carryOut_126 : decode cX4_carryOut 126 = .ok (.aload_n 0, 1) := by decide +kernel
theorem dX4_carryOut_127 : decode cX4_carryOut 127 = .ok (.getfield 11, 3) := by decide +kernel
theorem dX4_carryOut_130 : decode cX4_carryOut 130 = .ok (.aload_n 0, 1) := by decide +kernel
theorem dX4_carryOut_131 : decode cX4_carryOut 131 = .ok (.getfield 25, 3) := by decide +kernel
theorem dX4_carryOut_134 : decode cX4_carryOut 134 = .ok (.aaload, 1) := by decide +kernel
theorem dX4_carryOut_135 : decode cX4_carryOut 135 = .ok (.aload_n 2, 1) := by decide +kernel
theorem dX4_carryOut_136 : decode cX4_carryOut 136 = .ok (.getfield 55, 3) := by decide +kernel
theorem dX4_carryOut_139 : decode cX4_carryOut 139 = .ok (.invokevirtual 70, 3) := by decide +kernel
theorem dX4_carryOut_142 : decode cX4_carryOut 142 = .ok (.iload 5, 2) := by decide +kernel
theorem dX4_carryOut_144 : decode cX4_carryOut 144 = .ok (.istore_n 3, 1) := by decide +kernel
theorem dX4_carryOut_145 : decode cX4_carryOut 145 = .ok (.iinc 4 1, 3) := by decide +kernel
theorem dX4_carryOut_148 : decode cX4_carryOut 148 = .ok (.goto (-112), 3) := by decide +kernel
theorem dX4_carryOut_151 : decode cX4_carryOut 151 = .ok (.bipush (-6), 2) := by decide +kernel
theorem dX4_carryOut_153 : decode cX4_carryOut 153 = .ok (.ireturn, 1) := by decide +kernel
set_option maxRecDepth 20000 in
theorem ggX4_openBracket_X1_open : GoodIn wsX4_openBracket wsX1_open := goodIn_r _ [6, 7, 8, 9, 10, 11, 12, 4, 13, 14, 15, 16, 20, 21, 22, 23, 24, 25, 26, 27] (by decide +kernel) (by decide +kernel)
set_option maxRecDepth 20000 in
theorem gX4_openBracket_X1_open_n29 : GoodIn wsX4_openBracket (wsX1_open) := ggX4_openBracket_X1_open
theorem dX4_openBracket_0 : decode cX4_openBracket 0 = .ok (.aload_n 0, 1) := by decide +kernel
theorem dX4_openBracket_1 : decode cX4_openBracket 1 = .ok (.getfield 25, 3) := by decide +kernel
theorem dX4_openBracket_4 : decode cX4_openBracket 4 = .ok (.iconst 1, 1) := by decide +kernel
theorem dX4_openBracket_5 : decode cX4_openBracket 5 = .ok (.iadd, 1) := by decide +kernel
theorem dX4_openBracket_6 : decode cX4_openBracket 6 = .ok (.aload_n 0, 1) := by decide +kernel
theorem dX4_openBracket_7 : decode cX4_openBracket 7 = .ok (.getfield 11, 3) := by decide +kernel
theorem dX4_openBracket_10 : decode cX4_openBracket 10 = .ok (.arraylength, 1) := by decide +kernel
theorem dX4_openBracket_11 : decode cX4_openBracket 11 = .ok (.if_icmp .ge 27, 3) := by decide +kernel
theorem dX4_openBracket_14 : decode cX4_openBracket 14 = .ok (.aload_n 0, 1) := by decide +kernel
theorem dX4_openBracket_15 : decode cX4_openBracket 15 = .ok (.dup, 1) := by decide +kernel
theorem dX4_openBracket_16 : decode cX4_openBracket 16 = .ok (.getfield 25, 3) := by decide +kernel
theorem dX4_openBracket_19 : decode cX4_openBracket 19 = .ok (.iconst 1, 1) := by decide +kernel
theorem dX4_openBracket_20 : decode cX4_openBracket 20 = .ok (.iadd, 1) := by decide +kernel
theorem dX4_openBracket_21 : decode cX4_openBracket 21 = .ok (.putfield 25, 3) := by decide +kernel
theorem dX4_openBracket_24 : decode cX4_openBracket 24 = .ok (.aload_n 0, 1) := by decide +kernel
theorem dX4_openBracket_25 : decode cX4_openBracket 25 = .ok (.getfield 11, 3) := by decide +kernel
theorem dX4_openBracket_28 : decode cX4_openBracket 28 = .ok (.aload_n 0, 1) := by decide +kernel
theorem dX4_openBracket_29 : decode cX4_openBracket 29 = .ok (.getfield 25, 3) := by decide +kernel
theorem dX4_openBracket_32 : decode cX4_openBracket 32 = .ok (.aaload, 1) := by decide +kernel
theorem dX4_openBracket_33 : decode cX4_openBracket 33 = .ok (.iload_n 1, 1) := by decide +kernel
theorem dX4_openBracket_34 : decode cX4_openBracket 34 = .ok (.iload_n 2, 1) := by decide +kernel
theorem dX4_openBracket_35 : decode cX4_openBracket 35 = .ok (.invokevirtual 29, 3) := by decide +kernel
theorem dX4_openBracket_38 : decode cX4_openBracket 38 = .ok (.return_, 1) := by decide +kernel
set_option maxRecDepth 20000 in
theorem ggX4_closeBracket_X1_add : GoodIn wsX4_closeBracket wsX1_add := goodIn_r _ [6, 7, 8, 9, 10, 11, 12, 16, 17, 18, 19, 20, 21, 22, 23] (by decide +kernel) (by decide +kernel)
set_option maxRecDepth 20000 in
theorem gX4_closeBracket_X1_add_n74 : GoodIn wsX4_closeBracket (wsX1_add) := ggX4_closeBracket_X1_add
theorem dX4_closeBracket_0 : decode cX4_closeBracket 0 = .ok (.aload_n 0, 1) := by decide +kernel
theorem dX4_closeBracket_1 : decode cX4_closeBracket 1 = .ok (.getfield 25, 3) := by decide +kernel
theorem dX4_closeBracket_4 : decode cX4_closeBracket 4 = .ok (.ifCond .le 40, 3) := by decide +kernel
theorem dX4_closeBracket_7 : decode cX4_closeBracket 7 = .ok (.aload_n 0, 1) := by decide +kernel
theorem dX4_closeBracket_8 : decode cX4_closeBracket 8 = .ok (.dup, 1) := by decide +kernel
theorem dX4_closeBracket_9 : decode cX4_closeBracket 9 = .ok (.getfield 25, 3) := by decide +kernel
theorem dX4_closeBracket_12 : decode cX4_closeBracket 12 = .ok (.iconst 1, 1) := by decide +kernel
theorem dX4_closeBracket_13 : decode cX4_closeBracket 13 = .ok (.isub, 1) := by decide +kernel
theorem dX4_closeBracket_14 : decode cX4_closeBracket 14 = .ok (.putfield 25, 3) := by decide +kernel
theorem dX4_closeBracket_17 : decode cX4_closeBracket 17 = .ok (.aload_n 0, 1) := by decide +kernel
theorem dX4_closeBracket_18 : decode cX4_closeBracket 18 = .ok (.getfield 11, 3) := by decide +kernel
theorem dX4_closeBracket_21 : decode cX4_closeBracket 21 = .ok (.aload_n 0, 1) := by decide +kernel
theorem dX4_closeBracket_22 : decode cX4_closeBracket 22 = .ok (.getfield 25, 3) := by decide +kernel
theorem dX4_closeBracket_25 : decode cX4_closeBracket 25 = .ok (.aaload, 1) := by decide +kernel
theorem dX4_closeBracket_26 : decode cX4_closeBracket 26 = .ok (.aload_n 0, 1) := by decide +kernel
theorem dX4_closeBracket_27 : decode cX4_closeBracket 27 = .ok (.getfield 11, 3) := by decide +kernel
theorem dX4_closeBracket_30 : decode cX4_closeBracket 30 = .ok (.aload_n 0, 1) := by decide +kernel
theorem dX4_closeBracket_31 : decode cX4_closeBracket 31 = .ok (.getfield 25, 3) := by decide +kernel
theorem dX4_closeBracket_34 : decode cX4_closeBracket 34 = .ok (.iconst 1, 1) := by decide +kernel
theorem dX4_closeBracket_35 : decode cX4_closeBracket 35 = .ok (.iadd, 1) := by decide +kernel
theorem dX4_closeBracket_36 : decode cX4_closeBracket 36 = .ok (.aaload, 1) := by decide +kernel
theorem dX4_closeBracket_37 : decode cX4_closeBracket 37 = .ok (.getfield 22, 3) := by decide +kernel
theorem dX4_closeBracket_40 : decode cX4_closeBracket 40 = .ok (.iload_n 1, 1) := by decide +kernel
theorem dX4_closeBracket_41 : decode cX4_closeBracket 41 = .ok (.invokevirtual 74, 3) := by decide +kernel
theorem dX4_closeBracket_44 : decode cX4_closeBracket 44 = .ok (.return_, 1) := by decide +kernel
set_option maxRecDepth 20000 in
theorem ggX4_read_X7_registerOf : GoodIn wsX4_read wsX7_registerOf := goodIn_r _ [4] (by decide +kernel) (by decide +kernel)
set_option maxRecDepth 20000 in
theorem gX4_read_X7_registerOf_n78 : GoodIn wsX4_read (wsX7_registerOf) := ggX4_read_X7_registerOf
set_option maxRecDepth 20000 in
theorem ggX4_read_X1_add : GoodIn wsX4_read wsX1_add := goodIn_r _ [8, 9, 10, 11, 12, 3, 13, 33, 34, 35, 36, 37, 38, 39, 40] (by decide +kernel) (by decide +kernel)
set_option maxRecDepth 20000 in
theorem gX4_read_X1_add_n74 : GoodIn wsX4_read (wsX1_add) := ggX4_read_X1_add
set_option maxRecDepth 20000 in
theorem ggX4_read_X1_keepArgument : GoodIn wsX4_read wsX1_keepArgument := goodIn_r _ [16, 9, 17, 18, 19, 20, 3, 21, 22, 23, 24, 25, 26, 27, 28, 6, 29, 10, 11, 33, 34, 35, 36, 37, 38, 39, 40] (by decide +kernel) (by decide +kernel)
set_option maxRecDepth 20000 in
theorem gX4_read_X1_keepArgument_n92 : GoodIn wsX4_read (wsX1_keepArgument) := ggX4_read_X1_keepArgument
set_option maxRecDepth 20000 in
theorem ggX4_read_X7_copy : GoodIn wsX4_read wsX7_copy := goodIn_r _ [21, 22, 23, 24, 25] (by decide +kernel) (by decide +kernel)
set_option maxRecDepth 20000 in
theorem gX4_read_X7_copy_n95 : GoodIn wsX4_read (wsX7_copy) := ggX4_read_X7_copy
set_option maxRecDepth 20000 in
theorem ggX4_read_X1_startSum : GoodIn wsX4_read wsX1_startSum := goodIn_r _ [29, 9, 10, 11, 33, 34, 35, 36, 37, 38, 39, 40] (by decide +kernel) (by decide +kernel)
set_option maxRecDepth 20000 in
theorem gX4_read_X1_startSum_n99 : GoodIn wsX4_read (wsX1_startSum) := ggX4_read_X1_startSum
theorem dX4_read_0 : decode cX4_read 0 = .ok (.iload_n 1, 1) := by decide +kernel
theorem dX4_read_1 : decode cX4_read 1 = .ok (.invokestatic 78, 3) := by decide +kernel
theorem dX4_read_4 : decode cX4_read 4 = .ok (.istore 4, 2) := by decide +kernel
theorem dX4_read_6 : decode cX4_read 6 = .ok (.iload 4, 2) := by decide +kernel
theorem dX4_read_8 : decode cX4_read 8 = .ok (.bipush (-6), 2) := by decide +kernel
theorem dX4_read_10 : decode cX4_read 10 = .ok (.if_icmp .eq 21, 3) := by decide +kernel
theorem dX4_read_13 : decode cX4_read 13 = .ok (.aload_n 2, 1) := by decide +kernel
theorem dX4_read_14 : decode cX4_read 14 = .ok (.aload_n 3, 1) := by decide +kernel
theorem dX4_read_15 : decode cX4_read 15 = .ok (.getfield 82, 3) := by decide +kernel
theorem dX4_read_18 : decode cX4_read 18 = .ok (.iload 4, 2) := by decide +kernel
theorem dX4_read_20 : decode cX4_read 20 = .ok (.aaload, 1) := by decide +kernel
theorem dX4_read_21 : decode cX4_read 21 = .ok (.aload_n 3, 1) := by decide +kernel
theorem dX4_read_22 : decode cX4_read 22 = .ok (.getfield 61, 3) := by decide +kernel
theorem dX4_read_25 : decode cX4_read 25 = .ok (.invokevirtual 74, 3) := by decide +kernel
theorem dX4_read_28 : decode cX4_read 28 = .ok (.goto 114, 3) := by decide +kernel
theorem dX4_read_31 : decode cX4_read 31 = .ok (.iload_n 1, 1) := by decide +kernel
theorem dX4_read_32 : decode cX4_read 32 = .ok (.bipush 105, 2) := by decide +kernel
theorem dX4_read_34 : decode cX4_read 34 = .ok (.if_icmp .ne 21, 3) := by decide +kernel
theorem dX4_read_37 : decode cX4_read 37 = .ok (.aload_n 2, 1) := by decide +kernel
theorem dX4_read_38 : decode cX4_read 38 = .ok (.aload_n 3, 1) := by decide +kernel
theorem dX4_read_39 : decode cX4_read 39 = .ok (.getfield 82, 3) := by decide +kernel
theorem dX4_read_42 : decode cX4_read 42 = .ok (.bipush 9, 2) := by decide +kernel
theorem dX4_read_44 : decode cX4_read 44 = .ok (.aaload, 1) := by decide +kernel
theorem dX4_read_45 : decode cX4_read 45 = .ok (.aload_n 3, 1) := by decide +kernel
theorem dX4_read_46 : decode cX4_read 46 = .ok (.getfield 61, 3) := by decide +kernel
theorem dX4_read_49 : decode cX4_read 49 = .ok (.invokevirtual 74, 3) := by decide +kernel
theorem dX4_read_52 : decode cX4_read 52 = .ok (.goto 90, 3) := by decide +kernel
theorem dX4_read_55 : decode cX4_read 55 = .ok (.iload_n 1, 1) := by decide +kernel
theorem dX4_read_56 : decode cX4_read 56 = .ok (.bipush 48, 2) := by decide +kernel
theorem dX4_read_58 : decode cX4_read 58 = .ok (.if_icmp .lt 20, 3) := by decide +kernel
theorem dX4_read_61 : decode cX4_read 61 = .ok (.iload_n 1, 1) := by decide +kernel
theorem dX4_read_62 : decode cX4_read 62 = .ok (.bipush 57, 2) := by decide +kernel
theorem dX4_read_64 : decode cX4_read 64 = .ok (.if_icmp .gt 14, 3) := by decide +kernel
theorem dX4_read_67 : decode cX4_read 67 = .ok (.aload_n 2, 1) := by decide +kernel
theorem dX4_read_68 : decode cX4_read 68 = .ok (.iload_n 1, 1) := by decide +kernel
theorem dX4_read_69 : decode cX4_read 69 = .ok (.bipush 48, 2) := by decide +kernel
theorem dX4_read_71 : decode cX4_read 71 = .ok (.isub, 1) := by decide +kernel
theorem dX4_read_72 : decode cX4_read 72 = .ok (.putfield 86, 3) := by decide +kernel
theorem dX4_read_75 : decode cX4_read 75 = .ok (.goto 67, 3) := by decide +kernel
theorem dX4_read_78 : decode cX4_read 78 = .ok (.iload_n 1, 1) := by decide +kernel
theorem dX4_read_79 : decode cX4_read 79 = .ok (.bipush 43, 2) := by decide +kernel
theorem dX4_read_81 : decode cX4_read 81 = .ok (.if_icmp .eq 9, 3) := by decide +kernel
theorem dX4_read_84 : decode cX4_read 84 = .ok (.iload_n 1, 1) := by decide +kernel
theorem dX4_read_85 : decode cX4_read 85 = .ok (.bipush 45, 2) := by decide +kernel
theorem dX4_read_87 : decode cX4_read 87 = .ok (.if_icmp .ne 21, 3) := by decide +kernel
theorem dX4_read_90 : decode cX4_read 90 = .ok (.aload_n 2, 1) := by decide +kernel
theorem dX4_read_91 : decode cX4_read 91 = .ok (.iload_n 1, 1) := by decide +kernel
theorem dX4_read_92 : decode cX4_read 92 = .ok (.bipush 43, 2) := by decide +kernel
theorem dX4_read_94 : decode cX4_read 94 = .ok (.if_icmp .ne 7, 3) := by decide +kernel
theorem dX4_read_97 : decode cX4_read 97 = .ok (.iconst 1, 1) := by decide +kernel
theorem dX4_read_98 : decode cX4_read 98 = .ok (.goto 4, 3) := by decide +kernel
theorem dX4_read_101 : decode cX4_read 101 = .ok (.iconst (-1), 1) := by decide +kernel
theorem dX4_read_102 : decode cX4_read 102 = .ok (.putfield 89, 3) := by decide +kernel
theorem dX4_read_105 : decode cX4_read 105 = .ok (.goto 37, 3) := by decide +kernel
theorem dX4_read_108 : decode cX4_read 108 = .ok (.iload_n 1, 1) := by decide +kernel
theorem dX4_read_109 : decode cX4_read 109 = .ok (.bipush 44, 2) := by decide +kernel
theorem dX4_read_111 : decode cX4_read 111 = .ok (.if_icmp .ne 10, 3) := by decide +kernel
theorem dX4_read_114 : decode cX4_read 114 = .ok (.aload_n 2, 1) := by decide +kernel
theorem dX4_read_115 : decode cX4_read 115 = .ok (.invokevirtual 92, 3) := by decide +kernel
theorem dX4_read_118 : decode cX4_read 118 = .ok (.goto 24, 3) := by decide +kernel
theorem dX4_read_121 : decode cX4_read 121 = .ok (.iload_n 1, 1) := by decide +kernel
theorem dX4_read_122 : decode cX4_read 122 = .ok (.bipush 61, 2) := by decide +kernel
theorem dX4_read_124 : decode cX4_read 124 = .ok (.if_icmp .ne 18, 3) := by decide +kernel
theorem dX4_read_127 : decode cX4_read 127 = .ok (.aload_n 2, 1) := by decide +kernel
theorem dX4_read_128 : decode cX4_read 128 = .ok (.getfield 22, 3) := by decide +kernel
theorem dX4_read_131 : decode cX4_read 131 = .ok (.aload_n 0, 1) := by decide +kernel
theorem dX4_read_132 : decode cX4_read 132 = .ok (.getfield 18, 3) := by decide +kernel
theorem dX4_read_135 : decode cX4_read 135 = .ok (.invokestatic 95, 3) := by decide +kernel
theorem dX4_read_138 : decode cX4_read 138 = .ok (.aload_n 2, 1) := by decide +kernel
theorem dX4_read_139 : decode cX4_read 139 = .ok (.invokevirtual 99, 3) := by decide +kernel
theorem dX4_read_142 : decode cX4_read 142 = .ok (.return_, 1) := by decide +kernel
