theorem dX1_init_0 : decode cX1_init 0 = .ok (.aload_n 0, 1) := by decide +kernel
theorem dX1_init_1 : decode cX1_init 1 = .ok (.invokespecial 3, 3) := by decide +kernel
theorem dX1_init_4 : decode cX1_init 4 = .ok (.aload_n 0, 1) := by decide +kernel
theorem dX1_init_5 : decode cX1_init 5 = .ok (.bipush 9, 2) := by decide +kernel
theorem dX1_init_7 : decode cX1_init 7 = .ok (.newarray .int, 2) := by decide +kernel
theorem dX1_init_9 : decode cX1_init 9 = .ok (.putfield 9, 3) := by decide +kernel
theorem dX1_init_12 : decode cX1_init 12 = .ok (.aload_n 0, 1) := by decide +kernel
theorem dX1_init_13 : decode cX1_init 13 = .ok (.bipush 9, 2) := by decide +kernel
theorem dX1_init_15 : decode cX1_init 15 = .ok (.newarray .int, 2) := by decide +kernel
theorem dX1_init_17 : decode cX1_init 17 = .ok (.putfield 15, 3) := by decide +kernel
theorem dX1_init_20 : decode cX1_init 20 = .ok (.aload_n 0, 1) := by decide +kernel
theorem dX1_init_21 : decode cX1_init 21 = .ok (.bipush 9, 2) := by decide +kernel
theorem dX1_init_23 : decode cX1_init 23 = .ok (.newarray .int, 2) := by decide +kernel
theorem dX1_init_25 : decode cX1_init 25 = .ok (.putfield 18, 3) := by decide +kernel
theorem dX1_init_28 : decode cX1_init 28 = .ok (.return_, 1) := by decide +kernel
set_option maxRecDepth 20000 in
theorem ggX1_open_X1_startSum : GoodIn wsX1_open wsX1_startSum := goodIn_r _ [8, 9, 10, 11, 12, 13, 14, 15, 16, 17, 18, 19] (by decide +kernel) (by decide +kernel)
set_option maxRecDepth 20000 in
theorem gX1_open_X1_startSum : GoodIn wsX1_open (wsV RX1 32 RX1 yX1_startSum wsX1_startSum) := goodIn_app (goodIn_of _ (by decide +kernel)) ggX1_open_X1_startSum
theorem dX1_open_0 : decode cX1_open 0 = .ok (.aload_n 0, 1) := by decide +kernel
theorem dX1_open_1 : decode cX1_open 1 = .ok (.iload_n 1, 1) := by decide +kernel
theorem dX1_open_2 : decode cX1_open 2 = .ok (.putfield 21, 3) := by decide +kernel
theorem dX1_open_5 : decode cX1_open 5 = .ok (.aload_n 0, 1) := by decide +kernel
theorem dX1_open_6 : decode cX1_open 6 = .ok (.iload_n 2, 1) := by decide +kernel
theorem dX1_open_7 : decode cX1_open 7 = .ok (.putfield 25, 3) := by decide +kernel
theorem dX1_open_10 : decode cX1_open 10 = .ok (.aload_n 0, 1) := by decide +kernel
theorem dX1_open_11 : decode cX1_open 11 = .ok (.iconst 0, 1) := by decide +kernel
theorem dX1_open_12 : decode cX1_open 12 = .ok (.putfield 29, 3) := by decide +kernel
theorem dX1_open_15 : decode cX1_open 15 = .ok (.aload_n 0, 1) := by decide +kernel
theorem dX1_open_16 : decode cX1_open 16 = .ok (.invokevirtual 32, 3) := by decide +kernel
theorem dX1_open_19 : decode cX1_open 19 = .ok (.return_, 1) := by decide +kernel
theorem dX1_startSum_0 : decode cX1_startSum 0 = .ok (.iconst 0, 1) := by decide +kernel
theorem dX1_startSum_1 : decode cX1_startSum 1 = .ok (.istore_n 1, 1) := by decide +kernel
theorem dX1_startSum_2 : decode cX1_startSum 2 = .ok (.iload_n 1, 1) := by decide +kernel
theorem dX1_startSum_3 : decode cX1_startSum 3 = .ok (.bipush 9, 2) := by decide +kernel
theorem dX1_startSum_5 : decode cX1_startSum 5 = .ok (.if_icmp .ge 16, 3) := by decide +kernel
theorem dX1_startSum_8 : decode cX1_startSum 8 = .ok (.aload_n 0, 1) := by decide +kernel
theorem dX1_startSum_9 : decode cX1_startSum 9 = .ok (.getfield 9, 3) := by decide +kernel
theorem dX1_startSum_12 : decode cX1_startSum 12 = .ok (.iload_n 1, 1) := by decide +kernel
theorem dX1_startSum_13 : decode cX1_startSum 13 = .ok (.iconst 0, 1) := by decide +kernel
theorem dX1_startSum_14 : decode cX1_startSum 14 = .ok (.iastore, 1) := by decide +kernel
theorem dX1_startSum_15 : decode cX1_startSum 15 = .ok (.iinc 1 1, 3) := by decide +kernel
theorem dX1_startSum_18 : decode cX1_startSum 18 = .ok (.goto (-16), 3) := by decide +kernel
theorem dX1_startSum_21 : decode cX1_startSum 21 = .ok (.aload_n 0, 1) := by decide +kernel
theorem dX1_startSum_22 : decode cX1_startSum 22 = .ok (.iconst 1, 1) := by decide +kernel
theorem dX1_startSum_23 : decode cX1_startSum 23 = .ok (.putfield 35, 3) := by decide +kernel
theorem dX1_startSum_26 : decode cX1_startSum 26 = .ok (.aload_n 0, 1) := by decide +kernel
theorem dX1_startSum_27 : decode cX1_startSum 27 = .ok (.iconst 1, 1) := by decide +kernel
theorem dX1_startSum_28 : decode cX1_startSum 28 = .ok (.putfield 38, 3) := by decide +kernel
theorem dX1_startSum_31 : decode cX1_startSum 31 = .ok (.return_, 1) := by decide +kernel
set_option maxRecDepth 20000 in
theorem ggX1_add_X7_reduced : GoodIn wsX1_add wsX7_reduced := goodIn_r _ [6] (by decide +kernel) (by decide +kernel)
set_option maxRecDepth 20000 in
theorem gX1_add_X7_reduced_n41 : GoodIn wsX1_add (wsX7_reduced) := ggX1_add_X7_reduced
theorem dX1_add_0 : decode cX1_add 0 = .ok (.iconst 0, 1) := by decide +kernel
theorem dX1_add_1 : decode cX1_add 1 = .ok (.istore_n 3, 1) := by decide +kernel
theorem dX1_add_2 : decode cX1_add 2 = .ok (.iload_n 3, 1) := by decide +kernel
theorem dX1_add_3 : decode cX1_add 3 = .ok (.bipush 9, 2) := by decide +kernel
theorem dX1_add_5 : decode cX1_add 5 = .ok (.if_icmp .ge 39, 3) := by decide +kernel
theorem dX1_add_8 : decode cX1_add 8 = .ok (.aload_n 0, 1) := by decide +kernel
theorem dX1_add_9 : decode cX1_add 9 = .ok (.getfield 9, 3) := by decide +kernel
theorem dX1_add_12 : decode cX1_add 12 = .ok (.iload_n 3, 1) := by decide +kernel
theorem dX1_add_13 : decode cX1_add 13 = .ok (.aload_n 0, 1) := by decide +kernel
theorem dX1_add_14 : decode cX1_add 14 = .ok (.getfield 9, 3) := by decide +kernel
theorem dX1_add_17 : decode cX1_add 17 = .ok (.iload_n 3, 1) := by decide +kernel
theorem dX1_add_18 : decode cX1_add 18 = .ok (.iaload, 1) := by decide +kernel
theorem dX1_add_19 : decode cX1_add 19 = .ok (.aload_n 0, 1) := by decide +kernel
theorem dX1_add_20 : decode cX1_add 20 = .ok (.getfield 35, 3) := by decide +kernel
theorem dX1_add_23 : decode cX1_add 23 = .ok (.aload_n 0, 1) := by decide +kernel
theorem dX1_add_24 : decode cX1_add 24 = .ok (.getfield 38, 3) := by decide +kernel
theorem dX1_add_27 : decode cX1_add 27 = .ok (.imul, 1) := by decide +kernel
theorem dX1_add_28 : decode cX1_add 28 = .ok (.aload_n 1, 1) := by decide +kernel
theorem dX1_add_29 : decode cX1_add 29 = .ok (.iload_n 3, 1) := by decide +kernel
theorem dX1_add_30 : decode cX1_add 30 = .ok (.iaload, 1) := by decide +kernel
theorem dX1_add_31 : decode cX1_add 31 = .ok (.imul, 1) := by decide +kernel
theorem dX1_add_32 : decode cX1_add 32 = .ok (.iadd, 1) := by decide +kernel
theorem dX1_add_33 : decode cX1_add 33 = .ok (.iload_n 2, 1) := by decide +kernel
theorem dX1_add_34 : decode cX1_add 34 = .ok (.invokestatic 41, 3) := by decide +kernel
theorem dX1_add_37 : decode cX1_add 37 = .ok (.iastore, 1) := by decide +kernel
theorem dX1_add_38 : decode cX1_add 38 = .ok (.iinc 3 1, 3) := by decide +kernel
theorem dX1_add_41 : decode cX1_add 41 = .ok (.goto (-39), 3) := by decide +kernel
theorem dX1_add_44 : decode cX1_add 44 = .ok (.aload_n 0, 1) := by decide +kernel
theorem dX1_add_45 : decode cX1_add 45 = .ok (.iconst 1, 1) := by decide +kernel
theorem dX1_add_46 : decode cX1_add 46 = .ok (.putfield 38, 3) := by decide +kernel
theorem dX1_add_49 : decode cX1_add 49 = .ok (.return_, 1) := by decide +kernel
set_option maxRecDepth 20000 in
theorem ggX1_keepArgument_X7_copy : GoodIn wsX1_keepArgument wsX7_copy := goodIn_r _ [7, 8, 9, 10, 11] (by decide +kernel) (by decide +kernel)
set_option maxRecDepth 20000 in
theorem gX1_keepArgument_X7_copy_n45 : GoodIn wsX1_keepArgument (wsX7_copy) := ggX1_keepArgument_X7_copy
set_option maxRecDepth 20000 in
theorem ggX1_keepArgument_X1_startSum : GoodIn wsX1_keepArgument wsX1_startSum := goodIn_r _ [16, 1, 17, 18, 19, 20, 21, 22, 23, 24, 25, 26] (by decide +kernel) (by decide +kernel)
set_option maxRecDepth 20000 in
theorem gX1_keepArgument_X1_startSum : GoodIn wsX1_keepArgument (wsV RX1 32 RX1 yX1_startSum wsX1_startSum) := goodIn_app (goodIn_of _ (by decide +kernel)) ggX1_keepArgument_X1_startSum
theorem dX1_keepArgument_0 : decode cX1_keepArgument 0 = .ok (.aload_n 0, 1) := by decide +kernel
theorem dX1_keepArgument_1 : decode cX1_keepArgument 1 = .ok (.getfield 9, 3) := by decide +kernel
theorem dX1_keepArgument_4 : decode cX1_keepArgument 4 = .ok (.aload_n 0, 1) := by decide +kernel
theorem dX1_keepArgument_5 : decode cX1_keepArgument 5 = .ok (.getfield 29, 3) := by decide +kernel
theorem dX1_keepArgument_8 : decode cX1_keepArgument 8 = .ok (.ifCond .ne 10, 3) := by decide +kernel
theorem dX1_keepArgument_11 : decode cX1_keepArgument 11 = .ok (.aload_n 0, 1) := by decide +kernel
theorem dX1_keepArgument_12 : decode cX1_keepArgument 12 = .ok (.getfield 15, 3) := by decide +kernel
theorem dX1_keepArgument_15 : decode cX1_keepArgument 15 = .ok (.goto 7, 3) := by decide +kernel
theorem dX1_keepArgument_18 : decode cX1_keepArgument 18 = .ok (.aload_n 0, 1) := by decide +kernel
theorem dX1_keepArgument_19 : decode cX1_keepArgument 19 = .ok (.getfield 18, 3) := by decide +kernel
theorem dX1_keepArgument_22 : decode cX1_keepArgument 22 = .ok (.invokestatic 45, 3) := by decide +kernel
theorem dX1_keepArgument_25 : decode cX1_keepArgument 25 = .ok (.aload_n 0, 1) := by decide +kernel
theorem dX1_keepArgument_26 : decode cX1_keepArgument 26 = .ok (.dup, 1) := by decide +kernel
theorem dX1_keepArgument_27 : decode cX1_keepArgument 27 = .ok (.getfield 29, 3) := by decide +kernel
theorem dX1_keepArgument_30 : decode cX1_keepArgument 30 = .ok (.iconst 1, 1) := by decide +kernel
theorem dX1_keepArgument_31 : decode cX1_keepArgument 31 = .ok (.iadd, 1) := by decide +kernel
theorem dX1_keepArgument_32 : decode cX1_keepArgument 32 = .ok (.putfield 29, 3) := by decide +kernel
theorem dX1_keepArgument_35 : decode cX1_keepArgument 35 = .ok (.aload_n 0, 1) := by decide +kernel
theorem dX1_keepArgument_36 : decode cX1_keepArgument 36 = .ok (.invokevirtual 32, 3) := by decide +kernel
theorem dX1_keepArgument_39 : decode cX1_keepArgument 39 = .ok (.return_, 1) := by decide +kernel
set_option maxRecDepth 20000 in
theorem ggX1_finish_X0_product : GoodIn wsX1_finish wsX0_product := goodIn_r _ [8, 9, 10, 11, 12, 13, 14, 6, 15, 16, 17, 18, 19, 20, 21, 22, 80, 81, 82, 83, 84, 85, 86, 87, 88, 89, 90, 91, 92, 93] (by decide +kernel) (by decide +kernel)
set_option maxRecDepth 20000 in
theorem gX1_finish_X0_product_n49 : GoodIn wsX1_finish (wsX0_product) := ggX1_finish_X0_product
set_option maxRecDepth 20000 in
theorem ggX1_finish_X0_operator : GoodIn wsX1_finish wsX0_operator := goodIn_r _ [25, 26, 27, 28, 6, 29, 9, 10, 11, 12, 13, 14, 15, 16, 17, 18, 19, 20, 21, 22, 80, 81, 82, 83, 84, 85, 86, 87, 88, 89, 90, 91, 92, 93] (by decide +kernel) (by decide +kernel)
set_option maxRecDepth 20000 in
theorem gX1_finish_X0_operator_n55 : GoodIn wsX1_finish (wsX0_operator) := ggX1_finish_X0_operator
set_option maxRecDepth 20000 in
theorem ggX1_finish_X0_triple : GoodIn wsX1_finish wsX0_triple := goodIn_r _ [29, 9, 10, 11, 12, 13, 14, 6, 15, 16, 17, 18, 19, 20, 21, 22, 80, 81, 82, 83, 84, 85, 86, 87, 88, 89, 90, 91, 92, 93] (by decide +kernel) (by decide +kernel)
set_option maxRecDepth 20000 in
theorem gX1_finish_X0_triple_n58 : GoodIn wsX1_finish (wsX0_triple) := ggX1_finish_X0_triple
set_option maxRecDepth 20000 in
theorem ggX1_finish_X0_inverse : GoodIn wsX1_finish wsX0_inverse := goodIn_r _ [32, 33, 9, 10, 34, 35, 36, 37, 38, 39, 40, 41, 42, 43, 44, 45, 46, 47, 48, 49, 50, 51, 52, 53, 54, 55, 56, 57, 58, 59, 16, 17, 18, 60, 61, 62, 63, 64, 65, 66, 6, 67, 68, 69, 70, 71, 12, 13, 14, 15, 80, 81, 82, 83, 84, 85, 86, 87, 88, 89, 90, 91, 92, 93, 94, 95, 96] (by decide +kernel) (by decide +kernel)
set_option maxRecDepth 20000 in
theorem gX1_finish_X0_inverse_n62 : GoodIn wsX1_finish (wsX0_inverse) := ggX1_finish_X0_inverse
theorem dX1_finish_0 : decode cX1_finish 0 = .ok (.aload_n 0, 1) := by decide +kernel
theorem dX1_finish_1 : decode cX1_finish 1 = .ok (.getfield 21, 3) := by decide +kernel
theorem dX1_finish_4 : decode cX1_finish 4 = .ok (.tableswitch 115 112 118 #[44, 115, 115, 115, 80, 62, 102], 44) := by decide +kernel
theorem dX1_finish_48 : decode cX1_finish 48 = .ok (.aload_n 1, 1) := by decide +kernel
theorem dX1_finish_49 : decode cX1_finish 49 = .ok (.aload_n 0, 1) := by decide +kernel
theorem dX1_finish_50 : decode cX1_finish 50 = .ok (.getfield 15, 3) := by decide +kernel
theorem dX1_finish_53 : decode cX1_finish 53 = .ok (.aload_n 0, 1) := by decide +kernel
theorem dX1_finish_54 : decode cX1_finish 54 = .ok (.getfield 9, 3) := by decide +kernel
theorem dX1_finish_57 : decode cX1_finish 57 = .ok (.aload_n 0, 1) := by decide +kernel
theorem dX1_finish_58 : decode cX1_finish 58 = .ok (.getfield 9, 3) := by decide +kernel
theorem dX1_finish_61 : decode cX1_finish 61 = .ok (.invokevirtual 49, 3) := by decide +kernel
theorem dX1_finish_64 : decode cX1_finish 64 = .ok (.iconst 1, 1) := by decide +kernel
theorem dX1_finish_65 : decode cX1_finish 65 = .ok (.ireturn, 1) := by decide +kernel
theorem dX1_finish_66 : decode cX1_finish 66 = .ok (.aload_n 1, 1) := by decide +kernel
theorem dX1_finish_67 : decode cX1_finish 67 = .ok (.aload_n 0, 1) := by decide +kernel
theorem dX1_finish_68 : decode cX1_finish 68 = .ok (.getfield 15, 3) := by decide +kernel
theorem dX1_finish_71 : decode cX1_finish 71 = .ok (.aload_n 0, 1) := by decide +kernel
theorem dX1_finish_72 : decode cX1_finish 72 = .ok (.getfield 9, 3) := by decide +kernel
theorem dX1_finish_75 : decode cX1_finish 75 = .ok (.aload_n 0, 1) := by decide +kernel
theorem dX1_finish_76 : decode cX1_finish 76 = .ok (.getfield 9, 3) := by decide +kernel
theorem dX1_finish_79 : decode cX1_finish 79 = .ok (.invokevirtual 55, 3) := by decide +kernel
theorem dX1_finish_82 : decode cX1_finish 82 = .ok (.iconst 1, 1) := by decide +kernel
theorem dX1_finish_83 : decode cX1_finish 83 = .ok (.ireturn, 1) := by decide +kernel
theorem dX1_finish_84 : decode cX1_finish 84 = .ok (.aload_n 1, 1) := by decide +kernel
theorem dX1_finish_85 : decode cX1_finish 85 = .ok (.aload_n 0, 1) := by decide +kernel
theorem dX1_finish_86 : decode cX1_finish 86 = .ok (.getfield 15, 3) := by decide +kernel
theorem dX1_finish_89 : decode cX1_finish 89 = .ok (.aload_n 0, 1) := by decide +kernel
theorem dX1_finish_90 : decode cX1_finish 90 = .ok (.getfield 18, 3) := by decide +kernel
theorem dX1_finish_93 : decode cX1_finish 93 = .ok (.aload_n 0, 1) := by decide +kernel
theorem dX1_finish_94 : decode cX1_finish 94 = .ok (.getfield 9, 3) := by decide +kernel
theorem dX1_finish_97 : decode cX1_finish 97 = .ok (.aload_n 0, 1) := by decide +kernel
theorem dX1_finish_98 : decode cX1_finish 98 = .ok (.getfield 9, 3) := by decide +kernel
theorem dX1_finish_101 : decode cX1_finish 101 = .ok (.invokevirtual 58, 3) := by decide +kernel
theorem dX1_finish_104 : decode cX1_finish 104 = .ok (.iconst 1, 1) := by decide +kernel
theorem dX1_finish_105 : decode cX1_finish 105 = .ok (.ireturn, 1) := by decide +kernel
theorem dX1_finish_106 : decode cX1_finish 106 = .ok (.aload_n 1, 1) := by decide +kernel
theorem dX1_finish_107 : decode cX1_finish 107 = .ok (.aload_n 0, 1) := by decide +kernel
theorem dX1_finish_108 : decode cX1_finish 108 = .ok (.getfield 9, 3) := by decide +kernel
theorem dX1_finish_111 : decode cX1_finish 111 = .ok (.aload_n 0, 1) := by decide +kernel
theorem dX1_finish_112 : decode cX1_finish 112 = .ok (.getfield 9, 3) := by decide +kernel
theorem dX1_finish_115 : decode cX1_finish 115 = .ok (.invokevirtual 62, 3) := by decide +kernel
theorem dX1_finish_118 : decode cX1_finish 118 = .ok (.ireturn, 1) := by decide +kernel
theorem dX1_finish_119 : decode cX1_finish 119 = .ok (.iconst 1, 1) := by decide +kernel
theorem dX1_finish_120 : decode cX1_finish 120 = .ok (.ireturn, 1) := by decide +kernel
