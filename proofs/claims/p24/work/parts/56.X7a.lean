set_option maxRecDepth 20000 in
theorem ggX7_init_X0_init : GoodIn wsX7_init wsX0_init := goodIn_r _ [28, 29, 2, 3, 30, 22, 23, 31, 32, 33, 34, 35, 36, 37, 38, 39, 40, 41, 42, 43, 44, 45, 46, 47, 48, 49, 50, 51, 52, 53, 54, 55, 56, 57, 58, 59, 60, 61, 62, 63, 64, 65, 66, 67, 68, 130, 131, 132, 100, 101, 102, 103, 104, 105, 106, 107, 108, 109, 110, 133, 134, 135] (by decide +kernel) (by decide +kernel)
set_option maxRecDepth 20000 in
theorem gX7_init_X0_init : GoodIn wsX7_init (wsX0_init) := ggX7_init_X0_init
set_option maxRecDepth 20000 in
theorem ggX7_init_X3_init : GoodIn wsX7_init wsX3_init := goodIn_r _ [71, 72, 2, 3, 73, 74, 37, 75, 117, 118, 119, 120, 121, 122, 123] (by decide +kernel) (by decide +kernel)
set_option maxRecDepth 20000 in
theorem gX7_init_X3_init : GoodIn wsX7_init (wsX3_init) := ggX7_init_X3_init
set_option maxRecDepth 20000 in
theorem ggX7_init_X4_init : GoodIn wsX7_init wsX4_init := goodIn_r _ [78, 79, 2, 3, 80, 81, 82, 83, 37, 84, 85, 86, 87, 88, 89, 90, 91, 124, 125, 126, 136, 137, 138, 139, 140, 141, 142, 143] (by decide +kernel) (by decide +kernel)
set_option maxRecDepth 20000 in
theorem gX7_init_X4_init : GoodIn wsX7_init (wsX4_init) := ggX7_init_X4_init
set_option maxRecDepth 20000 in
theorem ggX7_init_X2_init : GoodIn wsX7_init wsX2_init := goodIn_r _ [94, 95, 2, 3, 96, 97, 22, 23, 98, 48, 49, 50, 51, 37, 52, 53, 54, 55, 56, 57, 58, 59, 60, 61, 62, 127, 128, 129, 130, 131, 132] (by decide +kernel) (by decide +kernel)
set_option maxRecDepth 20000 in
theorem gX7_init_X2_init : GoodIn wsX7_init (wsX2_init) := ggX7_init_X2_init
set_option maxRecDepth 20000 in
theorem ggX7_init_X6_init : GoodIn wsX7_init wsX6_init := goodIn_r _ [49, 50, 2, 3, 51, 37, 52, 53, 54, 55, 23, 56, 57, 58, 59, 60, 61, 62, 130, 131, 132] (by decide +kernel) (by decide +kernel)
set_option maxRecDepth 20000 in
theorem gX7_init_X6_init : GoodIn wsX7_init (wsX6_init) := ggX7_init_X6_init
theorem dX7_init_0 : decode cX7_init 0 = .ok (.aload_n 0, 1) := by decide +kernel
theorem dX7_init_1 : decode cX7_init 1 = .ok (.invokespecial 3, 3) := by decide +kernel
theorem dX7_init_4 : decode cX7_init 4 = .ok (.aload_n 0, 1) := by decide +kernel
theorem dX7_init_5 : decode cX7_init 5 = .ok (.new 9, 3) := by decide +kernel
theorem dX7_init_8 : decode cX7_init 8 = .ok (.dup, 1) := by decide +kernel
theorem dX7_init_9 : decode cX7_init 9 = .ok (.invokespecial 11, 3) := by decide +kernel
theorem dX7_init_12 : decode cX7_init 12 = .ok (.putfield 12, 3) := by decide +kernel
theorem dX7_init_15 : decode cX7_init 15 = .ok (.aload_n 0, 1) := by decide +kernel
theorem dX7_init_16 : decode cX7_init 16 = .ok (.new 16, 3) := by decide +kernel
theorem dX7_init_19 : decode cX7_init 19 = .ok (.dup, 1) := by decide +kernel
theorem dX7_init_20 : decode cX7_init 20 = .ok (.invokespecial 18, 3) := by decide +kernel
theorem dX7_init_23 : decode cX7_init 23 = .ok (.putfield 19, 3) := by decide +kernel
theorem dX7_init_26 : decode cX7_init 26 = .ok (.aload_n 0, 1) := by decide +kernel
theorem dX7_init_27 : decode cX7_init 27 = .ok (.new 23, 3) := by decide +kernel
theorem dX7_init_30 : decode cX7_init 30 = .ok (.dup, 1) := by decide +kernel
theorem dX7_init_31 : decode cX7_init 31 = .ok (.invokespecial 25, 3) := by decide +kernel
theorem dX7_init_34 : decode cX7_init 34 = .ok (.putfield 26, 3) := by decide +kernel
theorem dX7_init_37 : decode cX7_init 37 = .ok (.aload_n 0, 1) := by decide +kernel
theorem dX7_init_38 : decode cX7_init 38 = .ok (.new 30, 3) := by decide +kernel
theorem dX7_init_41 : decode cX7_init 41 = .ok (.dup, 1) := by decide +kernel
theorem dX7_init_42 : decode cX7_init 42 = .ok (.invokespecial 32, 3) := by decide +kernel
theorem dX7_init_45 : decode cX7_init 45 = .ok (.putfield 33, 3) := by decide +kernel
theorem dX7_init_48 : decode cX7_init 48 = .ok (.aload_n 0, 1) := by decide +kernel
theorem dX7_init_49 : decode cX7_init 49 = .ok (.iconst 2, 1) := by decide +kernel
theorem dX7_init_50 : decode cX7_init 50 = .ok (.anewarray 37, 3) := by decide +kernel
theorem dX7_init_53 : decode cX7_init 53 = .ok (.putfield 39, 3) := by decide +kernel
theorem dX7_init_56 : decode cX7_init 56 = .ok (.iconst 0, 1) := by decide +kernel
theorem dX7_init_57 : decode cX7_init 57 = .ok (.istore_n 1, 1) := by decide +kernel
theorem dX7_init_58 : decode cX7_init 58 = .ok (.iload_n 1, 1) := by decide +kernel
theorem dX7_init_59 : decode cX7_init 59 = .ok (.iconst 2, 1) := by decide +kernel
theorem dX7_init_60 : decode cX7_init 60 = .ok (.if_icmp .ge 22, 3) := by decide +kernel
theorem dX7_init_63 : decode cX7_init 63 = .ok (.aload_n 0, 1) := by decide +kernel
theorem dX7_init_64 : decode cX7_init 64 = .ok (.getfield 39, 3) := by decide +kernel
theorem dX7_init_67 : decode cX7_init 67 = .ok (.iload_n 1, 1) := by decide +kernel
theorem dX7_init_68 : decode cX7_init 68 = .ok (.new 37, 3) := by decide +kernel
theorem dX7_init_71 : decode cX7_init 71 = .ok (.dup, 1) := by decide +kernel
theorem dX7_init_72 : decode cX7_init 72 = .ok (.invokespecial 43, 3) := by decide +kernel
theorem dX7_init_75 : decode cX7_init 75 = .ok (.aastore, 1) := by decide +kernel
theorem dX7_init_76 : decode cX7_init 76 = .ok (.iinc 1 1, 3) := by decide +kernel
theorem dX7_init_79 : decode cX7_init 79 = .ok (.goto (-21), 3) := by decide +kernel
theorem dX7_init_82 : decode cX7_init 82 = .ok (.aload_n 0, 1) := by decide +kernel
theorem dX7_init_83 : decode cX7_init 83 = .ok (.iconst 2, 1) := by decide +kernel
theorem dX7_init_84 : decode cX7_init 84 = .ok (.newarray .boolean, 2) := by decide +kernel
theorem dX7_init_86 : decode cX7_init 86 = .ok (.putfield 44, 3) := by decide +kernel
theorem dX7_init_89 : decode cX7_init 89 = .ok (.return_, 1) := by decide +kernel
set_option maxRecDepth 20000 in
theorem ggX7_begin_X2_remember : GoodIn wsX7_begin wsX2_remember := goodIn_r _ [6, 7, 8, 9, 10, 11, 12, 13, 14, 15, 16, 17, 18, 19, 20, 21, 22, 23, 24, 25, 26, 27, 55, 56, 57, 52, 53, 54] (by decide +kernel) (by decide +kernel)
set_option maxRecDepth 20000 in
theorem gX7_begin_X2_remember_n56 : GoodIn wsX7_begin (wsX2_remember) := ggX7_begin_X2_remember
set_option maxRecDepth 20000 in
theorem ggX7_begin_X6_clear : GoodIn wsX7_begin wsX6_clear := goodIn_r _ [30, 18, 19, 20, 31, 32, 33, 15, 34, 52, 53, 54] (by decide +kernel) (by decide +kernel)
set_option maxRecDepth 20000 in
theorem gX7_begin_X6_clear_n60 : GoodIn wsX7_begin (wsX6_clear) := ggX7_begin_X6_clear
theorem dX7_begin_0 : decode cX7_begin 0 = .ok (.iload_n 1, 1) := by decide +kernel
theorem dX7_begin_1 : decode cX7_begin 1 = .ok (.iconst 2, 1) := by decide +kernel
theorem dX7_begin_2 : decode cX7_begin 2 = .ok (.if_icmp .eq 11, 3) := by decide +kernel
theorem dX7_begin_5 : decode cX7_begin 5 = .ok (.iload_n 1, 1) := by decide +kernel
theorem dX7_begin_6 : decode cX7_begin 6 = .ok (.iconst 3, 1) := by decide +kernel
theorem dX7_begin_7 : decode cX7_begin 7 = .ok (.if_icmp .eq 6, 3) := by decide +kernel
theorem dX7_begin_10 : decode cX7_begin 10 = .ok (.bipush (-2), 2) := by decide +kernel
theorem dX7_begin_12 : decode cX7_begin 12 = .ok (.ireturn, 1) := by decide +kernel
theorem dX7_begin_13 : decode cX7_begin 13 = .ok (.iload_n 2, 1) := by decide +kernel
theorem dX7_begin_14 : decode cX7_begin 14 = .ok (.iconst 3, 1) := by decide +kernel
theorem dX7_begin_15 : decode cX7_begin 15 = .ok (.if_icmp .eq 23, 3) := by decide +kernel
theorem dX7_begin_18 : decode cX7_begin 18 = .ok (.iload_n 2, 1) := by decide +kernel
theorem dX7_begin_19 : decode cX7_begin 19 = .ok (.iconst 5, 1) := by decide +kernel
theorem dX7_begin_20 : decode cX7_begin 20 = .ok (.if_icmp .eq 18, 3) := by decide +kernel
theorem dX7_begin_23 : decode cX7_begin 23 = .ok (.iload_n 2, 1) := by decide +kernel
theorem dX7_begin_24 : decode cX7_begin 24 = .ok (.bipush 7, 2) := by decide +kernel
theorem dX7_begin_26 : decode cX7_begin 26 = .ok (.if_icmp .eq 12, 3) := by decide +kernel
theorem dX7_begin_29 : decode cX7_begin 29 = .ok (.iload_n 2, 1) := by decide +kernel
theorem dX7_begin_30 : decode cX7_begin 30 = .ok (.bipush 11, 2) := by decide +kernel
theorem dX7_begin_32 : decode cX7_begin 32 = .ok (.if_icmp .eq 6, 3) := by decide +kernel
theorem dX7_begin_35 : decode cX7_begin 35 = .ok (.bipush (-2), 2) := by decide +kernel
theorem dX7_begin_37 : decode cX7_begin 37 = .ok (.ireturn, 1) := by decide +kernel
theorem dX7_begin_38 : decode cX7_begin 38 = .ok (.aload_n 0, 1) := by decide +kernel
theorem dX7_begin_39 : decode cX7_begin 39 = .ok (.getfield 12, 3) := by decide +kernel
theorem dX7_begin_42 : decode cX7_begin 42 = .ok (.getfield 48, 3) := by decide +kernel
theorem dX7_begin_45 : decode cX7_begin 45 = .ok (.getfield 52, 3) := by decide +kernel
theorem dX7_begin_48 : decode cX7_begin 48 = .ok (.istore_n 3, 1) := by decide +kernel
theorem dX7_begin_49 : decode cX7_begin 49 = .ok (.aload_n 0, 1) := by decide +kernel
theorem dX7_begin_50 : decode cX7_begin 50 = .ok (.getfield 33, 3) := by decide +kernel
theorem dX7_begin_53 : decode cX7_begin 53 = .ok (.aload_n 0, 1) := by decide +kernel
theorem dX7_begin_54 : decode cX7_begin 54 = .ok (.getfield 12, 3) := by decide +kernel
theorem dX7_begin_57 : decode cX7_begin 57 = .ok (.getfield 48, 3) := by decide +kernel
theorem dX7_begin_60 : decode cX7_begin 60 = .ok (.invokevirtual 56, 3) := by decide +kernel
theorem dX7_begin_63 : decode cX7_begin 63 = .ok (.aload_n 0, 1) := by decide +kernel
theorem dX7_begin_64 : decode cX7_begin 64 = .ok (.getfield 12, 3) := by decide +kernel
theorem dX7_begin_67 : decode cX7_begin 67 = .ok (.getfield 48, 3) := by decide +kernel
theorem dX7_begin_70 : decode cX7_begin 70 = .ok (.iload_n 1, 1) := by decide +kernel
theorem dX7_begin_71 : decode cX7_begin 71 = .ok (.iload_n 2, 1) := by decide +kernel
theorem dX7_begin_72 : decode cX7_begin 72 = .ok (.invokevirtual 60, 3) := by decide +kernel
theorem dX7_begin_75 : decode cX7_begin 75 = .ok (.iload_n 3, 1) := by decide +kernel
theorem dX7_begin_76 : decode cX7_begin 76 = .ok (.ireturn, 1) := by decide +kernel
set_option maxRecDepth 20000 in
theorem ggX7_set_X7_isRegister : GoodIn wsX7_set wsX7_isRegister := goodIn_r _ [6] (by decide +kernel) (by decide +kernel)
set_option maxRecDepth 20000 in
theorem gX7_set_X7_isRegister : GoodIn wsX7_set (va_wsS RX7 64 yX7_isRegister wsX7_isRegister) := goodIn_app (goodIn_of _ (by decide +kernel)) ggX7_set_X7_isRegister
set_option maxRecDepth 20000 in
theorem ggX7_set_X7_isPlace : GoodIn wsX7_set wsX7_isPlace := goodIn_r _ [10, 1, 35, 36, 37, 38, 39, 40, 41, 42, 43, 44, 45, 46, 47, 48, 49, 50, 51, 52, 53, 54] (by decide +kernel) (by decide +kernel)
set_option maxRecDepth 20000 in
theorem gX7_set_X7_isPlace : GoodIn wsX7_set (wsV RX7 68 RX7 yX7_isPlace wsX7_isPlace) := goodIn_app (goodIn_of _ (by decide +kernel)) ggX7_set_X7_isPlace
set_option maxRecDepth 20000 in
theorem ggX7_set_X2_remember : GoodIn wsX7_set wsX2_remember := goodIn_r _ [14, 15, 16, 17, 18, 19, 20, 21, 22, 23, 24, 25, 26, 27, 28, 29, 5, 30, 31, 32, 33, 34, 55, 56, 57, 52, 53, 54] (by decide +kernel) (by decide +kernel)
set_option maxRecDepth 20000 in
theorem gX7_set_X2_remember_n56 : GoodIn wsX7_set (wsX2_remember) := ggX7_set_X2_remember
theorem dX7_set_0 : decode cX7_set 0 = .ok (.iload_n 1, 1) := by decide +kernel
theorem dX7_set_1 : decode cX7_set 1 = .ok (.invokestatic 64, 3) := by decide +kernel
theorem dX7_set_4 : decode cX7_set 4 = .ok (.ifCond .eq 12, 3) := by decide +kernel
theorem dX7_set_7 : decode cX7_set 7 = .ok (.aload_n 0, 1) := by decide +kernel
theorem dX7_set_8 : decode cX7_set 8 = .ok (.iload_n 2, 1) := by decide +kernel
theorem dX7_set_9 : decode cX7_set 9 = .ok (.iload_n 3, 1) := by decide +kernel
theorem dX7_set_10 : decode cX7_set 10 = .ok (.invokevirtual 68, 3) := by decide +kernel
theorem dX7_set_13 : decode cX7_set 13 = .ok (.ifCond .ne 5, 3) := by decide +kernel
theorem dX7_set_16 : decode cX7_set 16 = .ok (.iconst (-1), 1) := by decide +kernel
theorem dX7_set_17 : decode cX7_set 17 = .ok (.ireturn, 1) := by decide +kernel
theorem dX7_set_18 : decode cX7_set 18 = .ok (.iload 4, 2) := by decide +kernel
theorem dX7_set_20 : decode cX7_set 20 = .ok (.ifCond .lt 18, 3) := by decide +kernel
theorem dX7_set_23 : decode cX7_set 23 = .ok (.iload 4, 2) := by decide +kernel
theorem dX7_set_25 : decode cX7_set 25 = .ok (.aload_n 0, 1) := by decide +kernel
theorem dX7_set_26 : decode cX7_set 26 = .ok (.getfield 12, 3) := by decide +kernel
theorem dX7_set_29 : decode cX7_set 29 = .ok (.getfield 48, 3) := by decide +kernel
theorem dX7_set_32 : decode cX7_set 32 = .ok (.getfield 72, 3) := by decide +kernel
theorem dX7_set_35 : decode cX7_set 35 = .ok (.if_icmp .lt 6, 3) := by decide +kernel
theorem dX7_set_38 : decode cX7_set 38 = .ok (.bipush (-2), 2) := by decide +kernel
theorem dX7_set_40 : decode cX7_set 40 = .ok (.ireturn, 1) := by decide +kernel
theorem dX7_set_41 : decode cX7_set 41 = .ok (.aload_n 0, 1) := by decide +kernel
theorem dX7_set_42 : decode cX7_set 42 = .ok (.getfield 33, 3) := by decide +kernel
theorem dX7_set_45 : decode cX7_set 45 = .ok (.aload_n 0, 1) := by decide +kernel
theorem dX7_set_46 : decode cX7_set 46 = .ok (.getfield 12, 3) := by decide +kernel
theorem dX7_set_49 : decode cX7_set 49 = .ok (.getfield 48, 3) := by decide +kernel
theorem dX7_set_52 : decode cX7_set 52 = .ok (.invokevirtual 56, 3) := by decide +kernel
theorem dX7_set_55 : decode cX7_set 55 = .ok (.aload_n 0, 1) := by decide +kernel
theorem dX7_set_56 : decode cX7_set 56 = .ok (.getfield 12, 3) := by decide +kernel
theorem dX7_set_59 : decode cX7_set 59 = .ok (.getfield 48, 3) := by decide +kernel
theorem dX7_set_62 : decode cX7_set 62 = .ok (.getfield 75, 3) := by decide +kernel
theorem dX7_set_65 : decode cX7_set 65 = .ok (.iload_n 1, 1) := by decide +kernel
theorem dX7_set_66 : decode cX7_set 66 = .ok (.aaload, 1) := by decide +kernel
theorem dX7_set_67 : decode cX7_set 67 = .ok (.astore 5, 2) := by decide +kernel
theorem dX7_set_69 : decode cX7_set 69 = .ok (.aload 5, 2) := by decide +kernel
theorem dX7_set_71 : decode cX7_set 71 = .ok (.iconst 3, 1) := by decide +kernel
theorem dX7_set_72 : decode cX7_set 72 = .ok (.iload_n 2, 1) := by decide +kernel
theorem dX7_set_73 : decode cX7_set 73 = .ok (.imul, 1) := by decide +kernel
theorem dX7_set_74 : decode cX7_set 74 = .ok (.iload_n 3, 1) := by decide +kernel
theorem dX7_set_75 : decode cX7_set 75 = .ok (.iadd, 1) := by decide +kernel
theorem dX7_set_76 : decode cX7_set 76 = .ok (.iaload, 1) := by decide +kernel
theorem dX7_set_77 : decode cX7_set 77 = .ok (.istore 6, 2) := by decide +kernel
theorem dX7_set_79 : decode cX7_set 79 = .ok (.aload 5, 2) := by decide +kernel
theorem dX7_set_81 : decode cX7_set 81 = .ok (.iconst 3, 1) := by decide +kernel
theorem dX7_set_82 : decode cX7_set 82 = .ok (.iload_n 2, 1) := by decide +kernel
theorem dX7_set_83 : decode cX7_set 83 = .ok (.imul, 1) := by decide +kernel
theorem dX7_set_84 : decode cX7_set 84 = .ok (.iload_n 3, 1) := by decide +kernel
theorem dX7_set_85 : decode cX7_set 85 = .ok (.iadd, 1) := by decide +kernel
theorem dX7_set_86 : decode cX7_set 86 = .ok (.iload 4, 2) := by decide +kernel
theorem dX7_set_88 : decode cX7_set 88 = .ok (.iastore, 1) := by decide +kernel
theorem dX7_set_89 : decode cX7_set 89 = .ok (.aload 5, 2) := by decide +kernel
theorem dX7_set_91 : decode cX7_set 91 = .ok (.iconst 3, 1) := by decide +kernel
theorem dX7_set_92 : decode cX7_set 92 = .ok (.iload_n 3, 1) := by decide +kernel
theorem dX7_set_93 : decode cX7_set 93 = .ok (.imul, 1) := by decide +kernel
theorem dX7_set_94 : decode cX7_set 94 = .ok (.iload_n 2, 1) := by decide +kernel
theorem dX7_set_95 : decode cX7_set 95 = .ok (.iadd, 1) := by decide +kernel
theorem dX7_set_96 : decode cX7_set 96 = .ok (.iload 4, 2) := by decide +kernel
theorem dX7_set_98 : decode cX7_set 98 = .ok (.iastore, 1) := by decide +kernel
theorem dX7_set_99 : decode cX7_set 99 = .ok (.iload 6, 2) := by decide +kernel
theorem dX7_set_101 : decode cX7_set 101 = .ok (.ireturn, 1) := by decide +kernel
set_option maxRecDepth 20000 in
theorem ggX7_base_X7_isRegister : GoodIn wsX7_base wsX7_isRegister := goodIn_r _ [6] (by decide +kernel) (by decide +kernel)
set_option maxRecDepth 20000 in
theorem gX7_base_X7_isRegister : GoodIn wsX7_base (va_wsS RX7 64 yX7_isRegister wsX7_isRegister) := goodIn_app (goodIn_of _ (by decide +kernel)) ggX7_base_X7_isRegister
set_option maxRecDepth 20000 in
theorem ggX7_base_X0_determinant : GoodIn wsX7_base wsX0_determinant := goodIn_r _ [10, 11, 12, 13, 14, 15, 16, 17, 18, 19, 20, 21, 22, 23, 24, 25, 26, 27, 28, 29, 30, 31, 32, 33, 34, 35, 36, 37, 38, 39, 5, 40, 41, 42, 43, 44, 93, 94, 95, 96, 97, 98, 99, 100, 101, 102, 103, 104, 105, 106, 107, 108, 109] (by decide +kernel) (by decide +kernel)
set_option maxRecDepth 20000 in
theorem gX7_base_X0_determinant_n79 : GoodIn wsX7_base (wsX0_determinant) := ggX7_base_X0_determinant
set_option maxRecDepth 20000 in
theorem ggX7_base_X2_remember : GoodIn wsX7_base wsX2_remember := goodIn_r _ [48, 49, 50, 51, 52, 53, 54, 55, 56, 57, 58, 59, 60, 61, 62, 63, 5, 64, 65, 66, 67, 68, 110, 111, 112, 104, 105, 106] (by decide +kernel) (by decide +kernel)
set_option maxRecDepth 20000 in
theorem gX7_base_X2_remember_n56 : GoodIn wsX7_base (wsX2_remember) := ggX7_base_X2_remember
set_option maxRecDepth 20000 in
theorem ggX7_base_X0_takeIdentityAsBase : GoodIn wsX7_base wsX0_takeIdentityAsBase := goodIn_r _ [71, 12, 72, 57, 73, 74, 60, 75, 76, 77, 8, 78, 93, 94, 95, 96, 97, 98, 99, 100, 101, 102, 103, 104, 105, 106] (by decide +kernel) (by decide +kernel)
set_option maxRecDepth 20000 in
theorem gX7_base_X0_takeIdentityAsBase_n83 : GoodIn wsX7_base (wsX0_takeIdentityAsBase) := ggX7_base_X0_takeIdentityAsBase
set_option maxRecDepth 20000 in
theorem ggX7_base_X0_takeAsBase : GoodIn wsX7_base wsX0_takeAsBase := goodIn_r _ [81, 12, 82, 7, 9, 8, 10, 11, 13, 14, 15, 16, 17, 18, 19, 20, 21, 22, 23, 24, 25, 26, 27, 28, 29, 30, 31, 32, 33, 34, 35, 36, 37, 38, 39, 5, 40, 41, 42, 43, 44, 75, 76, 77, 78, 83, 84, 85, 86, 63, 64, 65, 66, 67, 68, 93, 94, 95, 96, 97, 98, 99, 100, 101, 102, 103, 104, 105, 106, 107, 108, 109] (by decide +kernel) (by decide +kernel)
set_option maxRecDepth 20000 in
theorem gX7_base_X0_takeAsBase_n86 : GoodIn wsX7_base (wsX0_takeAsBase) := ggX7_base_X0_takeAsBase
theorem dX7_base_0 : decode cX7_base 0 = .ok (.iload_n 1, 1) := by decide +kernel
theorem dX7_base_1 : decode cX7_base 1 = .ok (.bipush (-6), 2) := by decide +kernel
theorem dX7_base_3 : decode cX7_base 3 = .ok (.if_icmp .eq 12, 3) := by decide +kernel
theorem dX7_base_6 : decode cX7_base 6 = .ok (.iload_n 1, 1) := by decide +kernel
theorem dX7_base_7 : decode cX7_base 7 = .ok (.invokestatic 64, 3) := by decide +kernel
theorem dX7_base_10 : decode cX7_base 10 = .ok (.ifCond .ne 5, 3) := by decide +kernel
theorem dX7_base_13 : decode cX7_base 13 = .ok (.iconst (-1), 1) := by decide +kernel
theorem dX7_base_14 : decode cX7_base 14 = .ok (.ireturn, 1) := by decide +kernel
theorem dX7_base_15 : decode cX7_base 15 = .ok (.iload_n 1, 1) := by decide +kernel
theorem dX7_base_16 : decode cX7_base 16 = .ok (.bipush (-6), 2) := by decide +kernel
theorem dX7_base_18 : decode cX7_base 18 = .ok (.if_icmp .ne 7, 3) := by decide +kernel
theorem dX7_base_21 : decode cX7_base 21 = .ok (.iconst 1, 1) := by decide +kernel
theorem dX7_base_22 : decode cX7_base 22 = .ok (.goto 22, 3) := by decide +kernel
theorem dX7_base_25 : decode cX7_base 25 = .ok (.aload_n 0, 1) := by decide +kernel
theorem dX7_base_26 : decode cX7_base 26 = .ok (.getfield 12, 3) := by decide +kernel
theorem dX7_base_29 : decode cX7_base 29 = .ok (.aload_n 0, 1) := by decide +kernel
theorem dX7_base_30 : decode cX7_base 30 = .ok (.getfield 12, 3) := by decide +kernel
theorem dX7_base_33 : decode cX7_base 33 = .ok (.getfield 48, 3) := by decide +kernel
theorem dX7_base_36 : decode cX7_base 36 = .ok (.getfield 75, 3) := by decide +kernel
theorem dX7_base_39 : decode cX7_base 39 = .ok (.iload_n 1, 1) := by decide +kernel
theorem dX7_base_40 : decode cX7_base 40 = .ok (.aaload, 1) := by decide +kernel
theorem dX7_base_41 : decode cX7_base 41 = .ok (.invokevirtual 79, 3) := by decide +kernel
theorem dX7_base_44 : decode cX7_base 44 = .ok (.istore_n 2, 1) := by decide +kernel
theorem dX7_base_45 : decode cX7_base 45 = .ok (.iload_n 2, 1) := by decide +kernel
theorem dX7_base_46 : decode cX7_base 46 = .ok (.ifCond .ne 6, 3) := by decide +kernel
theorem dX7_base_49 : decode cX7_base 49 = .ok (.bipush (-5), 2) := by decide +kernel
theorem dX7_base_51 : decode cX7_base 51 = .ok (.ireturn, 1) := by decide +kernel
theorem dX7_base_52 : decode cX7_base 52 = .ok (.aload_n 0, 1) := by decide +kernel
theorem dX7_base_53 : decode cX7_base 53 = .ok (.getfield 33, 3) := by decide +kernel
theorem dX7_base_56 : decode cX7_base 56 = .ok (.aload_n 0, 1) := by decide +kernel
theorem dX7_base_57 : decode cX7_base 57 = .ok (.getfield 12, 3) := by decide +kernel
theorem dX7_base_60 : decode cX7_base 60 = .ok (.getfield 48, 3) := by decide +kernel
theorem dX7_base_63 : decode cX7_base 63 = .ok (.invokevirtual 56, 3) := by decide +kernel
theorem dX7_base_66 : decode cX7_base 66 = .ok (.iload_n 1, 1) := by decide +kernel
theorem dX7_base_67 : decode cX7_base 67 = .ok (.bipush (-6), 2) := by decide +kernel
theorem dX7_base_69 : decode cX7_base 69 = .ok (.if_icmp .ne 13, 3) := by decide +kernel
theorem dX7_base_72 : decode cX7_base 72 = .ok (.aload_n 0, 1) := by decide +kernel
theorem dX7_base_73 : decode cX7_base 73 = .ok (.getfield 12, 3) := by decide +kernel
theorem dX7_base_76 : decode cX7_base 76 = .ok (.invokevirtual 83, 3) := by decide +kernel
theorem dX7_base_79 : decode cX7_base 79 = .ok (.goto 22, 3) := by decide +kernel
theorem dX7_base_82 : decode cX7_base 82 = .ok (.aload_n 0, 1) := by decide +kernel
theorem dX7_base_83 : decode cX7_base 83 = .ok (.getfield 12, 3) := by decide +kernel
theorem dX7_base_86 : decode cX7_base 86 = .ok (.aload_n 0, 1) := by decide +kernel
theorem dX7_base_87 : decode cX7_base 87 = .ok (.getfield 12, 3) := by decide +kernel
theorem dX7_base_90 : decode cX7_base 90 = .ok (.getfield 48, 3) := by decide +kernel
theorem dX7_base_93 : decode cX7_base 93 = .ok (.getfield 75, 3) := by decide +kernel
theorem dX7_base_96 : decode cX7_base 96 = .ok (.iload_n 1, 1) := by decide +kernel
theorem dX7_base_97 : decode cX7_base 97 = .ok (.aaload, 1) := by decide +kernel
theorem dX7_base_98 : decode cX7_base 98 = .ok (.invokevirtual 86, 3) := by decide +kernel
theorem dX7_base_101 : decode cX7_base 101 = .ok (.iload_n 2, 1) := by decide +kernel
theorem dX7_base_102 : decode cX7_base 102 = .ok (.ireturn, 1) := by decide +kernel
set_option maxRecDepth 20000 in
theorem ggX7_split_X7_isRegister : GoodIn wsX7_split wsX7_isRegister := goodIn_r _ [6] (by decide +kernel) (by decide +kernel)
set_option maxRecDepth 20000 in
theorem gX7_split_X7_isRegister : GoodIn wsX7_split (va_wsS RX7 64 yX7_isRegister wsX7_isRegister) := goodIn_app (goodIn_of _ (by decide +kernel)) ggX7_split_X7_isRegister
set_option maxRecDepth 20000 in
theorem ggX7_split_X0_isOwnSquare : GoodIn wsX7_split wsX0_isOwnSquare := goodIn_r _ [10, 11, 12, 13, 14, 8, 15, 16, 17, 18, 19, 20, 21, 22, 23, 5, 24, 25, 26, 27, 28, 29, 30, 81, 82, 83, 84, 85, 86, 87, 88, 89, 90, 91, 92, 93, 94] (by decide +kernel) (by decide +kernel)
set_option maxRecDepth 20000 in
theorem gX7_split_X0_isOwnSquare_n90 : GoodIn wsX7_split (wsX0_isOwnSquare) := ggX7_split_X0_isOwnSquare
set_option maxRecDepth 20000 in
theorem ggX7_split_X2_remember : GoodIn wsX7_split wsX2_remember := goodIn_r _ [34, 35, 36, 37, 38, 39, 40, 41, 42, 43, 44, 45, 46, 47, 48, 49, 5, 50, 51, 52, 53, 54, 95, 96, 97, 92, 93, 94] (by decide +kernel) (by decide +kernel)
set_option maxRecDepth 20000 in
theorem gX7_split_X2_remember_n56 : GoodIn wsX7_split (wsX2_remember) := ggX7_split_X2_remember
set_option maxRecDepth 20000 in
theorem ggX7_split_X0_findParts : GoodIn wsX7_split wsX0_findParts := goodIn_r _ [57, 58, 16, 59, 60, 61, 8, 62, 63, 64, 65, 66, 17, 18, 19, 20, 21, 22, 23, 5, 24, 25, 26, 27, 28, 67, 68, 69, 70, 81, 82, 83, 84, 85, 86, 87, 88, 89, 90, 91, 92, 93, 94] (by decide +kernel) (by decide +kernel)
set_option maxRecDepth 20000 in
theorem gX7_split_X0_findParts_n94 : GoodIn wsX7_split (wsX0_findParts) := ggX7_split_X0_findParts
set_option maxRecDepth 20000 in
theorem ggX7_split_X7_copy : GoodIn wsX7_split wsX7_copy := goodIn_r _ [50, 51, 52, 53, 54] (by decide +kernel) (by decide +kernel)
set_option maxRecDepth 20000 in
theorem gX7_split_X7_copy : GoodIn wsX7_split (va_wsS RX7 101 yX7_copy wsX7_copy) := goodIn_app (goodIn_of _ (by decide +kernel)) ggX7_split_X7_copy
set_option maxRecDepth 20000 in
theorem ggX7_split_X7_isZero : GoodIn wsX7_split wsX7_isZero := goodIn_r _ [74] (by decide +kernel) (by decide +kernel)
set_option maxRecDepth 20000 in
theorem gX7_split_X7_isZero : GoodIn wsX7_split (va_wsS RX7 104 yX7_isZero wsX7_isZero) := goodIn_app (goodIn_of _ (by decide +kernel)) ggX7_split_X7_isZero
theorem dX7_split_0 : decode cX7_split 0 = .ok (.iload_n 1, 1) := by decide +kernel
theorem dX7_split_1 : decode cX7_split 1 = .ok (.invokestatic 64, 3) := by decide +kernel
theorem dX7_split_4 : decode cX7_split 4 = .ok (.ifCond .eq 19, 3) := by decide +kernel
theorem dX7_split_7 : decode cX7_split 7 = .ok (.iload_n 2, 1) := by decide +kernel
theorem dX7_split_8 : decode cX7_split 8 = .ok (.invokestatic 64, 3) := by decide +kernel
theorem dX7_split_11 : decode cX7_split 11 = .ok (.ifCond .eq 12, 3) := by decide +kernel
theorem dX7_split_14 : decode cX7_split 14 = .ok (.iload_n 3, 1) := by decide +kernel
theorem dX7_split_15 : decode cX7_split 15 = .ok (.ifCond .lt 8, 3) := by decide +kernel
theorem dX7_split_18 : decode cX7_split 18 = .ok (.iload_n 3, 1) := by decide +kernel
theorem dX7_split_19 : decode cX7_split 19 = .ok (.iconst 5, 1) := by decide +kernel
theorem dX7_split_20 : decode cX7_split 20 = .ok (.if_icmp .le 5, 3) := by decide +kernel
theorem dX7_split_23 : decode cX7_split 23 = .ok (.iconst (-1), 1) := by decide +kernel
theorem dX7_split_24 : decode cX7_split 24 = .ok (.ireturn, 1) := by decide +kernel
theorem dX7_split_25 : decode cX7_split 25 = .ok (.aload_n 0, 1) := by decide +kernel
theorem dX7_split_26 : decode cX7_split 26 = .ok (.getfield 12, 3) := by decide +kernel
theorem dX7_split_29 : decode cX7_split 29 = .ok (.getfield 48, 3) := by decide +kernel
theorem dX7_split_32 : decode cX7_split 32 = .ok (.getfield 75, 3) := by decide +kernel
theorem dX7_split_35 : decode cX7_split 35 = .ok (.astore 4, 2) := by decide +kernel
theorem dX7_split_37 : decode cX7_split 37 = .ok (.aload_n 0, 1) := by decide +kernel
theorem dX7_split_38 : decode cX7_split 38 = .ok (.getfield 12, 3) := by decide +kernel
theorem dX7_split_41 : decode cX7_split 41 = .ok (.aload 4, 2) := by decide +kernel
theorem dX7_split_43 : decode cX7_split 43 = .ok (.iload_n 1, 1) := by decide +kernel
theorem dX7_split_44 : decode cX7_split 44 = .ok (.aaload, 1) := by decide +kernel
theorem dX7_split_45 : decode cX7_split 45 = .ok (.invokevirtual 90, 3) := by decide +kernel
theorem dX7_split_48 : decode cX7_split 48 = .ok (.ifCond .ne 6, 3) := by decide +kernel
theorem dX7_split_51 : decode cX7_split 51 = .ok (.bipush (-5), 2) := by decide +kernel
theorem dX7_split_53 : decode cX7_split 53 = .ok (.ireturn, 1) := by decide +kernel
theorem dX7_split_54 : decode cX7_split 54 = .ok (.aload_n 0, 1) := by decide +kernel
theorem dX7_split_55 : decode cX7_split 55 = .ok (.getfield 33, 3) := by decide +kernel
theorem dX7_split_58 : decode cX7_split 58 = .ok (.aload_n 0, 1) := by decide +kernel
theorem dX7_split_59 : decode cX7_split 59 = .ok (.getfield 12, 3) := by decide +kernel
theorem dX7_split_62 : decode cX7_split 62 = .ok (.getfield 48, 3) := by decide +kernel
theorem dX7_split_65 : decode cX7_split 65 = .ok (.invokevirtual 56, 3) := by decide +kernel
theorem dX7_split_68 : decode cX7_split 68 = .ok (.aload_n 0, 1) := by decide +kernel
theorem dX7_split_69 : decode cX7_split 69 = .ok (.getfield 12, 3) := by decide +kernel
theorem dX7_split_72 : decode cX7_split 72 = .ok (.aload 4, 2) := by decide +kernel
theorem dX7_split_74 : decode cX7_split 74 = .ok (.iload_n 1, 1) := by decide +kernel
theorem dX7_split_75 : decode cX7_split 75 = .ok (.aaload, 1) := by decide +kernel
theorem dX7_split_76 : decode cX7_split 76 = .ok (.aload 4, 2) := by decide +kernel
theorem dX7_split_78 : decode cX7_split 78 = .ok (.iload_n 2, 1) := by decide +kernel
theorem dX7_split_79 : decode cX7_split 79 = .ok (.aaload, 1) := by decide +kernel
theorem dX7_split_80 : decode cX7_split 80 = .ok (.invokevirtual 94, 3) := by decide +kernel
theorem dX7_split_83 : decode cX7_split 83 = .ok (.iconst 0, 1) := by decide +kernel
theorem dX7_split_84 : decode cX7_split 84 = .ok (.istore 5, 2) := by decide +kernel
theorem dX7_split_86 : decode cX7_split 86 = .ok (.iconst 0, 1) := by decide +kernel
theorem dX7_split_87 : decode cX7_split 87 = .ok (.istore 6, 2) := by decide +kernel
theorem dX7_split_89 : decode cX7_split 89 = .ok (.iload 6, 2) := by decide +kernel
theorem dX7_split_91 : decode cX7_split 91 = .ok (.iconst 3, 1) := by decide +kernel
theorem dX7_split_92 : decode cX7_split 92 = .ok (.if_icmp .ge 59, 3) := by decide +kernel
theorem dX7_split_95 : decode cX7_split 95 = .ok (.aload_n 0, 1) := by decide +kernel
theorem dX7_split_96 : decode cX7_split 96 = .ok (.getfield 12, 3) := by decide +kernel
theorem dX7_split_99 : decode cX7_split 99 = .ok (.getfield 98, 3) := by decide +kernel
theorem dX7_split_102 : decode cX7_split 102 = .ok (.iload 6, 2) := by decide +kernel
theorem dX7_split_104 : decode cX7_split 104 = .ok (.aaload, 1) := by decide +kernel
theorem dX7_split_105 : decode cX7_split 105 = .ok (.aload 4, 2) := by decide +kernel
theorem dX7_split_107 : decode cX7_split 107 = .ok (.iload_n 3, 1) := by decide +kernel
theorem dX7_split_108 : decode cX7_split 108 = .ok (.iconst 3, 1) := by decide +kernel
theorem dX7_split_109 : decode cX7_split 109 = .ok (.iadd, 1) := by decide +kernel
theorem dX7_split_110 : decode cX7_split 110 = .ok (.iconst 1, 1) := by decide +kernel
theorem dX7_split_111 : decode cX7_split 111 = .ok (.isub, 1) := by decide +kernel
theorem dX7_split_112 : decode cX7_split 112 = .ok (.iload 6, 2) := by decide +kernel
theorem dX7_split_114 : decode cX7_split 114 = .ok (.isub, 1) := by decide +kernel
theorem dX7_split_115 : decode cX7_split 115 = .ok (.aaload, 1) := by decide +kernel
theorem dX7_split_116 : decode cX7_split 116 = .ok (.invokestatic 101, 3) := by decide +kernel
theorem dX7_split_119 : decode cX7_split 119 = .ok (.iload 5, 2) := by decide +kernel
theorem dX7_split_121 : decode cX7_split 121 = .ok (.aload_n 0, 1) := by decide +kernel
theorem dX7_split_122 : decode cX7_split 122 = .ok (.getfield 12, 3) := by decide +kernel
theorem dX7_split_125 : decode cX7_split 125 = .ok (.getfield 98, 3) := by decide +kernel
theorem dX7_split_128 : decode cX7_split 128 = .ok (.iload 6, 2) := by decide +kernel
theorem dX7_split_130 : decode cX7_split 130 = .ok (.aaload, 1) := by decide +kernel
theorem dX7_split_131 : decode cX7_split 131 = .ok (.invokestatic 104, 3) := by decide +kernel
theorem dX7_split_134 : decode cX7_split 134 = .ok (.ifCond .eq 7, 3) := by decide +kernel
theorem dX7_split_137 : decode cX7_split 137 = .ok (.iconst 0, 1) := by decide +kernel
theorem dX7_split_138 : decode cX7_split 138 = .ok (.goto 4, 3) := by decide +kernel
theorem dX7_split_141 : decode cX7_split 141 = .ok (.iconst 1, 1) := by decide +kernel
theorem dX7_split_142 : decode cX7_split 142 = .ok (.iadd, 1) := by decide +kernel
theorem dX7_split_143 : decode cX7_split 143 = .ok (.istore 5, 2) := by decide +kernel
theorem dX7_split_145 : decode cX7_split 145 = .ok (.iinc 6 1, 3) := by decide +kernel
theorem dX7_split_148 : decode cX7_split 148 = .ok (.goto (-59), 3) := by decide +kernel
theorem dX7_split_151 : decode cX7_split 151 = .ok (.iload 5, 2) := by decide +kernel
theorem dX7_split_153 : decode cX7_split 153 = .ok (.ireturn, 1) := by decide +kernel
set_option maxRecDepth 20000 in
theorem ggX7_run_X3_findFault : GoodIn wsX7_run wsX3_findFault := goodIn_r _ [8, 9, 10, 11, 12, 13, 14, 15, 16, 17, 6, 18, 19, 20, 21, 22, 23, 24, 25, 26, 27, 28, 29, 30, 31, 32, 33, 34, 35, 36, 37, 38, 39, 40, 41, 42, 43, 44, 45, 46, 211, 212, 213, 214, 215, 216, 217] (by decide +kernel) (by decide +kernel)
set_option maxRecDepth 20000 in
theorem gX7_run_X3_findFault_n107 : GoodIn wsX7_run (wsX3_findFault) := ggX7_run_X3_findFault
set_option maxRecDepth 20000 in
theorem ggX7_run_X3_target : GoodIn wsX7_run wsX3_target := goodIn_r _ [49, 13, 14, 27, 28, 29, 211, 212, 213, 214, 215, 216, 217] (by decide +kernel) (by decide +kernel)
set_option maxRecDepth 20000 in
theorem gX7_run_X3_target_n111 : GoodIn wsX7_run (wsX3_target) := ggX7_run_X3_target
set_option maxRecDepth 20000 in
theorem ggX7_run_X7_isRegister : GoodIn wsX7_run wsX7_isRegister := goodIn_r _ [52] (by decide +kernel) (by decide +kernel)
set_option maxRecDepth 20000 in
theorem gX7_run_X7_isRegister : GoodIn wsX7_run (va_wsS RX7 64 yX7_isRegister wsX7_isRegister) := goodIn_app (goodIn_of _ (by decide +kernel)) ggX7_run_X7_isRegister
set_option maxRecDepth 20000 in
theorem ggX7_run_X4_carryOut : GoodIn wsX7_run wsX4_carryOut := goodIn_r _ [56, 57, 58, 59, 60, 61, 62, 63, 64, 65, 66, 67, 68, 69, 70, 71, 72, 47, 6, 48, 49, 13, 14, 27, 28, 29, 73, 74, 75, 54, 76, 77, 78, 79, 80, 81, 82, 83, 84, 85, 86, 87, 88, 89, 90, 91, 92, 93, 94, 95, 96, 97, 98, 99, 100, 101, 102, 103, 104, 105, 106, 107, 108, 109, 110, 111, 112, 113, 114, 115, 116, 117, 118, 119, 120, 121, 122, 123, 124, 125, 126, 127, 128, 129, 130, 131, 132, 133, 134, 135, 136, 137, 138, 139, 140, 141, 142, 143, 144, 145, 146, 147, 148, 149, 150, 151, 152, 153, 154, 155, 156, 157, 158, 159, 160, 161, 162, 163, 164, 165, 166, 167, 168, 218, 219, 220, 211, 212, 213, 214, 215, 216, 217, 221, 222, 223, 224, 225, 226, 227, 228, 197, 198, 199, 200, 201, 202, 203, 204, 205, 206, 207, 208, 209, 210, 229, 230, 231] (by decide +kernel) (by decide +kernel)
set_option maxRecDepth 20000 in
theorem gX7_run_X4_carryOut_n114 : GoodIn wsX7_run (wsX4_carryOut) := ggX7_run_X4_carryOut
set_option maxRecDepth 20000 in
theorem ggX7_run_X2_remember : GoodIn wsX7_run wsX2_remember := goodIn_r _ [172, 173, 174, 175, 176, 177, 178, 179, 180, 181, 182, 183, 184, 185, 186, 163, 28, 164, 165, 166, 167, 168, 232, 233, 234, 208, 209, 210] (by decide +kernel) (by decide +kernel)
set_option maxRecDepth 20000 in
theorem gX7_run_X2_remember_n56 : GoodIn wsX7_run (wsX2_remember) := ggX7_run_X2_remember
set_option maxRecDepth 20000 in
theorem ggX7_run_X4_result : GoodIn wsX7_run wsX4_result := goodIn_r _ [189, 58, 218, 219, 220, 221, 222, 223, 224, 225, 226, 227, 228] (by decide +kernel) (by decide +kernel)
set_option maxRecDepth 20000 in
theorem gX7_run_X4_result_n118 : GoodIn wsX7_run (wsX4_result) := ggX7_run_X4_result
set_option maxRecDepth 20000 in
theorem ggX7_run_X7_copy : GoodIn wsX7_run wsX7_copy := goodIn_r _ [164, 165, 166, 167, 168] (by decide +kernel) (by decide +kernel)
set_option maxRecDepth 20000 in
theorem gX7_run_X7_copy : GoodIn wsX7_run (va_wsS RX7 101 yX7_copy wsX7_copy) := goodIn_app (goodIn_of _ (by decide +kernel)) ggX7_run_X7_copy
theorem dX7_run_0 : decode cX7_run 0 = .ok (.aload_n 0, 1) := by decide +kernel
theorem dX7_run_1 : decode cX7_run 1 = .ok (.getfield 19, 3) := by decide +kernel
theorem dX7_run_4 : decode cX7_run 4 = .ok (.invokevirtual 107, 3) := by decide +kernel
theorem dX7_run_7 : decode cX7_run 7 = .ok (.bipush (-6), 2) := by decide +kernel
theorem dX7_run_9 : decode cX7_run 9 = .ok (.if_icmp .eq 6, 3) := by decide +kernel
theorem dX7_run_12 : decode cX7_run 12 = .ok (.bipush (-3), 2) := by decide +kernel
theorem dX7_run_14 : decode cX7_run 14 = .ok (.ireturn, 1) := by decide +kernel
theorem dX7_run_15 : decode cX7_run 15 = .ok (.aload_n 0, 1) := by decide +kernel
theorem dX7_run_16 : decode cX7_run 16 = .ok (.getfield 19, 3) := by decide +kernel
theorem dX7_run_19 : decode cX7_run 19 = .ok (.invokevirtual 111, 3) := by decide +kernel
theorem dX7_run_22 : decode cX7_run 22 = .ok (.istore_n 1, 1) := by decide +kernel
theorem dX7_run_23 : decode cX7_run 23 = .ok (.iload_n 1, 1) := by decide +kernel
theorem dX7_run_24 : decode cX7_run 24 = .ok (.invokestatic 64, 3) := by decide +kernel
theorem dX7_run_27 : decode cX7_run 27 = .ok (.ifCond .eq 23, 3) := by decide +kernel
theorem dX7_run_30 : decode cX7_run 30 = .ok (.aload_n 0, 1) := by decide +kernel
theorem dX7_run_31 : decode cX7_run 31 = .ok (.getfield 26, 3) := by decide +kernel
theorem dX7_run_34 : decode cX7_run 34 = .ok (.aload_n 0, 1) := by decide +kernel
theorem dX7_run_35 : decode cX7_run 35 = .ok (.getfield 19, 3) := by decide +kernel
theorem dX7_run_38 : decode cX7_run 38 = .ok (.aload_n 0, 1) := by decide +kernel
theorem dX7_run_39 : decode cX7_run 39 = .ok (.getfield 12, 3) := by decide +kernel
theorem dX7_run_42 : decode cX7_run 42 = .ok (.invokevirtual 114, 3) := by decide +kernel
theorem dX7_run_45 : decode cX7_run 45 = .ok (.bipush (-6), 2) := by decide +kernel
theorem dX7_run_47 : decode cX7_run 47 = .ok (.if_icmp .eq 6, 3) := by decide +kernel
theorem dX7_run_50 : decode cX7_run 50 = .ok (.bipush (-5), 2) := by decide +kernel
theorem dX7_run_52 : decode cX7_run 52 = .ok (.ireturn, 1) := by decide +kernel
theorem dX7_run_53 : decode cX7_run 53 = .ok (.aload_n 0, 1) := by decide +kernel
theorem dX7_run_54 : decode cX7_run 54 = .ok (.getfield 33, 3) := by decide +kernel
theorem dX7_run_57 : decode cX7_run 57 = .ok (.aload_n 0, 1) := by decide +kernel
theorem dX7_run_58 : decode cX7_run 58 = .ok (.getfield 12, 3) := by decide +kernel
theorem dX7_run_61 : decode cX7_run 61 = .ok (.getfield 48, 3) := by decide +kernel
theorem dX7_run_64 : decode cX7_run 64 = .ok (.invokevirtual 56, 3) := by decide +kernel
theorem dX7_run_67 : decode cX7_run 67 = .ok (.aload_n 0, 1) := by decide +kernel
theorem dX7_run_68 : decode cX7_run 68 = .ok (.getfield 26, 3) := by decide +kernel
theorem dX7_run_71 : decode cX7_run 71 = .ok (.invokevirtual 118, 3) := by decide +kernel
theorem dX7_run_74 : decode cX7_run 74 = .ok (.aload_n 0, 1) := by decide +kernel
theorem dX7_run_75 : decode cX7_run 75 = .ok (.getfield 12, 3) := by decide +kernel
theorem dX7_run_78 : decode cX7_run 78 = .ok (.getfield 48, 3) := by decide +kernel
theorem dX7_run_81 : decode cX7_run 81 = .ok (.getfield 75, 3) := by decide +kernel
theorem dX7_run_84 : decode cX7_run 84 = .ok (.iload_n 1, 1) := by decide +kernel
theorem dX7_run_85 : decode cX7_run 85 = .ok (.aaload, 1) := by decide +kernel
theorem dX7_run_86 : decode cX7_run 86 = .ok (.invokestatic 101, 3) := by decide +kernel
theorem dX7_run_89 : decode cX7_run 89 = .ok (.aload_n 0, 1) := by decide +kernel
theorem dX7_run_90 : decode cX7_run 90 = .ok (.getfield 19, 3) := by decide +kernel
theorem dX7_run_93 : decode cX7_run 93 = .ok (.iconst 0, 1) := by decide +kernel
theorem dX7_run_94 : decode cX7_run 94 = .ok (.putfield 122, 3) := by decide +kernel
theorem dX7_run_97 : decode cX7_run 97 = .ok (.iload_n 1, 1) := by decide +kernel
theorem dX7_run_98 : decode cX7_run 98 = .ok (.ireturn, 1) := by decide +kernel
set_option maxRecDepth 20000 in
theorem ggX7_entry_X7_isElement : GoodIn wsX7_entry wsX7_isElement := goodIn_r _ [5] (by decide +kernel) (by decide +kernel)
set_option maxRecDepth 20000 in
theorem gX7_entry_X7_isElement : GoodIn wsX7_entry (va_wsS RX7 125 yX7_isElement wsX7_isElement) := goodIn_app (goodIn_of _ (by decide +kernel)) ggX7_entry_X7_isElement
set_option maxRecDepth 20000 in
theorem ggX7_entry_X7_isPlace : GoodIn wsX7_entry wsX7_isPlace := goodIn_r _ [9, 1, 10, 11, 12, 13, 14, 15, 16, 17, 18, 19, 20, 21, 22, 23, 24, 25, 26, 27, 28, 29] (by decide +kernel) (by decide +kernel)
set_option maxRecDepth 20000 in
theorem gX7_entry_X7_isPlace : GoodIn wsX7_entry (wsV RX7 68 RX7 yX7_isPlace wsX7_isPlace) := goodIn_app (goodIn_of _ (by decide +kernel)) ggX7_entry_X7_isPlace
theorem dX7_entry_0 : decode cX7_entry 0 = .ok (.iload_n 1, 1) := by decide +kernel
theorem dX7_entry_1 : decode cX7_entry 1 = .ok (.invokestatic 125, 3) := by decide +kernel
theorem dX7_entry_4 : decode cX7_entry 4 = .ok (.ifCond .eq 12, 3) := by decide +kernel
theorem dX7_entry_7 : decode cX7_entry 7 = .ok (.aload_n 0, 1) := by decide +kernel
theorem dX7_entry_8 : decode cX7_entry 8 = .ok (.iload_n 2, 1) := by decide +kernel
theorem dX7_entry_9 : decode cX7_entry 9 = .ok (.iload_n 3, 1) := by decide +kernel
theorem dX7_entry_10 : decode cX7_entry 10 = .ok (.invokevirtual 68, 3) := by decide +kernel
theorem dX7_entry_13 : decode cX7_entry 13 = .ok (.ifCond .ne 5, 3) := by decide +kernel
theorem dX7_entry_16 : decode cX7_entry 16 = .ok (.iconst (-1), 1) := by decide +kernel
theorem dX7_entry_17 : decode cX7_entry 17 = .ok (.ireturn, 1) := by decide +kernel
theorem dX7_entry_18 : decode cX7_entry 18 = .ok (.aload_n 0, 1) := by decide +kernel
theorem dX7_entry_19 : decode cX7_entry 19 = .ok (.getfield 12, 3) := by decide +kernel
theorem dX7_entry_22 : decode cX7_entry 22 = .ok (.getfield 48, 3) := by decide +kernel
theorem dX7_entry_25 : decode cX7_entry 25 = .ok (.getfield 75, 3) := by decide +kernel
theorem dX7_entry_28 : decode cX7_entry 28 = .ok (.iload_n 1, 1) := by decide +kernel
theorem dX7_entry_29 : decode cX7_entry 29 = .ok (.aaload, 1) := by decide +kernel
theorem dX7_entry_30 : decode cX7_entry 30 = .ok (.iconst 3, 1) := by decide +kernel
theorem dX7_entry_31 : decode cX7_entry 31 = .ok (.iload_n 2, 1) := by decide +kernel
theorem dX7_entry_32 : decode cX7_entry 32 = .ok (.imul, 1) := by decide +kernel
theorem dX7_entry_33 : decode cX7_entry 33 = .ok (.iload_n 3, 1) := by decide +kernel
theorem dX7_entry_34 : decode cX7_entry 34 = .ok (.iadd, 1) := by decide +kernel
theorem dX7_entry_35 : decode cX7_entry 35 = .ok (.iaload, 1) := by decide +kernel
theorem dX7_entry_36 : decode cX7_entry 36 = .ok (.ireturn, 1) := by decide +kernel
set_option maxRecDepth 20000 in
theorem ggX7_of_X7_isElement : GoodIn wsX7_of wsX7_isElement := goodIn_r _ [5] (by decide +kernel) (by decide +kernel)
set_option maxRecDepth 20000 in
theorem gX7_of_X7_isElement : GoodIn wsX7_of (va_wsS RX7 125 yX7_isElement wsX7_isElement) := goodIn_app (goodIn_of _ (by decide +kernel)) ggX7_of_X7_isElement
set_option maxRecDepth 20000 in
theorem ggX7_of_X0_trace : GoodIn wsX7_of wsX0_trace := goodIn_r _ [9, 10, 11, 4, 12, 103, 104, 105, 106, 107, 108, 109, 110, 111, 112, 113, 114, 115, 116] (by decide +kernel) (by decide +kernel)
set_option maxRecDepth 20000 in
theorem gX7_of_X0_trace_n128 : GoodIn wsX7_of (wsX0_trace) := ggX7_of_X0_trace
set_option maxRecDepth 20000 in
theorem ggX7_of_X0_determinant : GoodIn wsX7_of wsX0_determinant := goodIn_r _ [15, 16, 10, 17, 18, 19, 20, 21, 22, 23, 24, 25, 26, 27, 28, 29, 30, 31, 32, 33, 34, 35, 36, 37, 38, 39, 40, 41, 42, 11, 4, 12, 43, 44, 45, 46, 103, 104, 105, 106, 107, 108, 109, 110, 111, 112, 113, 114, 115, 116, 117, 118, 119] (by decide +kernel) (by decide +kernel)
set_option maxRecDepth 20000 in
theorem gX7_of_X0_determinant_n79 : GoodIn wsX7_of (wsX0_determinant) := ggX7_of_X0_determinant
set_option maxRecDepth 20000 in
theorem ggX7_of_X0_rank : GoodIn wsX7_of wsX0_rank := goodIn_r _ [49, 16, 10, 17, 18, 19, 20, 21, 22, 23, 24, 25, 26, 27, 28, 29, 30, 31, 32, 33, 34, 35, 36, 37, 38, 39, 40, 41, 42, 11, 4, 12, 43, 44, 45, 46, 103, 104, 105, 106, 107, 108, 109, 110, 111, 112, 113, 114, 115, 116, 117, 118, 119] (by decide +kernel) (by decide +kernel)
set_option maxRecDepth 20000 in
theorem gX7_of_X0_rank_n131 : GoodIn wsX7_of (wsX0_rank) := ggX7_of_X0_rank
set_option maxRecDepth 20000 in
theorem ggX7_of_X0_isOwnSquare : GoodIn wsX7_of wsX0_isOwnSquare := goodIn_r _ [52, 53, 54, 55, 56, 7, 57, 10, 58, 59, 60, 61, 62, 63, 11, 4, 12, 64, 65, 66, 67, 68, 69, 103, 104, 105, 106, 107, 108, 109, 110, 111, 112, 113, 114, 115, 116] (by decide +kernel) (by decide +kernel)
set_option maxRecDepth 20000 in
theorem gX7_of_X0_isOwnSquare_n90 : GoodIn wsX7_of (wsX0_isOwnSquare) := ggX7_of_X0_isOwnSquare
set_option maxRecDepth 20000 in
theorem ggX7_of_X0_order : GoodIn wsX7_of wsX0_order := goodIn_r _ [72, 73, 74, 13, 14, 7, 15, 16, 10, 17, 18, 19, 20, 21, 22, 23, 24, 25, 26, 27, 28, 29, 30, 31, 32, 33, 34, 35, 36, 37, 38, 39, 40, 41, 42, 11, 4, 12, 43, 44, 45, 46, 75, 76, 77, 78, 79, 80, 81, 82, 83, 84, 68, 69, 54, 55, 56, 57, 58, 59, 60, 61, 62, 63, 64, 65, 66, 67, 103, 104, 105, 106, 107, 108, 109, 110, 111, 112, 113, 114, 115, 116, 117, 118, 119] (by decide +kernel) (by decide +kernel)
set_option maxRecDepth 20000 in
theorem gX7_of_X0_order_n134 : GoodIn wsX7_of (wsX0_order) := ggX7_of_X0_order
set_option maxRecDepth 20000 in
theorem ggX7_of_X0_degree : GoodIn wsX7_of wsX0_degree := goodIn_r _ [87, 88, 16, 10, 81, 82, 83, 7, 84, 75, 4, 76, 77, 78, 79, 80, 54, 55, 56, 57, 58, 59, 60, 61, 62, 63, 11, 12, 64, 65, 66, 67, 89, 18, 90, 91, 21, 22, 23, 24, 25, 26, 27, 28, 29, 30, 31, 32, 33, 34, 35, 36, 37, 38, 39, 40, 41, 42, 43, 44, 45, 46, 103, 104, 105, 106, 107, 108, 109, 110, 111, 112, 113, 114, 115, 116, 117, 118, 119] (by decide +kernel) (by decide +kernel)
set_option maxRecDepth 20000 in
theorem gX7_of_X0_degree_n137 : GoodIn wsX7_of (wsX0_degree) := ggX7_of_X0_degree
set_option maxRecDepth 20000 in
theorem ggX7_of_X0_leastZeroPower : GoodIn wsX7_of wsX0_leastZeroPower := goodIn_r _ [94, 73, 75, 4, 76, 77, 78, 79, 80, 95, 96, 54, 55, 56, 7, 57, 10, 58, 59, 60, 61, 62, 63, 11, 12, 64, 65, 66, 67, 103, 104, 105, 106, 107, 108, 109, 110, 111, 112, 113, 114, 115, 116] (by decide +kernel) (by decide +kernel)
set_option maxRecDepth 20000 in
theorem gX7_of_X0_leastZeroPower_n140 : GoodIn wsX7_of (wsX0_leastZeroPower) := ggX7_of_X0_leastZeroPower
theorem dX7_of_0 : decode cX7_of 0 = .ok (.iload_n 1, 1) := by decide +kernel
theorem dX7_of_1 : decode cX7_of 1 = .ok (.invokestatic 125, 3) := by decide +kernel
theorem dX7_of_4 : decode cX7_of 4 = .ok (.ifCond .ne 5, 3) := by decide +kernel
theorem dX7_of_7 : decode cX7_of 7 = .ok (.iconst (-1), 1) := by decide +kernel
theorem dX7_of_8 : decode cX7_of 8 = .ok (.ireturn, 1) := by decide +kernel
theorem dX7_of_9 : decode cX7_of 9 = .ok (.aload_n 0, 1) := by decide +kernel
theorem dX7_of_10 : decode cX7_of 10 = .ok (.getfield 12, 3) := by decide +kernel
theorem dX7_of_13 : decode cX7_of 13 = .ok (.getfield 48, 3) := by decide +kernel
theorem dX7_of_16 : decode cX7_of 16 = .ok (.getfield 75, 3) := by decide +kernel
theorem dX7_of_19 : decode cX7_of 19 = .ok (.iload_n 1, 1) := by decide +kernel
theorem dX7_of_20 : decode cX7_of 20 = .ok (.aaload, 1) := by decide +kernel
theorem dX7_of_21 : decode cX7_of 21 = .ok (.astore_n 3, 1) := by decide +kernel
theorem dX7_of_22 : decode cX7_of 22 = .ok (.iload_n 2, 1) := by decide +kernel
theorem dX7_of_23 : decode cX7_of 23 = .ok (.tableswitch 133 0 7 #[45, 54, 63, 72, 89, 106, 115, 124], 45) := by decide +kernel
theorem dX7_of_68 : decode cX7_of 68 = .ok (.aload_n 0, 1) := by decide +kernel
theorem dX7_of_69 : decode cX7_of 69 = .ok (.getfield 12, 3) := by decide +kernel
theorem dX7_of_72 : decode cX7_of 72 = .ok (.aload_n 3, 1) := by decide +kernel
theorem dX7_of_73 : decode cX7_of 73 = .ok (.invokevirtual 128, 3) := by decide +kernel
theorem dX7_of_76 : decode cX7_of 76 = .ok (.ireturn, 1) := by decide +kernel
theorem dX7_of_77 : decode cX7_of 77 = .ok (.aload_n 0, 1) := by decide +kernel
theorem dX7_of_78 : decode cX7_of 78 = .ok (.getfield 12, 3) := by decide +kernel
theorem dX7_of_81 : decode cX7_of 81 = .ok (.aload_n 3, 1) := by decide +kernel
theorem dX7_of_82 : decode cX7_of 82 = .ok (.invokevirtual 79, 3) := by decide +kernel
theorem dX7_of_85 : decode cX7_of 85 = .ok (.ireturn, 1) := by decide +kernel
theorem dX7_of_86 : decode cX7_of 86 = .ok (.aload_n 0, 1) := by decide +kernel
theorem dX7_of_87 : decode cX7_of 87 = .ok (.getfield 12, 3) := by decide +kernel
theorem dX7_of_90 : decode cX7_of 90 = .ok (.aload_n 3, 1) := by decide +kernel
theorem dX7_of_91 : decode cX7_of 91 = .ok (.invokevirtual 131, 3) := by decide +kernel
theorem dX7_of_94 : decode cX7_of 94 = .ok (.ireturn, 1) := by decide +kernel
theorem dX7_of_95 : decode cX7_of 95 = .ok (.aload_n 0, 1) := by decide +kernel
theorem dX7_of_96 : decode cX7_of 96 = .ok (.getfield 12, 3) := by decide +kernel
theorem dX7_of_99 : decode cX7_of 99 = .ok (.aload_n 3, 1) := by decide +kernel
theorem dX7_of_100 : decode cX7_of 100 = .ok (.invokevirtual 90, 3) := by decide +kernel
theorem dX7_of_103 : decode cX7_of 103 = .ok (.ifCond .eq 7, 3) := by decide +kernel
theorem dX7_of_106 : decode cX7_of 106 = .ok (.iconst 1, 1) := by decide +kernel
theorem dX7_of_107 : decode cX7_of 107 = .ok (.goto 4, 3) := by decide +kernel
theorem dX7_of_110 : decode cX7_of 110 = .ok (.iconst 0, 1) := by decide +kernel
theorem dX7_of_111 : decode cX7_of 111 = .ok (.ireturn, 1) := by decide +kernel
theorem dX7_of_112 : decode cX7_of 112 = .ok (.aload_n 0, 1) := by decide +kernel
theorem dX7_of_113 : decode cX7_of 113 = .ok (.getfield 12, 3) := by decide +kernel
theorem dX7_of_116 : decode cX7_of 116 = .ok (.aload_n 3, 1) := by decide +kernel
theorem dX7_of_117 : decode cX7_of 117 = .ok (.invokevirtual 79, 3) := by decide +kernel
theorem dX7_of_120 : decode cX7_of 120 = .ok (.ifCond .eq 7, 3) := by decide +kernel
theorem dX7_of_123 : decode cX7_of 123 = .ok (.iconst 1, 1) := by decide +kernel
theorem dX7_of_124 : decode cX7_of 124 = .ok (.goto 4, 3) := by decide +kernel
theorem dX7_of_127 : decode cX7_of 127 = .ok (.iconst 0, 1) := by decide +kernel
theorem dX7_of_128 : decode cX7_of 128 = .ok (.ireturn, 1) := by decide +kernel
theorem dX7_of_129 : decode cX7_of 129 = .ok (.aload_n 0, 1) := by decide +kernel
theorem dX7_of_130 : decode cX7_of 130 = .ok (.getfield 12, 3) := by decide +kernel
theorem dX7_of_133 : decode cX7_of 133 = .ok (.aload_n 3, 1) := by decide +kernel
theorem dX7_of_134 : decode cX7_of 134 = .ok (.invokevirtual 134, 3) := by decide +kernel
theorem dX7_of_137 : decode cX7_of 137 = .ok (.ireturn, 1) := by decide +kernel
theorem dX7_of_138 : decode cX7_of 138 = .ok (.aload_n 0, 1) := by decide +kernel
theorem dX7_of_139 : decode cX7_of 139 = .ok (.getfield 12, 3) := by decide +kernel
theorem dX7_of_142 : decode cX7_of 142 = .ok (.aload_n 3, 1) := by decide +kernel
theorem dX7_of_143 : decode cX7_of 143 = .ok (.invokevirtual 137, 3) := by decide +kernel
theorem dX7_of_146 : decode cX7_of 146 = .ok (.ireturn, 1) := by decide +kernel
theorem dX7_of_147 : decode cX7_of 147 = .ok (.aload_n 0, 1) := by decide +kernel
theorem dX7_of_148 : decode cX7_of 148 = .ok (.getfield 12, 3) := by decide +kernel
theorem dX7_of_151 : decode cX7_of 151 = .ok (.aload_n 3, 1) := by decide +kernel
theorem dX7_of_152 : decode cX7_of 152 = .ok (.invokevirtual 140, 3) := by decide +kernel
theorem dX7_of_155 : decode cX7_of 155 = .ok (.ireturn, 1) := by decide +kernel
theorem dX7_of_156 : decode cX7_of 156 = .ok (.bipush (-2), 2) := by decide +kernel
theorem dX7_of_158 : decode cX7_of 158 = .ok (.ireturn, 1) := by decide +kernel
set_option maxRecDepth 20000 in
theorem ggX7_count_X7_registersNotZero : GoodIn wsX7_count wsX7_registersNotZero := goodIn_r _ [8, 1, 9, 10, 7, 11, 40, 41, 42, 43, 44, 45, 46, 47, 48, 49, 50, 51, 52, 53, 54, 55, 56, 57, 58, 59] (by decide +kernel) (by decide +kernel)
set_option maxRecDepth 20000 in
theorem gX7_count_X7_registersNotZero : GoodIn wsX7_count (wsV RX7 143 RX7 yX7_registersNotZero wsX7_registersNotZero) := goodIn_app (goodIn_of _ (by decide +kernel)) ggX7_count_X7_registersNotZero
set_option maxRecDepth 20000 in
theorem ggX7_count_X7_registersOwnSquares : GoodIn wsX7_count wsX7_registersOwnSquares := goodIn_r _ [15, 1, 16, 17, 18, 19, 20, 21, 22, 23, 24, 25, 26, 27, 28, 29, 30, 31, 32, 7, 33, 34, 35, 36, 37, 38, 39, 40, 41, 42, 43, 44, 45, 46, 47, 48, 49, 50, 51, 52, 53, 54, 55, 56, 57, 58, 59] (by decide +kernel) (by decide +kernel)
set_option maxRecDepth 20000 in
theorem gX7_count_X7_registersOwnSquares : GoodIn wsX7_count (wsV RX7 146 RX7 yX7_registersOwnSquares wsX7_registersOwnSquares) := goodIn_app (goodIn_of _ (by decide +kernel)) ggX7_count_X7_registersOwnSquares
theorem dX7_count_0 : decode cX7_count 0 = .ok (.iload_n 1, 1) := by decide +kernel
theorem dX7_count_1 : decode cX7_count 1 = .ok (.tableswitch 87 0 5 #[39, 50, 61, 66, 71, 79], 39) := by decide +kernel
theorem dX7_count_40 : decode cX7_count 40 = .ok (.aload_n 0, 1) := by decide +kernel
theorem dX7_count_41 : decode cX7_count 41 = .ok (.getfield 12, 3) := by decide +kernel
theorem dX7_count_44 : decode cX7_count 44 = .ok (.getfield 48, 3) := by decide +kernel
theorem dX7_count_47 : decode cX7_count 47 = .ok (.getfield 52, 3) := by decide +kernel
theorem dX7_count_50 : decode cX7_count 50 = .ok (.ireturn, 1) := by decide +kernel
theorem dX7_count_51 : decode cX7_count 51 = .ok (.aload_n 0, 1) := by decide +kernel
theorem dX7_count_52 : decode cX7_count 52 = .ok (.getfield 12, 3) := by decide +kernel
theorem dX7_count_55 : decode cX7_count 55 = .ok (.getfield 48, 3) := by decide +kernel
theorem dX7_count_58 : decode cX7_count 58 = .ok (.getfield 72, 3) := by decide +kernel
theorem dX7_count_61 : decode cX7_count 61 = .ok (.ireturn, 1) := by decide +kernel
theorem dX7_count_62 : decode cX7_count 62 = .ok (.aload_n 0, 1) := by decide +kernel
theorem dX7_count_63 : decode cX7_count 63 = .ok (.invokevirtual 143, 3) := by decide +kernel
theorem dX7_count_66 : decode cX7_count 66 = .ok (.ireturn, 1) := by decide +kernel
theorem dX7_count_67 : decode cX7_count 67 = .ok (.aload_n 0, 1) := by decide +kernel
theorem dX7_count_68 : decode cX7_count 68 = .ok (.invokevirtual 146, 3) := by decide +kernel
theorem dX7_count_71 : decode cX7_count 71 = .ok (.ireturn, 1) := by decide +kernel
theorem dX7_count_72 : decode cX7_count 72 = .ok (.aload_n 0, 1) := by decide +kernel
theorem dX7_count_73 : decode cX7_count 73 = .ok (.getfield 19, 3) := by decide +kernel
theorem dX7_count_76 : decode cX7_count 76 = .ok (.getfield 122, 3) := by decide +kernel
theorem dX7_count_79 : decode cX7_count 79 = .ok (.ireturn, 1) := by decide +kernel
theorem dX7_count_80 : decode cX7_count 80 = .ok (.aload_n 0, 1) := by decide +kernel
theorem dX7_count_81 : decode cX7_count 81 = .ok (.getfield 33, 3) := by decide +kernel
theorem dX7_count_84 : decode cX7_count 84 = .ok (.getfield 149, 3) := by decide +kernel
theorem dX7_count_87 : decode cX7_count 87 = .ok (.ireturn, 1) := by decide +kernel
theorem dX7_count_88 : decode cX7_count 88 = .ok (.bipush (-2), 2) := by decide +kernel
theorem dX7_count_90 : decode cX7_count 90 = .ok (.ireturn, 1) := by decide +kernel
set_option maxRecDepth 20000 in
theorem ggX7_power_X7_isRegister : GoodIn wsX7_power wsX7_isRegister := goodIn_r _ [5] (by decide +kernel) (by decide +kernel)
set_option maxRecDepth 20000 in
theorem gX7_power_X7_isRegister : GoodIn wsX7_power (va_wsS RX7 64 yX7_isRegister wsX7_isRegister) := goodIn_app (goodIn_of _ (by decide +kernel)) ggX7_power_X7_isRegister
set_option maxRecDepth 20000 in
theorem ggX7_power_X7_isPlace : GoodIn wsX7_power wsX7_isPlace := goodIn_r _ [9, 1, 43, 44, 45, 46, 47, 48, 49, 50, 51, 52, 53, 54, 55, 56, 57, 58, 59, 60, 61, 62] (by decide +kernel) (by decide +kernel)
set_option maxRecDepth 20000 in
theorem gX7_power_X7_isPlace : GoodIn wsX7_power (wsV RX7 68 RX7 yX7_isPlace wsX7_isPlace) := goodIn_app (goodIn_of _ (by decide +kernel)) ggX7_power_X7_isPlace
set_option maxRecDepth 20000 in
theorem ggX7_power_X0_raise : GoodIn wsX7_power wsX0_raise := goodIn_r _ [13, 14, 15, 16, 17, 18, 11, 19, 20, 21, 4, 22, 23, 24, 25, 26, 27, 28, 29, 30, 31, 32, 33, 34, 35, 36, 37, 38, 39, 40, 41, 42, 49, 50, 51, 52, 53, 54, 55, 56, 57, 58, 59, 60, 61, 62] (by decide +kernel) (by decide +kernel)
set_option maxRecDepth 20000 in
theorem gX7_power_X0_raise_n154 : GoodIn wsX7_power (wsX0_raise) := ggX7_power_X0_raise
theorem dX7_power_0 : decode cX7_power 0 = .ok (.iload_n 1, 1) := by decide +kernel
theorem dX7_power_1 : decode cX7_power 1 = .ok (.invokestatic 64, 3) := by decide +kernel
theorem dX7_power_4 : decode cX7_power 4 = .ok (.ifCond .eq 13, 3) := by decide +kernel
theorem dX7_power_7 : decode cX7_power 7 = .ok (.aload_n 0, 1) := by decide +kernel
theorem dX7_power_8 : decode cX7_power 8 = .ok (.iload_n 3, 1) := by decide +kernel
theorem dX7_power_9 : decode cX7_power 9 = .ok (.iload 4, 2) := by decide +kernel
theorem dX7_power_11 : decode cX7_power 11 = .ok (.invokevirtual 68, 3) := by decide +kernel
theorem dX7_power_14 : decode cX7_power 14 = .ok (.ifCond .ne 5, 3) := by decide +kernel
theorem dX7_power_17 : decode cX7_power 17 = .ok (.iconst (-1), 1) := by decide +kernel
theorem dX7_power_18 : decode cX7_power 18 = .ok (.ireturn, 1) := by decide +kernel
theorem dX7_power_19 : decode cX7_power 19 = .ok (.iload_n 2, 1) := by decide +kernel
theorem dX7_power_20 : decode cX7_power 20 = .ok (.ifCond .lt 10, 3) := by decide +kernel
theorem dX7_power_23 : decode cX7_power 23 = .ok (.iload_n 2, 1) := by decide +kernel
theorem dX7_power_24 : decode cX7_power 24 = .ok (.sipush 2000, 3) := by decide +kernel
theorem dX7_power_27 : decode cX7_power 27 = .ok (.if_icmp .le 6, 3) := by decide +kernel
theorem dX7_power_30 : decode cX7_power 30 = .ok (.bipush (-2), 2) := by decide +kernel
theorem dX7_power_32 : decode cX7_power 32 = .ok (.ireturn, 1) := by decide +kernel
theorem dX7_power_33 : decode cX7_power 33 = .ok (.aload_n 0, 1) := by decide +kernel
theorem dX7_power_34 : decode cX7_power 34 = .ok (.getfield 12, 3) := by decide +kernel
theorem dX7_power_37 : decode cX7_power 37 = .ok (.aload_n 0, 1) := by decide +kernel
theorem dX7_power_38 : decode cX7_power 38 = .ok (.getfield 12, 3) := by decide +kernel
theorem dX7_power_41 : decode cX7_power 41 = .ok (.getfield 48, 3) := by decide +kernel
theorem dX7_power_44 : decode cX7_power 44 = .ok (.getfield 75, 3) := by decide +kernel
theorem dX7_power_47 : decode cX7_power 47 = .ok (.iload_n 1, 1) := by decide +kernel
theorem dX7_power_48 : decode cX7_power 48 = .ok (.aaload, 1) := by decide +kernel
theorem dX7_power_49 : decode cX7_power 49 = .ok (.iload_n 2, 1) := by decide +kernel
theorem dX7_power_50 : decode cX7_power 50 = .ok (.invokevirtual 154, 3) := by decide +kernel
theorem dX7_power_53 : decode cX7_power 53 = .ok (.aload_n 0, 1) := by decide +kernel
theorem dX7_power_54 : decode cX7_power 54 = .ok (.getfield 12, 3) := by decide +kernel
theorem dX7_power_57 : decode cX7_power 57 = .ok (.getfield 158, 3) := by decide +kernel
theorem dX7_power_60 : decode cX7_power 60 = .ok (.iconst 3, 1) := by decide +kernel
theorem dX7_power_61 : decode cX7_power 61 = .ok (.iload_n 3, 1) := by decide +kernel
theorem dX7_power_62 : decode cX7_power 62 = .ok (.imul, 1) := by decide +kernel
theorem dX7_power_63 : decode cX7_power 63 = .ok (.iload 4, 2) := by decide +kernel
theorem dX7_power_65 : decode cX7_power 65 = .ok (.iadd, 1) := by decide +kernel
theorem dX7_power_66 : decode cX7_power 66 = .ok (.iaload, 1) := by decide +kernel
theorem dX7_power_67 : decode cX7_power 67 = .ok (.ireturn, 1) := by decide +kernel
set_option maxRecDepth 20000 in
theorem ggX7_rule_X7_isRegister : GoodIn wsX7_rule wsX7_isRegister := goodIn_r _ [5] (by decide +kernel) (by decide +kernel)
set_option maxRecDepth 20000 in
theorem gX7_rule_X7_isRegister : GoodIn wsX7_rule (va_wsS RX7 64 yX7_isRegister wsX7_isRegister) := goodIn_app (goodIn_of _ (by decide +kernel)) ggX7_rule_X7_isRegister
set_option maxRecDepth 20000 in
theorem ggX7_rule_X0_tryRule : GoodIn wsX7_rule wsX0_tryRule := goodIn_r _ [9, 10, 11, 12, 13, 14, 7, 15, 16, 17, 18, 19, 20, 21, 22, 23, 24, 25, 26, 27, 4, 28, 29, 30, 31, 32, 33, 34, 44, 45, 46, 47, 48, 49, 50, 51, 52, 53, 54, 55, 56, 57] (by decide +kernel) (by decide +kernel)
set_option maxRecDepth 20000 in
theorem gX7_rule_X0_tryRule_n162 : GoodIn wsX7_rule (wsX0_tryRule) := ggX7_rule_X0_tryRule
set_option maxRecDepth 20000 in
theorem ggX7_rule_X0_trace : GoodIn wsX7_rule wsX0_trace := goodIn_r _ [37, 20, 27, 4, 28, 44, 45, 46, 47, 48, 49, 50, 51, 52, 53, 54, 55, 56, 57] (by decide +kernel) (by decide +kernel)
set_option maxRecDepth 20000 in
theorem gX7_rule_X0_trace_n128 : GoodIn wsX7_rule (wsX0_trace) := ggX7_rule_X0_trace
theorem dX7_rule_0 : decode cX7_rule 0 = .ok (.iload_n 1, 1) := by decide +kernel
theorem dX7_rule_1 : decode cX7_rule 1 = .ok (.invokestatic 64, 3) := by decide +kernel
theorem dX7_rule_4 : decode cX7_rule 4 = .ok (.ifCond .eq 17, 3) := by decide +kernel
theorem dX7_rule_7 : decode cX7_rule 7 = .ok (.iload_n 2, 1) := by decide +kernel
theorem dX7_rule_8 : decode cX7_rule 8 = .ok (.invokestatic 64, 3) := by decide +kernel
theorem dX7_rule_11 : decode cX7_rule 11 = .ok (.ifCond .eq 10, 3) := by decide +kernel
theorem dX7_rule_14 : decode cX7_rule 14 = .ok (.iload_n 3, 1) := by decide +kernel
theorem dX7_rule_15 : decode cX7_rule 15 = .ok (.invokestatic 64, 3) := by decide +kernel
theorem dX7_rule_18 : decode cX7_rule 18 = .ok (.ifCond .ne 5, 3) := by decide +kernel
theorem dX7_rule_21 : decode cX7_rule 21 = .ok (.iconst (-1), 1) := by decide +kernel
theorem dX7_rule_22 : decode cX7_rule 22 = .ok (.ireturn, 1) := by decide +kernel
theorem dX7_rule_23 : decode cX7_rule 23 = .ok (.iload 4, 2) := by decide +kernel
theorem dX7_rule_25 : decode cX7_rule 25 = .ok (.ifCond .eq 12, 3) := by decide +kernel
theorem dX7_rule_28 : decode cX7_rule 28 = .ok (.iload 4, 2) := by decide +kernel
theorem dX7_rule_30 : decode cX7_rule 30 = .ok (.iconst 1, 1) := by decide +kernel
theorem dX7_rule_31 : decode cX7_rule 31 = .ok (.if_icmp .eq 6, 3) := by decide +kernel
theorem dX7_rule_34 : decode cX7_rule 34 = .ok (.bipush (-2), 2) := by decide +kernel
theorem dX7_rule_36 : decode cX7_rule 36 = .ok (.ireturn, 1) := by decide +kernel
theorem dX7_rule_37 : decode cX7_rule 37 = .ok (.aload_n 0, 1) := by decide +kernel
theorem dX7_rule_38 : decode cX7_rule 38 = .ok (.getfield 12, 3) := by decide +kernel
theorem dX7_rule_41 : decode cX7_rule 41 = .ok (.getfield 48, 3) := by decide +kernel
theorem dX7_rule_44 : decode cX7_rule 44 = .ok (.getfield 75, 3) := by decide +kernel
theorem dX7_rule_47 : decode cX7_rule 47 = .ok (.astore 5, 2) := by decide +kernel
theorem dX7_rule_49 : decode cX7_rule 49 = .ok (.aload_n 0, 1) := by decide +kernel
theorem dX7_rule_50 : decode cX7_rule 50 = .ok (.getfield 12, 3) := by decide +kernel
theorem dX7_rule_53 : decode cX7_rule 53 = .ok (.aload 5, 2) := by decide +kernel
theorem dX7_rule_55 : decode cX7_rule 55 = .ok (.iload_n 1, 1) := by decide +kernel
theorem dX7_rule_56 : decode cX7_rule 56 = .ok (.aaload, 1) := by decide +kernel
theorem dX7_rule_57 : decode cX7_rule 57 = .ok (.aload 5, 2) := by decide +kernel
theorem dX7_rule_59 : decode cX7_rule 59 = .ok (.iload_n 2, 1) := by decide +kernel
theorem dX7_rule_60 : decode cX7_rule 60 = .ok (.aaload, 1) := by decide +kernel
theorem dX7_rule_61 : decode cX7_rule 61 = .ok (.aload 5, 2) := by decide +kernel
theorem dX7_rule_63 : decode cX7_rule 63 = .ok (.iload_n 3, 1) := by decide +kernel
theorem dX7_rule_64 : decode cX7_rule 64 = .ok (.aaload, 1) := by decide +kernel
theorem dX7_rule_65 : decode cX7_rule 65 = .ok (.invokevirtual 162, 3) := by decide +kernel
theorem dX7_rule_68 : decode cX7_rule 68 = .ok (.istore 6, 2) := by decide +kernel
theorem dX7_rule_70 : decode cX7_rule 70 = .ok (.iload 4, 2) := by decide +kernel
theorem dX7_rule_72 : decode cX7_rule 72 = .ok (.iconst 1, 1) := by decide +kernel
theorem dX7_rule_73 : decode cX7_rule 73 = .ok (.if_icmp .ne 18, 3) := by decide +kernel
theorem dX7_rule_76 : decode cX7_rule 76 = .ok (.aload_n 0, 1) := by decide +kernel
theorem dX7_rule_77 : decode cX7_rule 77 = .ok (.getfield 12, 3) := by decide +kernel
theorem dX7_rule_80 : decode cX7_rule 80 = .ok (.aload_n 0, 1) := by decide +kernel
theorem dX7_rule_81 : decode cX7_rule 81 = .ok (.getfield 12, 3) := by decide +kernel
theorem dX7_rule_84 : decode cX7_rule 84 = .ok (.getfield 166, 3) := by decide +kernel
theorem dX7_rule_87 : decode cX7_rule 87 = .ok (.invokevirtual 128, 3) := by decide +kernel
theorem dX7_rule_90 : decode cX7_rule 90 = .ok (.ireturn, 1) := by decide +kernel
theorem dX7_rule_91 : decode cX7_rule 91 = .ok (.iload 6, 2) := by decide +kernel
theorem dX7_rule_93 : decode cX7_rule 93 = .ok (.ifCond .eq 7, 3) := by decide +kernel
theorem dX7_rule_96 : decode cX7_rule 96 = .ok (.iconst 1, 1) := by decide +kernel
theorem dX7_rule_97 : decode cX7_rule 97 = .ok (.goto 4, 3) := by decide +kernel
theorem dX7_rule_100 : decode cX7_rule 100 = .ok (.iconst 0, 1) := by decide +kernel
theorem dX7_rule_101 : decode cX7_rule 101 = .ok (.ireturn, 1) := by decide +kernel
set_option maxRecDepth 20000 in
theorem ggX7_partSize_X7_isRegister : GoodIn wsX7_partSize wsX7_isRegister := goodIn_r _ [5] (by decide +kernel) (by decide +kernel)
set_option maxRecDepth 20000 in
theorem gX7_partSize_X7_isRegister : GoodIn wsX7_partSize (va_wsS RX7 64 yX7_isRegister wsX7_isRegister) := goodIn_app (goodIn_of _ (by decide +kernel)) ggX7_partSize_X7_isRegister
set_option maxRecDepth 20000 in
theorem ggX7_partSize_X0_isOwnSquare : GoodIn wsX7_partSize wsX0_isOwnSquare := goodIn_r _ [9, 10, 11, 12, 13, 7, 14, 15, 16, 17, 18, 19, 20, 21, 22, 4, 23, 24, 25, 26, 27, 28, 29, 73, 74, 75, 76, 77, 78, 79, 80, 81, 82, 83, 84, 85, 86] (by decide +kernel) (by decide +kernel)
set_option maxRecDepth 20000 in
theorem gX7_partSize_X0_isOwnSquare_n90 : GoodIn wsX7_partSize (wsX0_isOwnSquare) := ggX7_partSize_X0_isOwnSquare
set_option maxRecDepth 20000 in
theorem ggX7_partSize_X0_rank : GoodIn wsX7_partSize wsX0_rank := goodIn_r _ [32, 33, 15, 34, 35, 36, 37, 38, 39, 40, 41, 42, 43, 44, 45, 46, 47, 48, 49, 50, 51, 52, 53, 54, 55, 56, 57, 58, 59, 22, 4, 23, 60, 61, 62, 63, 73, 74, 75, 76, 77, 78, 79, 80, 81, 82, 83, 84, 85, 86, 87, 88, 89] (by decide +kernel) (by decide +kernel)
set_option maxRecDepth 20000 in
theorem gX7_partSize_X0_rank_n131 : GoodIn wsX7_partSize (wsX0_rank) := ggX7_partSize_X0_rank
set_option maxRecDepth 20000 in
theorem ggX7_partSize_X7_partExponent : GoodIn wsX7_partSize wsX7_partExponent := goodIn_r _ [66] (by decide +kernel) (by decide +kernel)
set_option maxRecDepth 20000 in
theorem gX7_partSize_X7_partExponent : GoodIn wsX7_partSize (va_wsS RX7 169 yX7_partExponent wsX7_partExponent) := goodIn_app (goodIn_of _ (by decide +kernel)) ggX7_partSize_X7_partExponent
theorem dX7_partSize_0 : decode cX7_partSize 0 = .ok (.iload_n 1, 1) := by decide +kernel
theorem dX7_partSize_1 : decode cX7_partSize 1 = .ok (.invokestatic 64, 3) := by decide +kernel
theorem dX7_partSize_4 : decode cX7_partSize 4 = .ok (.ifCond .ne 5, 3) := by decide +kernel
theorem dX7_partSize_7 : decode cX7_partSize 7 = .ok (.iconst (-1), 1) := by decide +kernel
theorem dX7_partSize_8 : decode cX7_partSize 8 = .ok (.ireturn, 1) := by decide +kernel
theorem dX7_partSize_9 : decode cX7_partSize 9 = .ok (.iload_n 2, 1) := by decide +kernel
theorem dX7_partSize_10 : decode cX7_partSize 10 = .ok (.ifCond .lt 8, 3) := by decide +kernel
theorem dX7_partSize_13 : decode cX7_partSize 13 = .ok (.iload_n 2, 1) := by decide +kernel
theorem dX7_partSize_14 : decode cX7_partSize 14 = .ok (.iconst 3, 1) := by decide +kernel
theorem dX7_partSize_15 : decode cX7_partSize 15 = .ok (.if_icmp .lt 6, 3) := by decide +kernel
theorem dX7_partSize_18 : decode cX7_partSize 18 = .ok (.bipush (-2), 2) := by decide +kernel
theorem dX7_partSize_20 : decode cX7_partSize 20 = .ok (.ireturn, 1) := by decide +kernel
theorem dX7_partSize_21 : decode cX7_partSize 21 = .ok (.aload_n 0, 1) := by decide +kernel
theorem dX7_partSize_22 : decode cX7_partSize 22 = .ok (.getfield 12, 3) := by decide +kernel
theorem dX7_partSize_25 : decode cX7_partSize 25 = .ok (.getfield 48, 3) := by decide +kernel
theorem dX7_partSize_28 : decode cX7_partSize 28 = .ok (.getfield 75, 3) := by decide +kernel
theorem dX7_partSize_31 : decode cX7_partSize 31 = .ok (.iload_n 1, 1) := by decide +kernel
theorem dX7_partSize_32 : decode cX7_partSize 32 = .ok (.aaload, 1) := by decide +kernel
theorem dX7_partSize_33 : decode cX7_partSize 33 = .ok (.astore_n 3, 1) := by decide +kernel
theorem dX7_partSize_34 : decode cX7_partSize 34 = .ok (.aload_n 0, 1) := by decide +kernel
theorem dX7_partSize_35 : decode cX7_partSize 35 = .ok (.getfield 12, 3) := by decide +kernel
theorem dX7_partSize_38 : decode cX7_partSize 38 = .ok (.aload_n 3, 1) := by decide +kernel
theorem dX7_partSize_39 : decode cX7_partSize 39 = .ok (.invokevirtual 90, 3) := by decide +kernel
theorem dX7_partSize_42 : decode cX7_partSize 42 = .ok (.ifCond .ne 6, 3) := by decide +kernel
theorem dX7_partSize_45 : decode cX7_partSize 45 = .ok (.bipush (-5), 2) := by decide +kernel
theorem dX7_partSize_47 : decode cX7_partSize 47 = .ok (.ireturn, 1) := by decide +kernel
theorem dX7_partSize_48 : decode cX7_partSize 48 = .ok (.aload_n 0, 1) := by decide +kernel
theorem dX7_partSize_49 : decode cX7_partSize 49 = .ok (.getfield 12, 3) := by decide +kernel
theorem dX7_partSize_52 : decode cX7_partSize 52 = .ok (.aload_n 3, 1) := by decide +kernel
theorem dX7_partSize_53 : decode cX7_partSize 53 = .ok (.invokevirtual 131, 3) := by decide +kernel
theorem dX7_partSize_56 : decode cX7_partSize 56 = .ok (.istore 4, 2) := by decide +kernel
theorem dX7_partSize_58 : decode cX7_partSize 58 = .ok (.iload_n 2, 1) := by decide +kernel
theorem dX7_partSize_59 : decode cX7_partSize 59 = .ok (.iload 4, 2) := by decide +kernel
theorem dX7_partSize_61 : decode cX7_partSize 61 = .ok (.aload_n 0, 1) := by decide +kernel
theorem dX7_partSize_62 : decode cX7_partSize 62 = .ok (.getfield 12, 3) := by decide +kernel
theorem dX7_partSize_65 : decode cX7_partSize 65 = .ok (.getfield 48, 3) := by decide +kernel
theorem dX7_partSize_68 : decode cX7_partSize 68 = .ok (.getfield 52, 3) := by decide +kernel
theorem dX7_partSize_71 : decode cX7_partSize 71 = .ok (.iload 4, 2) := by decide +kernel
theorem dX7_partSize_73 : decode cX7_partSize 73 = .ok (.isub, 1) := by decide +kernel
theorem dX7_partSize_74 : decode cX7_partSize 74 = .ok (.invokestatic 169, 3) := by decide +kernel
theorem dX7_partSize_77 : decode cX7_partSize 77 = .ok (.ireturn, 1) := by decide +kernel
set_option maxRecDepth 20000 in
theorem ggX7_howMany_X0_countKind : GoodIn wsX7_howMany wsX0_countKind := goodIn_r _ [5, 6, 7, 8, 9, 10, 3, 11, 12, 13, 14, 15, 16, 17, 18, 19, 20, 21, 22, 23, 24, 25, 26, 27, 28, 29, 30, 31, 32, 33, 34, 35, 36, 37, 38, 39, 40, 41, 42, 43, 44, 45, 46, 47, 48, 49, 50, 51, 52, 53, 54, 55, 56, 57, 58, 59, 60, 61, 62, 63, 64, 65, 66, 67, 68, 69, 70, 71, 72, 79, 80, 81, 82, 83, 84, 85, 86, 87, 88, 89, 90, 91, 92, 93, 94, 95] (by decide +kernel) (by decide +kernel)
set_option maxRecDepth 20000 in
theorem gX7_howMany_X0_countKind_n173 : GoodIn wsX7_howMany (wsX0_countKind) := ggX7_howMany_X0_countKind
theorem dX7_howMany_0 : decode cX7_howMany 0 = .ok (.iload_n 1, 1) := by decide +kernel
theorem dX7_howMany_1 : decode cX7_howMany 1 = .ok (.ifCond .lt 8, 3) := by decide +kernel
theorem dX7_howMany_4 : decode cX7_howMany 4 = .ok (.iload_n 1, 1) := by decide +kernel
theorem dX7_howMany_5 : decode cX7_howMany 5 = .ok (.iconst 3, 1) := by decide +kernel
theorem dX7_howMany_6 : decode cX7_howMany 6 = .ok (.if_icmp .le 6, 3) := by decide +kernel
theorem dX7_howMany_9 : decode cX7_howMany 9 = .ok (.bipush (-2), 2) := by decide +kernel
theorem dX7_howMany_11 : decode cX7_howMany 11 = .ok (.ireturn, 1) := by decide +kernel
theorem dX7_howMany_12 : decode cX7_howMany 12 = .ok (.aload_n 0, 1) := by decide +kernel
theorem dX7_howMany_13 : decode cX7_howMany 13 = .ok (.getfield 12, 3) := by decide +kernel
theorem dX7_howMany_16 : decode cX7_howMany 16 = .ok (.getfield 48, 3) := by decide +kernel
theorem dX7_howMany_19 : decode cX7_howMany 19 = .ok (.getfield 52, 3) := by decide +kernel
theorem dX7_howMany_22 : decode cX7_howMany 22 = .ok (.iconst 2, 1) := by decide +kernel
theorem dX7_howMany_23 : decode cX7_howMany 23 = .ok (.if_icmp .eq 6, 3) := by decide +kernel
theorem dX7_howMany_26 : decode cX7_howMany 26 = .ok (.bipush (-5), 2) := by decide +kernel
theorem dX7_howMany_28 : decode cX7_howMany 28 = .ok (.ireturn, 1) := by decide +kernel
theorem dX7_howMany_29 : decode cX7_howMany 29 = .ok (.aload_n 0, 1) := by decide +kernel
theorem dX7_howMany_30 : decode cX7_howMany 30 = .ok (.getfield 12, 3) := by decide +kernel
theorem dX7_howMany_33 : decode cX7_howMany 33 = .ok (.iload_n 1, 1) := by decide +kernel
theorem dX7_howMany_34 : decode cX7_howMany 34 = .ok (.invokevirtual 173, 3) := by decide +kernel
theorem dX7_howMany_37 : decode cX7_howMany 37 = .ok (.ireturn, 1) := by decide +kernel
set_option maxRecDepth 20000 in
theorem ggX7_holds_X3_findFault : GoodIn wsX7_holds wsX3_findFault := goodIn_r _ [7, 8, 9, 10, 11, 12, 13, 14, 15, 16, 5, 17, 18, 19, 20, 21, 22, 23, 24, 25, 26, 27, 28, 29, 30, 31, 32, 33, 34, 35, 36, 37, 38, 39, 40, 41, 42, 43, 44, 45, 180, 181, 182, 183, 184, 185, 186] (by decide +kernel) (by decide +kernel)
set_option maxRecDepth 20000 in
theorem gX7_holds_X3_findFault_n107 : GoodIn wsX7_holds (wsX3_findFault) := ggX7_holds_X3_findFault
set_option maxRecDepth 20000 in
theorem ggX7_holds_X3_target : GoodIn wsX7_holds wsX3_target := goodIn_r _ [48, 12, 13, 26, 27, 28, 180, 181, 182, 183, 184, 185, 186] (by decide +kernel) (by decide +kernel)
set_option maxRecDepth 20000 in
theorem gX7_holds_X3_target_n111 : GoodIn wsX7_holds (wsX3_target) := ggX7_holds_X3_target
set_option maxRecDepth 20000 in
theorem ggX7_holds_X4_carryOut : GoodIn wsX7_holds wsX4_carryOut := goodIn_r _ [52, 53, 54, 55, 56, 57, 58, 59, 60, 61, 62, 63, 64, 65, 66, 67, 68, 46, 5, 47, 48, 12, 13, 26, 27, 28, 69, 70, 71, 50, 72, 73, 74, 75, 76, 77, 78, 79, 80, 81, 82, 83, 84, 85, 86, 87, 88, 89, 90, 91, 92, 93, 94, 95, 96, 97, 98, 99, 100, 101, 102, 103, 104, 105, 106, 107, 108, 109, 110, 111, 112, 113, 114, 115, 116, 117, 118, 119, 120, 121, 122, 123, 124, 125, 126, 127, 128, 129, 130, 131, 132, 133, 134, 135, 136, 137, 138, 139, 140, 141, 142, 143, 144, 145, 146, 147, 148, 149, 150, 151, 152, 153, 154, 155, 156, 157, 158, 159, 160, 161, 162, 163, 164, 177, 178, 179, 180, 181, 182, 183, 184, 185, 186, 187, 188, 189, 190, 191, 192, 193, 194, 195, 196, 197, 198, 199, 200, 201, 202, 203, 204, 205, 206, 207, 208, 209, 210, 211] (by decide +kernel) (by decide +kernel)
set_option maxRecDepth 20000 in
theorem gX7_holds_X4_carryOut_n114 : GoodIn wsX7_holds (wsX4_carryOut) := ggX7_holds_X4_carryOut
set_option maxRecDepth 20000 in
theorem ggX7_holds_X4_result : GoodIn wsX7_holds wsX4_result := goodIn_r _ [167, 54, 177, 178, 179, 187, 188, 189, 190, 191, 192, 193, 194] (by decide +kernel) (by decide +kernel)
set_option maxRecDepth 20000 in
theorem gX7_holds_X4_result_n118 : GoodIn wsX7_holds (wsX4_result) := ggX7_holds_X4_result
set_option maxRecDepth 20000 in
theorem ggX7_holds_X7_same : GoodIn wsX7_holds wsX7_same := goodIn_r _ [170] (by decide +kernel) (by decide +kernel)
set_option maxRecDepth 20000 in
theorem gX7_holds_X7_same : GoodIn wsX7_holds (va_wsS RX7 150 yX7_same wsX7_same) := goodIn_app (goodIn_of _ (by decide +kernel)) ggX7_holds_X7_same
theorem dX7_holds_0 : decode cX7_holds 0 = .ok (.aload_n 0, 1) := by decide +kernel
theorem dX7_holds_1 : decode cX7_holds 1 = .ok (.getfield 19, 3) := by decide +kernel
theorem dX7_holds_4 : decode cX7_holds 4 = .ok (.invokevirtual 107, 3) := by decide +kernel
theorem dX7_holds_7 : decode cX7_holds 7 = .ok (.bipush (-6), 2) := by decide +kernel
theorem dX7_holds_9 : decode cX7_holds 9 = .ok (.if_icmp .eq 6, 3) := by decide +kernel
theorem dX7_holds_12 : decode cX7_holds 12 = .ok (.bipush (-3), 2) := by decide +kernel
theorem dX7_holds_14 : decode cX7_holds 14 = .ok (.ireturn, 1) := by decide +kernel
theorem dX7_holds_15 : decode cX7_holds 15 = .ok (.aload_n 0, 1) := by decide +kernel
theorem dX7_holds_16 : decode cX7_holds 16 = .ok (.getfield 19, 3) := by decide +kernel
theorem dX7_holds_19 : decode cX7_holds 19 = .ok (.invokevirtual 111, 3) := by decide +kernel
theorem dX7_holds_22 : decode cX7_holds 22 = .ok (.bipush (-6), 2) := by decide +kernel
theorem dX7_holds_24 : decode cX7_holds 24 = .ok (.if_icmp .ne 23, 3) := by decide +kernel
theorem dX7_holds_27 : decode cX7_holds 27 = .ok (.aload_n 0, 1) := by decide +kernel
theorem dX7_holds_28 : decode cX7_holds 28 = .ok (.getfield 26, 3) := by decide +kernel
theorem dX7_holds_31 : decode cX7_holds 31 = .ok (.aload_n 0, 1) := by decide +kernel
theorem dX7_holds_32 : decode cX7_holds 32 = .ok (.getfield 19, 3) := by decide +kernel
theorem dX7_holds_35 : decode cX7_holds 35 = .ok (.aload_n 0, 1) := by decide +kernel
theorem dX7_holds_36 : decode cX7_holds 36 = .ok (.getfield 12, 3) := by decide +kernel
theorem dX7_holds_39 : decode cX7_holds 39 = .ok (.invokevirtual 114, 3) := by decide +kernel
theorem dX7_holds_42 : decode cX7_holds 42 = .ok (.bipush (-6), 2) := by decide +kernel
theorem dX7_holds_44 : decode cX7_holds 44 = .ok (.if_icmp .eq 6, 3) := by decide +kernel
theorem dX7_holds_47 : decode cX7_holds 47 = .ok (.bipush (-5), 2) := by decide +kernel
theorem dX7_holds_49 : decode cX7_holds 49 = .ok (.ireturn, 1) := by decide +kernel
theorem dX7_holds_50 : decode cX7_holds 50 = .ok (.aload_n 0, 1) := by decide +kernel
theorem dX7_holds_51 : decode cX7_holds 51 = .ok (.getfield 26, 3) := by decide +kernel
theorem dX7_holds_54 : decode cX7_holds 54 = .ok (.getfield 177, 3) := by decide +kernel
theorem dX7_holds_57 : decode cX7_holds 57 = .ok (.aload_n 0, 1) := by decide +kernel
theorem dX7_holds_58 : decode cX7_holds 58 = .ok (.getfield 26, 3) := by decide +kernel
theorem dX7_holds_61 : decode cX7_holds 61 = .ok (.invokevirtual 118, 3) := by decide +kernel
theorem dX7_holds_64 : decode cX7_holds 64 = .ok (.invokestatic 150, 3) := by decide +kernel
theorem dX7_holds_67 : decode cX7_holds 67 = .ok (.ifCond .eq 7, 3) := by decide +kernel
theorem dX7_holds_70 : decode cX7_holds 70 = .ok (.iconst 1, 1) := by decide +kernel
theorem dX7_holds_71 : decode cX7_holds 71 = .ok (.goto 4, 3) := by decide +kernel
theorem dX7_holds_74 : decode cX7_holds 74 = .ok (.iconst 0, 1) := by decide +kernel
theorem dX7_holds_75 : decode cX7_holds 75 = .ok (.ireturn, 1) := by decide +kernel
set_option maxRecDepth 20000 in
theorem ggX7_stops_X3_findFault : GoodIn wsX7_stops wsX3_findFault := goodIn_r _ [7, 8, 9, 10, 11, 12, 13, 14, 15, 16, 5, 17, 18, 19, 20, 21, 22, 23, 24, 25, 26, 27, 28, 29, 30, 31, 32, 33, 34, 35, 36, 37, 38, 39, 40, 41, 42, 43, 44, 45, 171, 172, 173, 174, 175, 176, 177] (by decide +kernel) (by decide +kernel)
set_option maxRecDepth 20000 in
theorem gX7_stops_X3_findFault_n107 : GoodIn wsX7_stops (wsX3_findFault) := ggX7_stops_X3_findFault
set_option maxRecDepth 20000 in
theorem ggX7_stops_X4_carryOut : GoodIn wsX7_stops wsX4_carryOut := goodIn_r _ [49, 50, 51, 52, 53, 54, 55, 56, 57, 58, 59, 60, 61, 62, 63, 64, 65, 66, 5, 67, 68, 12, 13, 26, 27, 28, 69, 70, 71, 47, 72, 73, 74, 75, 76, 77, 78, 79, 80, 81, 82, 83, 84, 85, 86, 87, 88, 89, 90, 91, 92, 93, 94, 95, 96, 97, 98, 99, 100, 101, 102, 103, 104, 105, 106, 107, 108, 109, 110, 111, 112, 113, 114, 115, 116, 117, 118, 119, 120, 121, 122, 123, 124, 125, 126, 127, 128, 129, 130, 131, 132, 133, 134, 135, 136, 137, 138, 139, 140, 141, 142, 143, 144, 145, 146, 147, 148, 149, 150, 151, 152, 153, 154, 155, 156, 157, 158, 159, 160, 161, 162, 163, 164, 178, 179, 180, 171, 172, 173, 174, 175, 176, 177, 181, 182, 183, 184, 185, 186, 187, 188, 189, 190, 191, 192, 193, 194, 195, 196, 197, 198, 199, 200, 201, 202, 203, 204, 205] (by decide +kernel) (by decide +kernel)
set_option maxRecDepth 20000 in
theorem gX7_stops_X4_carryOut_n114 : GoodIn wsX7_stops (wsX4_carryOut) := ggX7_stops_X4_carryOut
theorem dX7_stops_0 : decode cX7_stops 0 = .ok (.aload_n 0, 1) := by decide +kernel
theorem dX7_stops_1 : decode cX7_stops 1 = .ok (.getfield 19, 3) := by decide +kernel
theorem dX7_stops_4 : decode cX7_stops 4 = .ok (.invokevirtual 107, 3) := by decide +kernel
theorem dX7_stops_7 : decode cX7_stops 7 = .ok (.bipush (-6), 2) := by decide +kernel
theorem dX7_stops_9 : decode cX7_stops 9 = .ok (.if_icmp .eq 8, 3) := by decide +kernel
theorem dX7_stops_12 : decode cX7_stops 12 = .ok (.bipush (-3), 2) := by decide +kernel
theorem dX7_stops_14 : decode cX7_stops 14 = .ok (.goto 18, 3) := by decide +kernel
theorem dX7_stops_17 : decode cX7_stops 17 = .ok (.aload_n 0, 1) := by decide +kernel
theorem dX7_stops_18 : decode cX7_stops 18 = .ok (.getfield 26, 3) := by decide +kernel
theorem dX7_stops_21 : decode cX7_stops 21 = .ok (.aload_n 0, 1) := by decide +kernel
theorem dX7_stops_22 : decode cX7_stops 22 = .ok (.getfield 19, 3) := by decide +kernel
theorem dX7_stops_25 : decode cX7_stops 25 = .ok (.aload_n 0, 1) := by decide +kernel
theorem dX7_stops_26 : decode cX7_stops 26 = .ok (.getfield 12, 3) := by decide +kernel
theorem dX7_stops_29 : decode cX7_stops 29 = .ok (.invokevirtual 114, 3) := by decide +kernel
theorem dX7_stops_32 : decode cX7_stops 32 = .ok (.ireturn, 1) := by decide +kernel
set_option maxRecDepth 20000 in
theorem ggX7_put_X3_charactersIn : GoodIn wsX7_put wsX3_charactersIn := goodIn_r _ [4, 5] (by decide +kernel) (by decide +kernel)
set_option maxRecDepth 20000 in
theorem gX7_put_X3_charactersIn_n180 : GoodIn wsX7_put (wsX3_charactersIn) := ggX7_put_X3_charactersIn
set_option maxRecDepth 20000 in
theorem ggX7_put_X3_append : GoodIn wsX7_put wsX3_append := goodIn_r _ [8, 9, 10, 5, 17, 18, 19, 20, 21, 22, 23] (by decide +kernel) (by decide +kernel)
set_option maxRecDepth 20000 in
theorem gX7_put_X3_append_n184 : GoodIn wsX7_put (wsX3_append) := ggX7_put_X3_append
theorem dX7_put_0 : decode cX7_put 0 = .ok (.lload_n 1, 1) := by decide +kernel
theorem dX7_put_1 : decode cX7_put 1 = .ok (.invokestatic 180, 3) := by decide +kernel
theorem dX7_put_4 : decode cX7_put 4 = .ok (.istore_n 3, 1) := by decide +kernel
theorem dX7_put_5 : decode cX7_put 5 = .ok (.iload_n 3, 1) := by decide +kernel
theorem dX7_put_6 : decode cX7_put 6 = .ok (.ifCond .ne 6, 3) := by decide +kernel
theorem dX7_put_9 : decode cX7_put 9 = .ok (.bipush (-2), 2) := by decide +kernel
theorem dX7_put_11 : decode cX7_put 11 = .ok (.ireturn, 1) := by decide +kernel
theorem dX7_put_12 : decode cX7_put 12 = .ok (.aload_n 0, 1) := by decide +kernel
theorem dX7_put_13 : decode cX7_put 13 = .ok (.getfield 19, 3) := by decide +kernel
theorem dX7_put_16 : decode cX7_put 16 = .ok (.getfield 122, 3) := by decide +kernel
theorem dX7_put_19 : decode cX7_put 19 = .ok (.iload_n 3, 1) := by decide +kernel
theorem dX7_put_20 : decode cX7_put 20 = .ok (.iadd, 1) := by decide +kernel
theorem dX7_put_21 : decode cX7_put 21 = .ok (.bipush 60, 2) := by decide +kernel
theorem dX7_put_23 : decode cX7_put 23 = .ok (.if_icmp .le 6, 3) := by decide +kernel
theorem dX7_put_26 : decode cX7_put 26 = .ok (.bipush (-4), 2) := by decide +kernel
theorem dX7_put_28 : decode cX7_put 28 = .ok (.ireturn, 1) := by decide +kernel
theorem dX7_put_29 : decode cX7_put 29 = .ok (.aload_n 0, 1) := by decide +kernel
theorem dX7_put_30 : decode cX7_put 30 = .ok (.getfield 19, 3) := by decide +kernel
theorem dX7_put_33 : decode cX7_put 33 = .ok (.lload_n 1, 1) := by decide +kernel
theorem dX7_put_34 : decode cX7_put 34 = .ok (.iload_n 3, 1) := by decide +kernel
theorem dX7_put_35 : decode cX7_put 35 = .ok (.invokevirtual 184, 3) := by decide +kernel
theorem dX7_put_38 : decode cX7_put 38 = .ok (.aload_n 0, 1) := by decide +kernel
theorem dX7_put_39 : decode cX7_put 39 = .ok (.getfield 19, 3) := by decide +kernel
theorem dX7_put_42 : decode cX7_put 42 = .ok (.getfield 122, 3) := by decide +kernel
theorem dX7_put_45 : decode cX7_put 45 = .ok (.ireturn, 1) := by decide +kernel
theorem dX7_wipe_0 : decode cX7_wipe 0 = .ok (.aload_n 0, 1) := by decide +kernel
theorem dX7_wipe_1 : decode cX7_wipe 1 = .ok (.getfield 19, 3) := by decide +kernel
theorem dX7_wipe_4 : decode cX7_wipe 4 = .ok (.getfield 122, 3) := by decide +kernel
theorem dX7_wipe_7 : decode cX7_wipe 7 = .ok (.istore_n 1, 1) := by decide +kernel
theorem dX7_wipe_8 : decode cX7_wipe 8 = .ok (.aload_n 0, 1) := by decide +kernel
theorem dX7_wipe_9 : decode cX7_wipe 9 = .ok (.getfield 19, 3) := by decide +kernel
theorem dX7_wipe_12 : decode cX7_wipe 12 = .ok (.iconst 0, 1) := by decide +kernel
theorem dX7_wipe_13 : decode cX7_wipe 13 = .ok (.putfield 122, 3) := by decide +kernel
theorem dX7_wipe_16 : decode cX7_wipe 16 = .ok (.iload_n 1, 1) := by decide +kernel
theorem dX7_wipe_17 : decode cX7_wipe 17 = .ok (.ireturn, 1) := by decide +kernel
set_option maxRecDepth 20000 in
theorem ggX7_fault_X3_findFault : GoodIn wsX7_fault wsX3_findFault := goodIn_r _ [5, 6, 7, 8, 9, 10, 11, 12, 13, 14, 3, 15, 16, 17, 18, 19, 20, 21, 22, 23, 24, 25, 26, 27, 28, 29, 30, 31, 32, 33, 34, 35, 36, 37, 38, 39, 40, 41, 42, 43, 50, 51, 52, 53, 54, 55, 56] (by decide +kernel) (by decide +kernel)
set_option maxRecDepth 20000 in
theorem gX7_fault_X3_findFault_n107 : GoodIn wsX7_fault (wsX3_findFault) := ggX7_fault_X3_findFault
theorem dX7_fault_0 : decode cX7_fault 0 = .ok (.aload_n 0, 1) := by decide +kernel
theorem dX7_fault_1 : decode cX7_fault 1 = .ok (.getfield 19, 3) := by decide +kernel
theorem dX7_fault_4 : decode cX7_fault 4 = .ok (.invokevirtual 107, 3) := by decide +kernel
theorem dX7_fault_7 : decode cX7_fault 7 = .ok (.ireturn, 1) := by decide +kernel
set_option maxRecDepth 20000 in
theorem ggX7_undo_X2_takeBack : GoodIn wsX7_undo wsX2_takeBack := goodIn_r _ [6, 7, 8, 9, 10, 11, 12, 13, 14, 15, 16, 17, 18, 19, 20, 21, 22, 23, 30, 31, 32, 44, 45, 46] (by decide +kernel) (by decide +kernel)
set_option maxRecDepth 20000 in
theorem gX7_undo_X2_takeBack_n188 : GoodIn wsX7_undo (wsX2_takeBack) := ggX7_undo_X2_takeBack
theorem dX7_undo_0 : decode cX7_undo 0 = .ok (.aload_n 0, 1) := by decide +kernel
theorem dX7_undo_1 : decode cX7_undo 1 = .ok (.getfield 33, 3) := by decide +kernel
theorem dX7_undo_4 : decode cX7_undo 4 = .ok (.getfield 149, 3) := by decide +kernel
theorem dX7_undo_7 : decode cX7_undo 7 = .ok (.ifCond .ne 6, 3) := by decide +kernel
theorem dX7_undo_10 : decode cX7_undo 10 = .ok (.bipush (-5), 2) := by decide +kernel
theorem dX7_undo_12 : decode cX7_undo 12 = .ok (.ireturn, 1) := by decide +kernel
theorem dX7_undo_13 : decode cX7_undo 13 = .ok (.aload_n 0, 1) := by decide +kernel
theorem dX7_undo_14 : decode cX7_undo 14 = .ok (.getfield 33, 3) := by decide +kernel
theorem dX7_undo_17 : decode cX7_undo 17 = .ok (.aload_n 0, 1) := by decide +kernel
theorem dX7_undo_18 : decode cX7_undo 18 = .ok (.getfield 12, 3) := by decide +kernel
theorem dX7_undo_21 : decode cX7_undo 21 = .ok (.getfield 48, 3) := by decide +kernel
theorem dX7_undo_24 : decode cX7_undo 24 = .ok (.invokevirtual 188, 3) := by decide +kernel
theorem dX7_undo_27 : decode cX7_undo 27 = .ok (.aload_n 0, 1) := by decide +kernel
theorem dX7_undo_28 : decode cX7_undo 28 = .ok (.getfield 33, 3) := by decide +kernel
theorem dX7_undo_31 : decode cX7_undo 31 = .ok (.getfield 149, 3) := by decide +kernel
theorem dX7_undo_34 : decode cX7_undo 34 = .ok (.ireturn, 1) := by decide +kernel
theorem dX7_isRegister_0 : decode cX7_isRegister 0 = .ok (.iload_n 0, 1) := by decide +kernel
theorem dX7_isRegister_1 : decode cX7_isRegister 1 = .ok (.ifCond .lt 13, 3) := by decide +kernel
theorem dX7_isRegister_4 : decode cX7_isRegister 4 = .ok (.iload_n 0, 1) := by decide +kernel
theorem dX7_isRegister_5 : decode cX7_isRegister 5 = .ok (.bipush 8, 2) := by decide +kernel
theorem dX7_isRegister_7 : decode cX7_isRegister 7 = .ok (.if_icmp .ge 7, 3) := by decide +kernel
theorem dX7_isRegister_10 : decode cX7_isRegister 10 = .ok (.iconst 1, 1) := by decide +kernel
theorem dX7_isRegister_11 : decode cX7_isRegister 11 = .ok (.goto 4, 3) := by decide +kernel
theorem dX7_isRegister_14 : decode cX7_isRegister 14 = .ok (.iconst 0, 1) := by decide +kernel
theorem dX7_isRegister_15 : decode cX7_isRegister 15 = .ok (.ireturn, 1) := by decide +kernel
theorem dX7_isElement_0 : decode cX7_isElement 0 = .ok (.iload_n 0, 1) := by decide +kernel
theorem dX7_isElement_1 : decode cX7_isElement 1 = .ok (.ifCond .lt 13, 3) := by decide +kernel
theorem dX7_isElement_4 : decode cX7_isElement 4 = .ok (.iload_n 0, 1) := by decide +kernel
