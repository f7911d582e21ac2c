set_option maxRecDepth 20000 in
theorem ggX0_init_X6_init : GoodIn wsX0_init wsX6_init := goodIn_r _ [25, 26, 2, 3, 27, 13, 28, 29, 30, 31, 6, 32, 33, 34, 35, 36, 37, 38, 45, 46, 47] (by decide +kernel) (by decide +kernel)
set_option maxRecDepth 20000 in
theorem gX0_init_X6_init : GoodIn wsX0_init (wsX6_init) := ggX0_init_X6_init
set_option maxRecDepth 20000 in
theorem ggX0_init_X5_init : GoodIn wsX0_init wsX5_init := goodIn_r _ [41, 42, 2, 3, 43, 13, 44, 59, 60, 61] (by decide +kernel) (by decide +kernel)
set_option maxRecDepth 20000 in
theorem gX0_init_X5_init : GoodIn wsX0_init (wsX5_init) := ggX0_init_X5_init
theorem dX0_init_0 : decode cX0_init 0 = .ok (.aload_n 0, 1) := by decide +kernel
theorem dX0_init_1 : decode cX0_init 1 = .ok (.invokespecial 3, 3) := by decide +kernel
theorem dX0_init_4 : decode cX0_init 4 = .ok (.aload_n 0, 1) := by decide +kernel
theorem dX0_init_5 : decode cX0_init 5 = .ok (.new 9, 3) := by decide +kernel
theorem dX0_init_8 : decode cX0_init 8 = .ok (.dup, 1) := by decide +kernel
theorem dX0_init_9 : decode cX0_init 9 = .ok (.invokespecial 11, 3) := by decide +kernel
theorem dX0_init_12 : decode cX0_init 12 = .ok (.putfield 12, 3) := by decide +kernel
theorem dX0_init_15 : decode cX0_init 15 = .ok (.aload_n 0, 1) := by decide +kernel
theorem dX0_init_16 : decode cX0_init 16 = .ok (.new 18, 3) := by decide +kernel
theorem dX0_init_19 : decode cX0_init 19 = .ok (.dup, 1) := by decide +kernel
theorem dX0_init_20 : decode cX0_init 20 = .ok (.invokespecial 20, 3) := by decide +kernel
theorem dX0_init_23 : decode cX0_init 23 = .ok (.putfield 21, 3) := by decide +kernel
theorem dX0_init_26 : decode cX0_init 26 = .ok (.aload_n 0, 1) := by decide +kernel
theorem dX0_init_27 : decode cX0_init 27 = .ok (.iconst 3, 1) := by decide +kernel
theorem dX0_init_28 : decode cX0_init 28 = .ok (.bipush 9, 2) := by decide +kernel
theorem dX0_init_30 : decode cX0_init 30 = .ok (.multianewarray 25 2, 4) := by decide +kernel
theorem dX0_init_34 : decode cX0_init 34 = .ok (.putfield 27, 3) := by decide +kernel
theorem dX0_init_37 : decode cX0_init 37 = .ok (.aload_n 0, 1) := by decide +kernel
theorem dX0_init_38 : decode cX0_init 38 = .ok (.bipush 9, 2) := by decide +kernel
theorem dX0_init_40 : decode cX0_init 40 = .ok (.newarray .int, 2) := by decide +kernel
theorem dX0_init_42 : decode cX0_init 42 = .ok (.putfield 30, 3) := by decide +kernel
theorem dX0_init_45 : decode cX0_init 45 = .ok (.aload_n 0, 1) := by decide +kernel
theorem dX0_init_46 : decode cX0_init 46 = .ok (.bipush 9, 2) := by decide +kernel
theorem dX0_init_48 : decode cX0_init 48 = .ok (.newarray .int, 2) := by decide +kernel
theorem dX0_init_50 : decode cX0_init 50 = .ok (.putfield 34, 3) := by decide +kernel
theorem dX0_init_53 : decode cX0_init 53 = .ok (.aload_n 0, 1) := by decide +kernel
theorem dX0_init_54 : decode cX0_init 54 = .ok (.bipush 9, 2) := by decide +kernel
theorem dX0_init_56 : decode cX0_init 56 = .ok (.newarray .int, 2) := by decide +kernel
theorem dX0_init_58 : decode cX0_init 58 = .ok (.putfield 37, 3) := by decide +kernel
theorem dX0_init_61 : decode cX0_init 61 = .ok (.aload_n 0, 1) := by decide +kernel
theorem dX0_init_62 : decode cX0_init 62 = .ok (.bipush 9, 2) := by decide +kernel
theorem dX0_init_64 : decode cX0_init 64 = .ok (.newarray .int, 2) := by decide +kernel
theorem dX0_init_66 : decode cX0_init 66 = .ok (.putfield 40, 3) := by decide +kernel
theorem dX0_init_69 : decode cX0_init 69 = .ok (.aload_n 0, 1) := by decide +kernel
theorem dX0_init_70 : decode cX0_init 70 = .ok (.bipush 9, 2) := by decide +kernel
theorem dX0_init_72 : decode cX0_init 72 = .ok (.newarray .int, 2) := by decide +kernel
theorem dX0_init_74 : decode cX0_init 74 = .ok (.putfield 43, 3) := by decide +kernel
theorem dX0_init_77 : decode cX0_init 77 = .ok (.aload_n 0, 1) := by decide +kernel
theorem dX0_init_78 : decode cX0_init 78 = .ok (.bipush 9, 2) := by decide +kernel
theorem dX0_init_80 : decode cX0_init 80 = .ok (.newarray .int, 2) := by decide +kernel
theorem dX0_init_82 : decode cX0_init 82 = .ok (.putfield 46, 3) := by decide +kernel
theorem dX0_init_85 : decode cX0_init 85 = .ok (.aload_n 0, 1) := by decide +kernel
theorem dX0_init_86 : decode cX0_init 86 = .ok (.bipush 9, 2) := by decide +kernel
theorem dX0_init_88 : decode cX0_init 88 = .ok (.newarray .int, 2) := by decide +kernel
theorem dX0_init_90 : decode cX0_init 90 = .ok (.putfield 49, 3) := by decide +kernel
theorem dX0_init_93 : decode cX0_init 93 = .ok (.aload_n 0, 1) := by decide +kernel
theorem dX0_init_94 : decode cX0_init 94 = .ok (.iconst 4, 1) := by decide +kernel
theorem dX0_init_95 : decode cX0_init 95 = .ok (.bipush 9, 2) := by decide +kernel
theorem dX0_init_97 : decode cX0_init 97 = .ok (.multianewarray 25 2, 4) := by decide +kernel
theorem dX0_init_101 : decode cX0_init 101 = .ok (.putfield 52, 3) := by decide +kernel
theorem dX0_init_104 : decode cX0_init 104 = .ok (.return_, 1) := by decide +kernel
theorem dX0_unit_0 : decode cX0_unit 0 = .ok (.aload_n 0, 1) := by decide +kernel
theorem dX0_unit_1 : decode cX0_unit 1 = .ok (.getfield 12, 3) := by decide +kernel
theorem dX0_unit_4 : decode cX0_unit 4 = .ok (.getfield 55, 3) := by decide +kernel
theorem dX0_unit_7 : decode cX0_unit 7 = .ok (.bipush 9, 2) := by decide +kernel
theorem dX0_unit_9 : decode cX0_unit 9 = .ok (.aaload, 1) := by decide +kernel
theorem dX0_unit_10 : decode cX0_unit 10 = .ok (.areturn, 1) := by decide +kernel
set_option maxRecDepth 20000 in
theorem ggX0_multiply_X7_reduced : GoodIn wsX0_multiply wsX7_reduced := goodIn_r _ [4] (by decide +kernel) (by decide +kernel)
set_option maxRecDepth 20000 in
theorem gX0_multiply_X7_reduced_n62 : GoodIn wsX0_multiply (wsX7_reduced) := ggX0_multiply_X7_reduced
theorem dX0_multiply_0 : decode cX0_multiply 0 = .ok (.iconst 0, 1) := by decide +kernel
theorem dX0_multiply_1 : decode cX0_multiply 1 = .ok (.istore 4, 2) := by decide +kernel
theorem dX0_multiply_3 : decode cX0_multiply 3 = .ok (.iload 4, 2) := by decide +kernel
theorem dX0_multiply_5 : decode cX0_multiply 5 = .ok (.iconst 3, 1) := by decide +kernel
theorem dX0_multiply_6 : decode cX0_multiply 6 = .ok (.if_icmp .ge 87, 3) := by decide +kernel
theorem dX0_multiply_9 : decode cX0_multiply 9 = .ok (.iconst 0, 1) := by decide +kernel
theorem dX0_multiply_10 : decode cX0_multiply 10 = .ok (.istore 5, 2) := by decide +kernel
theorem dX0_multiply_12 : decode cX0_multiply 12 = .ok (.iload 5, 2) := by decide +kernel
theorem dX0_multiply_14 : decode cX0_multiply 14 = .ok (.iconst 3, 1) := by decide +kernel
theorem dX0_multiply_15 : decode cX0_multiply 15 = .ok (.if_icmp .ge 72, 3) := by decide +kernel
theorem dX0_multiply_18 : decode cX0_multiply 18 = .ok (.iconst 0, 1) := by decide +kernel
theorem dX0_multiply_19 : decode cX0_multiply 19 = .ok (.istore 6, 2) := by decide +kernel
theorem dX0_multiply_21 : decode cX0_multiply 21 = .ok (.iconst 0, 1) := by decide +kernel
theorem dX0_multiply_22 : decode cX0_multiply 22 = .ok (.istore 7, 2) := by decide +kernel
theorem dX0_multiply_24 : decode cX0_multiply 24 = .ok (.iload 7, 2) := by decide +kernel
theorem dX0_multiply_26 : decode cX0_multiply 26 = .ok (.iconst 3, 1) := by decide +kernel
theorem dX0_multiply_27 : decode cX0_multiply 27 = .ok (.if_icmp .ge 33, 3) := by decide +kernel
theorem dX0_multiply_30 : decode cX0_multiply 30 = .ok (.iload 6, 2) := by decide +kernel
theorem dX0_multiply_32 : decode cX0_multiply 32 = .ok (.aload_n 1, 1) := by decide +kernel
theorem dX0_multiply_33 : decode cX0_multiply 33 = .ok (.iconst 3, 1) := by decide +kernel
theorem dX0_multiply_34 : decode cX0_multiply 34 = .ok (.iload 4, 2) := by decide +kernel
theorem dX0_multiply_36 : decode cX0_multiply 36 = .ok (.imul, 1) := by decide +kernel
theorem dX0_multiply_37 : decode cX0_multiply 37 = .ok (.iload 7, 2) := by decide +kernel
theorem dX0_multiply_39 : decode cX0_multiply 39 = .ok (.iadd, 1) := by decide +kernel
theorem dX0_multiply_40 : decode cX0_multiply 40 = .ok (.iaload, 1) := by decide +kernel
theorem dX0_multiply_41 : decode cX0_multiply 41 = .ok (.aload_n 2, 1) := by decide +kernel
theorem dX0_multiply_42 : decode cX0_multiply 42 = .ok (.iconst 3, 1) := by decide +kernel
theorem dX0_multiply_43 : decode cX0_multiply 43 = .ok (.iload 7, 2) := by decide +kernel
theorem dX0_multiply_45 : decode cX0_multiply 45 = .ok (.imul, 1) := by decide +kernel
theorem dX0_multiply_46 : decode cX0_multiply 46 = .ok (.iload 5, 2) := by decide +kernel
theorem dX0_multiply_48 : decode cX0_multiply 48 = .ok (.iadd, 1) := by decide +kernel
theorem dX0_multiply_49 : decode cX0_multiply 49 = .ok (.iaload, 1) := by decide +kernel
theorem dX0_multiply_50 : decode cX0_multiply 50 = .ok (.imul, 1) := by decide +kernel
theorem dX0_multiply_51 : decode cX0_multiply 51 = .ok (.iadd, 1) := by decide +kernel
theorem dX0_multiply_52 : decode cX0_multiply 52 = .ok (.istore 6, 2) := by decide +kernel
theorem dX0_multiply_54 : decode cX0_multiply 54 = .ok (.iinc 7 1, 3) := by decide +kernel
theorem dX0_multiply_57 : decode cX0_multiply 57 = .ok (.goto (-33), 3) := by decide +kernel
theorem dX0_multiply_60 : decode cX0_multiply 60 = .ok (.aload_n 3, 1) := by decide +kernel
theorem dX0_multiply_61 : decode cX0_multiply 61 = .ok (.iconst 3, 1) := by decide +kernel
theorem dX0_multiply_62 : decode cX0_multiply 62 = .ok (.iload 4, 2) := by decide +kernel
theorem dX0_multiply_64 : decode cX0_multiply 64 = .ok (.imul, 1) := by decide +kernel
theorem dX0_multiply_65 : decode cX0_multiply 65 = .ok (.iload 5, 2) := by decide +kernel
theorem dX0_multiply_67 : decode cX0_multiply 67 = .ok (.iadd, 1) := by decide +kernel
theorem dX0_multiply_68 : decode cX0_multiply 68 = .ok (.iload 6, 2) := by decide +kernel
theorem dX0_multiply_70 : decode cX0_multiply 70 = .ok (.aload_n 0, 1) := by decide +kernel
theorem dX0_multiply_71 : decode cX0_multiply 71 = .ok (.getfield 12, 3) := by decide +kernel
theorem dX0_multiply_74 : decode cX0_multiply 74 = .ok (.getfield 58, 3) := by decide +kernel
theorem dX0_multiply_77 : decode cX0_multiply 77 = .ok (.invokestatic 62, 3) := by decide +kernel
theorem dX0_multiply_80 : decode cX0_multiply 80 = .ok (.iastore, 1) := by decide +kernel
theorem dX0_multiply_81 : decode cX0_multiply 81 = .ok (.iinc 5 1, 3) := by decide +kernel
theorem dX0_multiply_84 : decode cX0_multiply 84 = .ok (.goto (-72), 3) := by decide +kernel
theorem dX0_multiply_87 : decode cX0_multiply 87 = .ok (.iinc 4 1, 3) := by decide +kernel
theorem dX0_multiply_90 : decode cX0_multiply 90 = .ok (.goto (-87), 3) := by decide +kernel
theorem dX0_multiply_93 : decode cX0_multiply 93 = .ok (.return_, 1) := by decide +kernel
set_option maxRecDepth 20000 in
theorem ggX0_writeSymmetric_X7_reduced : GoodIn wsX0_writeSymmetric wsX7_reduced := goodIn_r _ [4] (by decide +kernel) (by decide +kernel)
set_option maxRecDepth 20000 in
theorem gX0_writeSymmetric_X7_reduced_n62 : GoodIn wsX0_writeSymmetric (wsX7_reduced) := ggX0_writeSymmetric_X7_reduced
theorem dX0_writeSymmetric_0 : decode cX0_writeSymmetric 0 = .ok (.iconst 0, 1) := by decide +kernel
theorem dX0_writeSymmetric_1 : decode cX0_writeSymmetric 1 = .ok (.istore_n 3, 1) := by decide +kernel
theorem dX0_writeSymmetric_2 : decode cX0_writeSymmetric 2 = .ok (.iload_n 3, 1) := by decide +kernel
theorem dX0_writeSymmetric_3 : decode cX0_writeSymmetric 3 = .ok (.iconst 3, 1) := by decide +kernel
theorem dX0_writeSymmetric_4 : decode cX0_writeSymmetric 4 = .ok (.if_icmp .ge 89, 3) := by decide +kernel
theorem dX0_writeSymmetric_7 : decode cX0_writeSymmetric 7 = .ok (.iconst 0, 1) := by decide +kernel
theorem dX0_writeSymmetric_8 : decode cX0_writeSymmetric 8 = .ok (.istore 4, 2) := by decide +kernel
theorem dX0_writeSymmetric_10 : decode cX0_writeSymmetric 10 = .ok (.iload 4, 2) := by decide +kernel
theorem dX0_writeSymmetric_12 : decode cX0_writeSymmetric 12 = .ok (.iconst 3, 1) := by decide +kernel
theorem dX0_writeSymmetric_13 : decode cX0_writeSymmetric 13 = .ok (.if_icmp .ge 74, 3) := by decide +kernel
theorem dX0_writeSymmetric_16 : decode cX0_writeSymmetric 16 = .ok (.aload_n 1, 1) := by decide +kernel
theorem dX0_writeSymmetric_17 : decode cX0_writeSymmetric 17 = .ok (.iconst 3, 1) := by decide +kernel
theorem dX0_writeSymmetric_18 : decode cX0_writeSymmetric 18 = .ok (.iload_n 3, 1) := by decide +kernel
theorem dX0_writeSymmetric_19 : decode cX0_writeSymmetric 19 = .ok (.imul, 1) := by decide +kernel
theorem dX0_writeSymmetric_20 : decode cX0_writeSymmetric 20 = .ok (.iload 4, 2) := by decide +kernel
theorem dX0_writeSymmetric_22 : decode cX0_writeSymmetric 22 = .ok (.iadd, 1) := by decide +kernel
theorem dX0_writeSymmetric_23 : decode cX0_writeSymmetric 23 = .ok (.iaload, 1) := by decide +kernel
theorem dX0_writeSymmetric_24 : decode cX0_writeSymmetric 24 = .ok (.aload_n 1, 1) := by decide +kernel
theorem dX0_writeSymmetric_25 : decode cX0_writeSymmetric 25 = .ok (.iconst 3, 1) := by decide +kernel
theorem dX0_writeSymmetric_26 : decode cX0_writeSymmetric 26 = .ok (.iload 4, 2) := by decide +kernel
theorem dX0_writeSymmetric_28 : decode cX0_writeSymmetric 28 = .ok (.imul, 1) := by decide +kernel
theorem dX0_writeSymmetric_29 : decode cX0_writeSymmetric 29 = .ok (.iload_n 3, 1) := by decide +kernel
theorem dX0_writeSymmetric_30 : decode cX0_writeSymmetric 30 = .ok (.iadd, 1) := by decide +kernel
theorem dX0_writeSymmetric_31 : decode cX0_writeSymmetric 31 = .ok (.iaload, 1) := by decide +kernel
theorem dX0_writeSymmetric_32 : decode cX0_writeSymmetric 32 = .ok (.iadd, 1) := by decide +kernel
theorem dX0_writeSymmetric_33 : decode cX0_writeSymmetric 33 = .ok (.istore 5, 2) := by decide +kernel
theorem dX0_writeSymmetric_35 : decode cX0_writeSymmetric 35 = .ok (.iload 5, 2) := by decide +kernel
theorem dX0_writeSymmetric_37 : decode cX0_writeSymmetric 37 = .ok (.iconst 2, 1) := by decide +kernel
theorem dX0_writeSymmetric_38 : decode cX0_writeSymmetric 38 = .ok (.irem, 1) := by decide +kernel
theorem dX0_writeSymmetric_39 : decode cX0_writeSymmetric 39 = .ok (.ifCond .ne 8, 3) := by decide +kernel
theorem dX0_writeSymmetric_42 : decode cX0_writeSymmetric 42 = .ok (.iload 5, 2) := by decide +kernel
theorem dX0_writeSymmetric_44 : decode cX0_writeSymmetric 44 = .ok (.goto 13, 3) := by decide +kernel
theorem dX0_writeSymmetric_47 : decode cX0_writeSymmetric 47 = .ok (.iload 5, 2) := by decide +kernel
theorem dX0_writeSymmetric_49 : decode cX0_writeSymmetric 49 = .ok (.aload_n 0, 1) := by decide +kernel
theorem dX0_writeSymmetric_50 : decode cX0_writeSymmetric 50 = .ok (.getfield 12, 3) := by decide +kernel
theorem dX0_writeSymmetric_53 : decode cX0_writeSymmetric 53 = .ok (.getfield 58, 3) := by decide +kernel
theorem dX0_writeSymmetric_56 : decode cX0_writeSymmetric 56 = .ok (.iadd, 1) := by decide +kernel
theorem dX0_writeSymmetric_57 : decode cX0_writeSymmetric 57 = .ok (.istore 6, 2) := by decide +kernel
theorem dX0_writeSymmetric_59 : decode cX0_writeSymmetric 59 = .ok (.aload_n 2, 1) := by decide +kernel
theorem dX0_writeSymmetric_60 : decode cX0_writeSymmetric 60 = .ok (.iconst 3, 1) := by decide +kernel
theorem dX0_writeSymmetric_61 : decode cX0_writeSymmetric 61 = .ok (.iload_n 3, 1) := by decide +kernel
theorem dX0_writeSymmetric_62 : decode cX0_writeSymmetric 62 = .ok (.imul, 1) := by decide +kernel
theorem dX0_writeSymmetric_63 : decode cX0_writeSymmetric 63 = .ok (.iload 4, 2) := by decide +kernel
theorem dX0_writeSymmetric_65 : decode cX0_writeSymmetric 65 = .ok (.iadd, 1) := by decide +kernel
theorem dX0_writeSymmetric_66 : decode cX0_writeSymmetric 66 = .ok (.iload 6, 2) := by decide +kernel
theorem dX0_writeSymmetric_68 : decode cX0_writeSymmetric 68 = .ok (.iconst 2, 1) := by decide +kernel
theorem dX0_writeSymmetric_69 : decode cX0_writeSymmetric 69 = .ok (.idiv, 1) := by decide +kernel
theorem dX0_writeSymmetric_70 : decode cX0_writeSymmetric 70 = .ok (.aload_n 0, 1) := by decide +kernel
theorem dX0_writeSymmetric_71 : decode cX0_writeSymmetric 71 = .ok (.getfield 12, 3) := by decide +kernel
theorem dX0_writeSymmetric_74 : decode cX0_writeSymmetric 74 = .ok (.getfield 58, 3) := by decide +kernel
theorem dX0_writeSymmetric_77 : decode cX0_writeSymmetric 77 = .ok (.invokestatic 62, 3) := by decide +kernel
theorem dX0_writeSymmetric_80 : decode cX0_writeSymmetric 80 = .ok (.iastore, 1) := by decide +kernel
theorem dX0_writeSymmetric_81 : decode cX0_writeSymmetric 81 = .ok (.iinc 4 1, 3) := by decide +kernel
theorem dX0_writeSymmetric_84 : decode cX0_writeSymmetric 84 = .ok (.goto (-74), 3) := by decide +kernel
theorem dX0_writeSymmetric_87 : decode cX0_writeSymmetric 87 = .ok (.iinc 3 1, 3) := by decide +kernel
theorem dX0_writeSymmetric_90 : decode cX0_writeSymmetric 90 = .ok (.goto (-88), 3) := by decide +kernel
theorem dX0_writeSymmetric_93 : decode cX0_writeSymmetric 93 = .ok (.return_, 1) := by decide +kernel
set_option maxRecDepth 20000 in
theorem ggX0_product_X0_multiply : GoodIn wsX0_product wsX0_multiply := goodIn_r _ [8, 1, 9, 10, 11, 16, 17, 18, 19, 20, 21, 22, 23, 24, 25, 26, 27, 28, 29] (by decide +kernel) (by decide +kernel)
set_option maxRecDepth 20000 in
theorem gX0_product_X0_multiply : GoodIn wsX0_product (wsV RX0 66 RX0 yX0_multiply wsX0_multiply) := goodIn_app (goodIn_of _ (by decide +kernel)) ggX0_product_X0_multiply
set_option maxRecDepth 20000 in
theorem ggX0_product_X0_writeSymmetric : GoodIn wsX0_product wsX0_writeSymmetric := goodIn_r _ [15, 1, 9, 10, 11, 16, 17, 18, 19, 20, 21, 22, 23, 24, 25, 26, 27, 28, 29] (by decide +kernel) (by decide +kernel)
set_option maxRecDepth 20000 in
theorem gX0_product_X0_writeSymmetric : GoodIn wsX0_product (wsV RX0 70 RX0 yX0_writeSymmetric wsX0_writeSymmetric) := goodIn_app (goodIn_of _ (by decide +kernel)) ggX0_product_X0_writeSymmetric
theorem dX0_product_0 : decode cX0_product 0 = .ok (.aload_n 0, 1) := by decide +kernel
theorem dX0_product_1 : decode cX0_product 1 = .ok (.aload_n 1, 1) := by decide +kernel
theorem dX0_product_2 : decode cX0_product 2 = .ok (.aload_n 0, 1) := by decide +kernel
theorem dX0_product_3 : decode cX0_product 3 = .ok (.getfield 12, 3) := by decide +kernel
theorem dX0_product_6 : decode cX0_product 6 = .ok (.getfield 55, 3) := by decide +kernel
theorem dX0_product_9 : decode cX0_product 9 = .ok (.bipush 8, 2) := by decide +kernel
theorem dX0_product_11 : decode cX0_product 11 = .ok (.aaload, 1) := by decide +kernel
theorem dX0_product_12 : decode cX0_product 12 = .ok (.aload_n 0, 1) := by decide +kernel
theorem dX0_product_13 : decode cX0_product 13 = .ok (.getfield 37, 3) := by decide +kernel
theorem dX0_product_16 : decode cX0_product 16 = .ok (.invokevirtual 66, 3) := by decide +kernel
theorem dX0_product_19 : decode cX0_product 19 = .ok (.aload_n 0, 1) := by decide +kernel
theorem dX0_product_20 : decode cX0_product 20 = .ok (.aload_n 0, 1) := by decide +kernel
theorem dX0_product_21 : decode cX0_product 21 = .ok (.getfield 37, 3) := by decide +kernel
theorem dX0_product_24 : decode cX0_product 24 = .ok (.aload_n 2, 1) := by decide +kernel
theorem dX0_product_25 : decode cX0_product 25 = .ok (.aload_n 0, 1) := by decide +kernel
theorem dX0_product_26 : decode cX0_product 26 = .ok (.getfield 40, 3) := by decide +kernel
theorem dX0_product_29 : decode cX0_product 29 = .ok (.invokevirtual 66, 3) := by decide +kernel
theorem dX0_product_32 : decode cX0_product 32 = .ok (.aload_n 0, 1) := by decide +kernel
theorem dX0_product_33 : decode cX0_product 33 = .ok (.aload_n 0, 1) := by decide +kernel
theorem dX0_product_34 : decode cX0_product 34 = .ok (.getfield 40, 3) := by decide +kernel
theorem dX0_product_37 : decode cX0_product 37 = .ok (.aload_n 3, 1) := by decide +kernel
theorem dX0_product_38 : decode cX0_product 38 = .ok (.invokevirtual 70, 3) := by decide +kernel
theorem dX0_product_41 : decode cX0_product 41 = .ok (.return_, 1) := by decide +kernel
set_option maxRecDepth 20000 in
theorem ggX0_triple_X0_multiply : GoodIn wsX0_triple wsX0_multiply := goodIn_r _ [8, 1, 9, 10, 11, 16, 17, 18, 19, 20, 21, 22, 23, 24, 25, 26, 27, 28, 29] (by decide +kernel) (by decide +kernel)
set_option maxRecDepth 20000 in
theorem gX0_triple_X0_multiply : GoodIn wsX0_triple (wsV RX0 66 RX0 yX0_multiply wsX0_multiply) := goodIn_app (goodIn_of _ (by decide +kernel)) ggX0_triple_X0_multiply
set_option maxRecDepth 20000 in
theorem ggX0_triple_X0_writeSymmetric : GoodIn wsX0_triple wsX0_writeSymmetric := goodIn_r _ [15, 1, 9, 10, 11, 16, 17, 18, 19, 20, 21, 22, 23, 24, 25, 26, 27, 28, 29] (by decide +kernel) (by decide +kernel)
set_option maxRecDepth 20000 in
theorem gX0_triple_X0_writeSymmetric : GoodIn wsX0_triple (wsV RX0 70 RX0 yX0_writeSymmetric wsX0_writeSymmetric) := goodIn_app (goodIn_of _ (by decide +kernel)) ggX0_triple_X0_writeSymmetric
theorem dX0_triple_0 : decode cX0_triple 0 = .ok (.aload_n 0, 1) := by decide +kernel
theorem dX0_triple_1 : decode cX0_triple 1 = .ok (.aload_n 1, 1) := by decide +kernel
theorem dX0_triple_2 : decode cX0_triple 2 = .ok (.aload_n 0, 1) := by decide +kernel
theorem dX0_triple_3 : decode cX0_triple 3 = .ok (.getfield 12, 3) := by decide +kernel
theorem dX0_triple_6 : decode cX0_triple 6 = .ok (.getfield 55, 3) := by decide +kernel
theorem dX0_triple_9 : decode cX0_triple 9 = .ok (.bipush 8, 2) := by decide +kernel
theorem dX0_triple_11 : decode cX0_triple 11 = .ok (.aaload, 1) := by decide +kernel
theorem dX0_triple_12 : decode cX0_triple 12 = .ok (.aload_n 0, 1) := by decide +kernel
theorem dX0_triple_13 : decode cX0_triple 13 = .ok (.getfield 37, 3) := by decide +kernel
theorem dX0_triple_16 : decode cX0_triple 16 = .ok (.invokevirtual 66, 3) := by decide +kernel
theorem dX0_triple_19 : decode cX0_triple 19 = .ok (.aload_n 0, 1) := by decide +kernel
theorem dX0_triple_20 : decode cX0_triple 20 = .ok (.aload_n 0, 1) := by decide +kernel
theorem dX0_triple_21 : decode cX0_triple 21 = .ok (.getfield 37, 3) := by decide +kernel
theorem dX0_triple_24 : decode cX0_triple 24 = .ok (.aload_n 2, 1) := by decide +kernel
theorem dX0_triple_25 : decode cX0_triple 25 = .ok (.aload_n 0, 1) := by decide +kernel
theorem dX0_triple_26 : decode cX0_triple 26 = .ok (.getfield 40, 3) := by decide +kernel
theorem dX0_triple_29 : decode cX0_triple 29 = .ok (.invokevirtual 66, 3) := by decide +kernel
theorem dX0_triple_32 : decode cX0_triple 32 = .ok (.aload_n 0, 1) := by decide +kernel
theorem dX0_triple_33 : decode cX0_triple 33 = .ok (.aload_n 0, 1) := by decide +kernel
theorem dX0_triple_34 : decode cX0_triple 34 = .ok (.getfield 40, 3) := by decide +kernel
theorem dX0_triple_37 : decode cX0_triple 37 = .ok (.aload_n 0, 1) := by decide +kernel
theorem dX0_triple_38 : decode cX0_triple 38 = .ok (.getfield 12, 3) := by decide +kernel
theorem dX0_triple_41 : decode cX0_triple 41 = .ok (.getfield 55, 3) := by decide +kernel
theorem dX0_triple_44 : decode cX0_triple 44 = .ok (.bipush 8, 2) := by decide +kernel
theorem dX0_triple_46 : decode cX0_triple 46 = .ok (.aaload, 1) := by decide +kernel
theorem dX0_triple_47 : decode cX0_triple 47 = .ok (.aload_n 0, 1) := by decide +kernel
theorem dX0_triple_48 : decode cX0_triple 48 = .ok (.getfield 37, 3) := by decide +kernel
theorem dX0_triple_51 : decode cX0_triple 51 = .ok (.invokevirtual 66, 3) := by decide +kernel
theorem dX0_triple_54 : decode cX0_triple 54 = .ok (.aload_n 0, 1) := by decide +kernel
theorem dX0_triple_55 : decode cX0_triple 55 = .ok (.aload_n 0, 1) := by decide +kernel
theorem dX0_triple_56 : decode cX0_triple 56 = .ok (.getfield 37, 3) := by decide +kernel
theorem dX0_triple_59 : decode cX0_triple 59 = .ok (.aload_n 3, 1) := by decide +kernel
theorem dX0_triple_60 : decode cX0_triple 60 = .ok (.aload_n 0, 1) := by decide +kernel
theorem dX0_triple_61 : decode cX0_triple 61 = .ok (.getfield 40, 3) := by decide +kernel
theorem dX0_triple_64 : decode cX0_triple 64 = .ok (.invokevirtual 66, 3) := by decide +kernel
theorem dX0_triple_67 : decode cX0_triple 67 = .ok (.aload_n 0, 1) := by decide +kernel
theorem dX0_triple_68 : decode cX0_triple 68 = .ok (.aload_n 0, 1) := by decide +kernel
theorem dX0_triple_69 : decode cX0_triple 69 = .ok (.getfield 40, 3) := by decide +kernel
theorem dX0_triple_72 : decode cX0_triple 72 = .ok (.aload 4, 2) := by decide +kernel
theorem dX0_triple_74 : decode cX0_triple 74 = .ok (.invokevirtual 70, 3) := by decide +kernel
theorem dX0_triple_77 : decode cX0_triple 77 = .ok (.return_, 1) := by decide +kernel
set_option maxRecDepth 20000 in
theorem ggX0_operator_X0_triple : GoodIn wsX0_operator wsX0_triple := goodIn_r _ [5, 6, 7, 8, 9, 10, 11, 4, 12, 13, 14, 15, 16, 17, 18, 19, 20, 21, 22, 23, 24, 25, 26, 27, 28, 29, 30, 31, 32, 33] (by decide +kernel) (by decide +kernel)
set_option maxRecDepth 20000 in
theorem gX0_operator_X0_triple : GoodIn wsX0_operator (wsV RX0 74 RX0 yX0_triple wsX0_triple) := goodIn_app (goodIn_of _ (by decide +kernel)) ggX0_operator_X0_triple
theorem dX0_operator_0 : decode cX0_operator 0 = .ok (.aload_n 0, 1) := by decide +kernel
theorem dX0_operator_1 : decode cX0_operator 1 = .ok (.aload_n 1, 1) := by decide +kernel
theorem dX0_operator_2 : decode cX0_operator 2 = .ok (.aload_n 2, 1) := by decide +kernel
theorem dX0_operator_3 : decode cX0_operator 3 = .ok (.aload_n 1, 1) := by decide +kernel
theorem dX0_operator_4 : decode cX0_operator 4 = .ok (.aload_n 3, 1) := by decide +kernel
theorem dX0_operator_5 : decode cX0_operator 5 = .ok (.invokevirtual 74, 3) := by decide +kernel
theorem dX0_operator_8 : decode cX0_operator 8 = .ok (.return_, 1) := by decide +kernel
set_option maxRecDepth 20000 in
theorem ggX0_inverse_X5_load : GoodIn wsX0_inverse wsX5_load := goodIn_r _ [7, 8, 9, 10, 11, 12, 5, 13, 61, 62, 63, 64, 65, 66] (by decide +kernel) (by decide +kernel)
set_option maxRecDepth 20000 in
theorem gX0_inverse_X5_load_n78 : GoodIn wsX0_inverse (wsX5_load) := ggX0_inverse_X5_load
set_option maxRecDepth 20000 in
theorem ggX0_inverse_X5_reduce : GoodIn wsX0_inverse wsX5_reduce := goodIn_r _ [16, 17, 9, 18, 19, 20, 5, 21, 22, 23, 24, 25, 26, 27, 28, 29, 8, 30, 31, 32, 33, 34, 35, 36, 64, 65, 66] (by decide +kernel) (by decide +kernel)
set_option maxRecDepth 20000 in
theorem gX0_inverse_X5_reduce_n82 : GoodIn wsX0_inverse (wsX5_reduce) := ggX0_inverse_X5_reduce
set_option maxRecDepth 20000 in
theorem ggX0_inverse_X0_readInverse : GoodIn wsX0_inverse wsX0_readInverse := goodIn_r _ [41, 1, 50, 51, 52, 53, 54, 55, 56, 57, 58, 59, 60, 64, 65, 66] (by decide +kernel) (by decide +kernel)
set_option maxRecDepth 20000 in
theorem gX0_inverse_X0_readInverse : GoodIn wsX0_inverse (wsV RX0 89 RX0 yX0_readInverse wsX0_readInverse) := goodIn_app (goodIn_of _ (by decide +kernel)) ggX0_inverse_X0_readInverse
set_option maxRecDepth 20000 in
theorem ggX0_inverse_X0_unit : GoodIn wsX0_inverse wsX0_unit := goodIn_r _ [45, 2, 50, 51, 52, 53, 54, 55, 56, 57, 58, 59, 60, 61, 62, 63] (by decide +kernel) (by decide +kernel)
set_option maxRecDepth 20000 in
theorem gX0_inverse_X0_unit : GoodIn wsX0_inverse (wsV RX0 93 RX0 yX0_unit wsX0_unit) := goodIn_app (goodIn_of _ (by decide +kernel)) ggX0_inverse_X0_unit
set_option maxRecDepth 20000 in
theorem ggX0_inverse_X0_multiply : GoodIn wsX0_inverse wsX0_multiply := goodIn_r _ [49, 2, 30, 31, 32, 50, 51, 52, 53, 54, 55, 56, 57, 58, 59, 60, 61, 62, 63] (by decide +kernel) (by decide +kernel)
set_option maxRecDepth 20000 in
theorem gX0_inverse_X0_multiply : GoodIn wsX0_inverse (wsV RX0 66 RX0 yX0_multiply wsX0_multiply) := goodIn_app (goodIn_of _ (by decide +kernel)) ggX0_inverse_X0_multiply
theorem dX0_inverse_0 : decode cX0_inverse 0 = .ok (.aload_n 0, 1) := by decide +kernel
theorem dX0_inverse_1 : decode cX0_inverse 1 = .ok (.getfield 21, 3) := by decide +kernel
theorem dX0_inverse_4 : decode cX0_inverse 4 = .ok (.aload_n 1, 1) := by decide +kernel
theorem dX0_inverse_5 : decode cX0_inverse 5 = .ok (.aload_n 0, 1) := by decide +kernel
theorem dX0_inverse_6 : decode cX0_inverse 6 = .ok (.getfield 12, 3) := by decide +kernel
theorem dX0_inverse_9 : decode cX0_inverse 9 = .ok (.invokevirtual 78, 3) := by decide +kernel
theorem dX0_inverse_12 : decode cX0_inverse 12 = .ok (.aload_n 0, 1) := by decide +kernel
theorem dX0_inverse_13 : decode cX0_inverse 13 = .ok (.getfield 21, 3) := by decide +kernel
theorem dX0_inverse_16 : decode cX0_inverse 16 = .ok (.iconst 3, 1) := by decide +kernel
theorem dX0_inverse_17 : decode cX0_inverse 17 = .ok (.invokevirtual 82, 3) := by decide +kernel
theorem dX0_inverse_20 : decode cX0_inverse 20 = .ok (.aload_n 0, 1) := by decide +kernel
theorem dX0_inverse_21 : decode cX0_inverse 21 = .ok (.getfield 12, 3) := by decide +kernel
theorem dX0_inverse_24 : decode cX0_inverse 24 = .ok (.getfield 86, 3) := by decide +kernel
theorem dX0_inverse_27 : decode cX0_inverse 27 = .ok (.if_icmp .eq 5, 3) := by decide +kernel
theorem dX0_inverse_30 : decode cX0_inverse 30 = .ok (.iconst 0, 1) := by decide +kernel
theorem dX0_inverse_31 : decode cX0_inverse 31 = .ok (.ireturn, 1) := by decide +kernel
theorem dX0_inverse_32 : decode cX0_inverse 32 = .ok (.aload_n 0, 1) := by decide +kernel
theorem dX0_inverse_33 : decode cX0_inverse 33 = .ok (.aload_n 2, 1) := by decide +kernel
theorem dX0_inverse_34 : decode cX0_inverse 34 = .ok (.invokevirtual 89, 3) := by decide +kernel
theorem dX0_inverse_37 : decode cX0_inverse 37 = .ok (.aload_n 0, 1) := by decide +kernel
theorem dX0_inverse_38 : decode cX0_inverse 38 = .ok (.aload_n 0, 1) := by decide +kernel
theorem dX0_inverse_39 : decode cX0_inverse 39 = .ok (.invokevirtual 93, 3) := by decide +kernel
theorem dX0_inverse_42 : decode cX0_inverse 42 = .ok (.aload_n 2, 1) := by decide +kernel
theorem dX0_inverse_43 : decode cX0_inverse 43 = .ok (.aload_n 0, 1) := by decide +kernel
theorem dX0_inverse_44 : decode cX0_inverse 44 = .ok (.getfield 37, 3) := by decide +kernel
theorem dX0_inverse_47 : decode cX0_inverse 47 = .ok (.invokevirtual 66, 3) := by decide +kernel
theorem dX0_inverse_50 : decode cX0_inverse 50 = .ok (.aload_n 0, 1) := by decide +kernel
theorem dX0_inverse_51 : decode cX0_inverse 51 = .ok (.aload_n 0, 1) := by decide +kernel
theorem dX0_inverse_52 : decode cX0_inverse 52 = .ok (.getfield 37, 3) := by decide +kernel
theorem dX0_inverse_55 : decode cX0_inverse 55 = .ok (.aload_n 0, 1) := by decide +kernel
theorem dX0_inverse_56 : decode cX0_inverse 56 = .ok (.invokevirtual 93, 3) := by decide +kernel
theorem dX0_inverse_59 : decode cX0_inverse 59 = .ok (.aload_n 2, 1) := by decide +kernel
theorem dX0_inverse_60 : decode cX0_inverse 60 = .ok (.invokevirtual 66, 3) := by decide +kernel
theorem dX0_inverse_63 : decode cX0_inverse 63 = .ok (.iconst 1, 1) := by decide +kernel
theorem dX0_inverse_64 : decode cX0_inverse 64 = .ok (.ireturn, 1) := by decide +kernel
theorem dX0_readInverse_0 : decode cX0_readInverse 0 = .ok (.iconst 0, 1) := by decide +kernel
theorem dX0_readInverse_1 : decode cX0_readInverse 1 = .ok (.istore_n 2, 1) := by decide +kernel
theorem dX0_readInverse_2 : decode cX0_readInverse 2 = .ok (.iload_n 2, 1) := by decide +kernel
theorem dX0_readInverse_3 : decode cX0_readInverse 3 = .ok (.iconst 3, 1) := by decide +kernel
theorem dX0_readInverse_4 : decode cX0_readInverse 4 = .ok (.if_icmp .ge 42, 3) := by decide +kernel
theorem dX0_readInverse_7 : decode cX0_readInverse 7 = .ok (.iconst 0, 1) := by decide +kernel
theorem dX0_readInverse_8 : decode cX0_readInverse 8 = .ok (.istore_n 3, 1) := by decide +kernel
theorem dX0_readInverse_9 : decode cX0_readInverse 9 = .ok (.iload_n 3, 1) := by decide +kernel
theorem dX0_readInverse_10 : decode cX0_readInverse 10 = .ok (.iconst 3, 1) := by decide +kernel
theorem dX0_readInverse_11 : decode cX0_readInverse 11 = .ok (.if_icmp .ge 29, 3) := by decide +kernel
theorem dX0_readInverse_14 : decode cX0_readInverse 14 = .ok (.aload_n 1, 1) := by decide +kernel
theorem dX0_readInverse_15 : decode cX0_readInverse 15 = .ok (.iconst 3, 1) := by decide +kernel
theorem dX0_readInverse_16 : decode cX0_readInverse 16 = .ok (.iload_n 2, 1) := by decide +kernel
theorem dX0_readInverse_17 : decode cX0_readInverse 17 = .ok (.imul, 1) := by decide +kernel
theorem dX0_readInverse_18 : decode cX0_readInverse 18 = .ok (.iload_n 3, 1) := by decide +kernel
theorem dX0_readInverse_19 : decode cX0_readInverse 19 = .ok (.iadd, 1) := by decide +kernel
theorem dX0_readInverse_20 : decode cX0_readInverse 20 = .ok (.aload_n 0, 1) := by decide +kernel
theorem dX0_readInverse_21 : decode cX0_readInverse 21 = .ok (.getfield 21, 3) := by decide +kernel
theorem dX0_readInverse_24 : decode cX0_readInverse 24 = .ok (.getfield 97, 3) := by decide +kernel
theorem dX0_readInverse_27 : decode cX0_readInverse 27 = .ok (.iload_n 2, 1) := by decide +kernel
theorem dX0_readInverse_28 : decode cX0_readInverse 28 = .ok (.aaload, 1) := by decide +kernel
theorem dX0_readInverse_29 : decode cX0_readInverse 29 = .ok (.iconst 3, 1) := by decide +kernel
theorem dX0_readInverse_30 : decode cX0_readInverse 30 = .ok (.iload_n 3, 1) := by decide +kernel
theorem dX0_readInverse_31 : decode cX0_readInverse 31 = .ok (.iadd, 1) := by decide +kernel
theorem dX0_readInverse_32 : decode cX0_readInverse 32 = .ok (.iaload, 1) := by decide +kernel
theorem dX0_readInverse_33 : decode cX0_readInverse 33 = .ok (.iastore, 1) := by decide +kernel
theorem dX0_readInverse_34 : decode cX0_readInverse 34 = .ok (.iinc 3 1, 3) := by decide +kernel
theorem dX0_readInverse_37 : decode cX0_readInverse 37 = .ok (.goto (-28), 3) := by decide +kernel
theorem dX0_readInverse_40 : decode cX0_readInverse 40 = .ok (.iinc 2 1, 3) := by decide +kernel
theorem dX0_readInverse_43 : decode cX0_readInverse 43 = .ok (.goto (-41), 3) := by decide +kernel
theorem dX0_readInverse_46 : decode cX0_readInverse 46 = .ok (.return_, 1) := by decide +kernel
set_option maxRecDepth 20000 in
theorem ggX0_trace_X7_reduced : GoodIn wsX0_trace wsX7_reduced := goodIn_r _ [4] (by decide +kernel) (by decide +kernel)
set_option maxRecDepth 20000 in
theorem gX0_trace_X7_reduced_n62 : GoodIn wsX0_trace (wsX7_reduced) := ggX0_trace_X7_reduced
theorem dX0_trace_0 : decode cX0_trace 0 = .ok (.iconst 0, 1) := by decide +kernel
theorem dX0_trace_1 : decode cX0_trace 1 = .ok (.istore_n 2, 1) := by decide +kernel
theorem dX0_trace_2 : decode cX0_trace 2 = .ok (.iconst 0, 1) := by decide +kernel
theorem dX0_trace_3 : decode cX0_trace 3 = .ok (.istore_n 3, 1) := by decide +kernel
theorem dX0_trace_4 : decode cX0_trace 4 = .ok (.iload_n 3, 1) := by decide +kernel
theorem dX0_trace_5 : decode cX0_trace 5 = .ok (.iconst 3, 1) := by decide +kernel
theorem dX0_trace_6 : decode cX0_trace 6 = .ok (.if_icmp .ge 19, 3) := by decide +kernel
theorem dX0_trace_9 : decode cX0_trace 9 = .ok (.iload_n 2, 1) := by decide +kernel
theorem dX0_trace_10 : decode cX0_trace 10 = .ok (.aload_n 1, 1) := by decide +kernel
theorem dX0_trace_11 : decode cX0_trace 11 = .ok (.iconst 3, 1) := by decide +kernel
theorem dX0_trace_12 : decode cX0_trace 12 = .ok (.iload_n 3, 1) := by decide +kernel
theorem dX0_trace_13 : decode cX0_trace 13 = .ok (.imul, 1) := by decide +kernel
theorem dX0_trace_14 : decode cX0_trace 14 = .ok (.iload_n 3, 1) := by decide +kernel
theorem dX0_trace_15 : decode cX0_trace 15 = .ok (.iadd, 1) := by decide +kernel
theorem dX0_trace_16 : decode cX0_trace 16 = .ok (.iaload, 1) := by decide +kernel
theorem dX0_trace_17 : decode cX0_trace 17 = .ok (.iadd, 1) := by decide +kernel
theorem dX0_trace_18 : decode cX0_trace 18 = .ok (.istore_n 2, 1) := by decide +kernel
theorem dX0_trace_19 : decode cX0_trace 19 = .ok (.iinc 3 1, 3) := by decide +kernel
theorem dX0_trace_22 : decode cX0_trace 22 = .ok (.goto (-18), 3) := by decide +kernel
theorem dX0_trace_25 : decode cX0_trace 25 = .ok (.iload_n 2, 1) := by decide +kernel
theorem dX0_trace_26 : decode cX0_trace 26 = .ok (.aload_n 0, 1) := by decide +kernel
theorem dX0_trace_27 : decode cX0_trace 27 = .ok (.getfield 12, 3) := by decide +kernel
theorem dX0_trace_30 : decode cX0_trace 30 = .ok (.getfield 58, 3) := by decide +kernel
theorem dX0_trace_33 : decode cX0_trace 33 = .ok (.invokestatic 62, 3) := by decide +kernel
theorem dX0_trace_36 : decode cX0_trace 36 = .ok (.ireturn, 1) := by decide +kernel
set_option maxRecDepth 20000 in
theorem ggX0_rank_X5_load : GoodIn wsX0_rank wsX5_load := goodIn_r _ [6, 7, 8, 9, 10, 11, 4, 12, 47, 48, 49, 50, 51, 52] (by decide +kernel) (by decide +kernel)
set_option maxRecDepth 20000 in
theorem gX0_rank_X5_load_n78 : GoodIn wsX0_rank (wsX5_load) := ggX0_rank_X5_load
set_option maxRecDepth 20000 in
theorem ggX0_rank_X5_reduce : GoodIn wsX0_rank wsX5_reduce := goodIn_r _ [15, 16, 8, 17, 18, 19, 4, 20, 21, 22, 23, 24, 25, 26, 27, 28, 7, 29, 30, 31, 32, 33, 34, 35, 50, 51, 52] (by decide +kernel) (by decide +kernel)
set_option maxRecDepth 20000 in
theorem gX0_rank_X5_reduce_n82 : GoodIn wsX0_rank (wsX5_reduce) := ggX0_rank_X5_reduce
theorem dX0_rank_0 : decode cX0_rank 0 = .ok (.aload_n 0, 1) := by decide +kernel
theorem dX0_rank_1 : decode cX0_rank 1 = .ok (.getfield 21, 3) := by decide +kernel
theorem dX0_rank_4 : decode cX0_rank 4 = .ok (.aload_n 1, 1) := by decide +kernel
theorem dX0_rank_5 : decode cX0_rank 5 = .ok (.aload_n 0, 1) := by decide +kernel
theorem dX0_rank_6 : decode cX0_rank 6 = .ok (.getfield 12, 3) := by decide +kernel
theorem dX0_rank_9 : decode cX0_rank 9 = .ok (.invokevirtual 78, 3) := by decide +kernel
theorem dX0_rank_12 : decode cX0_rank 12 = .ok (.aload_n 0, 1) := by decide +kernel
theorem dX0_rank_13 : decode cX0_rank 13 = .ok (.getfield 21, 3) := by decide +kernel
theorem dX0_rank_16 : decode cX0_rank 16 = .ok (.iconst 3, 1) := by decide +kernel
theorem dX0_rank_17 : decode cX0_rank 17 = .ok (.invokevirtual 82, 3) := by decide +kernel
theorem dX0_rank_20 : decode cX0_rank 20 = .ok (.ireturn, 1) := by decide +kernel
set_option maxRecDepth 20000 in
theorem ggX0_determinant_X5_load : GoodIn wsX0_determinant wsX5_load := goodIn_r _ [6, 7, 8, 9, 10, 11, 4, 12, 47, 48, 49, 50, 51, 52] (by decide +kernel) (by decide +kernel)
set_option maxRecDepth 20000 in
theorem gX0_determinant_X5_load_n78 : GoodIn wsX0_determinant (wsX5_load) := ggX0_determinant_X5_load
set_option maxRecDepth 20000 in
theorem ggX0_determinant_X5_reduce : GoodIn wsX0_determinant wsX5_reduce := goodIn_r _ [15, 16, 8, 17, 18, 19, 4, 20, 21, 22, 23, 24, 25, 26, 27, 28, 7, 29, 30, 31, 32, 33, 34, 35, 50, 51, 52] (by decide +kernel) (by decide +kernel)
set_option maxRecDepth 20000 in
theorem gX0_determinant_X5_reduce_n82 : GoodIn wsX0_determinant (wsX5_reduce) := ggX0_determinant_X5_reduce
set_option maxRecDepth 20000 in
theorem ggX0_determinant_X7_reduced : GoodIn wsX0_determinant wsX7_reduced := goodIn_r _ [31] (by decide +kernel) (by decide +kernel)
set_option maxRecDepth 20000 in
theorem gX0_determinant_X7_reduced_n62 : GoodIn wsX0_determinant (wsX7_reduced) := ggX0_determinant_X7_reduced
theorem dX0_determinant_0 : decode cX0_determinant 0 = .ok (.aload_n 0, 1) := by decide +kernel
theorem dX0_determinant_1 : decode cX0_determinant 1 = .ok (.getfield 21, 3) := by decide +kernel
theorem dX0_determinant_4 : decode cX0_determinant 4 = .ok (.aload_n 1, 1) := by decide +kernel
theorem dX0_determinant_5 : decode cX0_determinant 5 = .ok (.aload_n 0, 1) := by decide +kernel
theorem dX0_determinant_6 : decode cX0_determinant 6 = .ok (.getfield 12, 3) := by decide +kernel
theorem dX0_determinant_9 : decode cX0_determinant 9 = .ok (.invokevirtual 78, 3) := by decide +kernel
theorem dX0_determinant_12 : decode cX0_determinant 12 = .ok (.aload_n 0, 1) := by decide +kernel
theorem dX0_determinant_13 : decode cX0_determinant 13 = .ok (.getfield 21, 3) := by decide +kernel
theorem dX0_determinant_16 : decode cX0_determinant 16 = .ok (.iconst 3, 1) := by decide +kernel
theorem dX0_determinant_17 : decode cX0_determinant 17 = .ok (.invokevirtual 82, 3) := by decide +kernel
theorem dX0_determinant_20 : decode cX0_determinant 20 = .ok (.aload_n 0, 1) := by decide +kernel
theorem dX0_determinant_21 : decode cX0_determinant 21 = .ok (.getfield 12, 3) := by decide +kernel
theorem dX0_determinant_24 : decode cX0_determinant 24 = .ok (.getfield 86, 3) := by decide +kernel
theorem dX0_determinant_27 : decode cX0_determinant 27 = .ok (.if_icmp .ne 23, 3) := by decide +kernel
theorem dX0_determinant_30 : decode cX0_determinant 30 = .ok (.aload_n 0, 1) := by decide +kernel
theorem dX0_determinant_31 : decode cX0_determinant 31 = .ok (.getfield 21, 3) := by decide +kernel
theorem dX0_determinant_34 : decode cX0_determinant 34 = .ok (.getfield 100, 3) := by decide +kernel
theorem dX0_determinant_37 : decode cX0_determinant 37 = .ok (.aload_n 0, 1) := by decide +kernel
theorem dX0_determinant_38 : decode cX0_determinant 38 = .ok (.getfield 12, 3) := by decide +kernel
theorem dX0_determinant_41 : decode cX0_determinant 41 = .ok (.getfield 58, 3) := by decide +kernel
theorem dX0_determinant_44 : decode cX0_determinant 44 = .ok (.invokestatic 62, 3) := by decide +kernel
theorem dX0_determinant_47 : decode cX0_determinant 47 = .ok (.goto 4, 3) := by decide +kernel
theorem dX0_determinant_50 : decode cX0_determinant 50 = .ok (.iconst 0, 1) := by decide +kernel
theorem dX0_determinant_51 : decode cX0_determinant 51 = .ok (.ireturn, 1) := by decide +kernel
set_option maxRecDepth 20000 in
theorem ggX0_takeIdentityAsBase_X6_writeIdentity : GoodIn wsX0_takeIdentityAsBase wsX6_writeIdentity := goodIn_r _ [5, 6, 23, 24, 25] (by decide +kernel) (by decide +kernel)
set_option maxRecDepth 20000 in
theorem gX0_takeIdentityAsBase_X6_writeIdentity_n103 : GoodIn wsX0_takeIdentityAsBase (wsX6_writeIdentity) := ggX0_takeIdentityAsBase_X6_writeIdentity
set_option maxRecDepth 20000 in
theorem ggX0_takeIdentityAsBase_X0_unit : GoodIn wsX0_takeIdentityAsBase wsX0_unit := goodIn_r _ [11, 1, 12, 13, 14, 15, 16, 17, 18, 19, 20, 21, 22, 23, 24, 25] (by decide +kernel) (by decide +kernel)
set_option maxRecDepth 20000 in
theorem gX0_takeIdentityAsBase_X0_unit : GoodIn wsX0_takeIdentityAsBase (wsV RX0 93 RX0 yX0_unit wsX0_unit) := goodIn_app (goodIn_of _ (by decide +kernel)) ggX0_takeIdentityAsBase_X0_unit
theorem dX0_takeIdentityAsBase_0 : decode cX0_takeIdentityAsBase 0 = .ok (.aload_n 0, 1) := by decide +kernel
theorem dX0_takeIdentityAsBase_1 : decode cX0_takeIdentityAsBase 1 = .ok (.getfield 12, 3) := by decide +kernel
theorem dX0_takeIdentityAsBase_4 : decode cX0_takeIdentityAsBase 4 = .ok (.aload_n 0, 1) := by decide +kernel
theorem dX0_takeIdentityAsBase_5 : decode cX0_takeIdentityAsBase 5 = .ok (.getfield 12, 3) := by decide +kernel
theorem dX0_takeIdentityAsBase_8 : decode cX0_takeIdentityAsBase 8 = .ok (.getfield 55, 3) := by decide +kernel
theorem dX0_takeIdentityAsBase_11 : decode cX0_takeIdentityAsBase 11 = .ok (.bipush 8, 2) := by decide +kernel
theorem dX0_takeIdentityAsBase_13 : decode cX0_takeIdentityAsBase 13 = .ok (.aaload, 1) := by decide +kernel
theorem dX0_takeIdentityAsBase_14 : decode cX0_takeIdentityAsBase 14 = .ok (.invokevirtual 103, 3) := by decide +kernel
theorem dX0_takeIdentityAsBase_17 : decode cX0_takeIdentityAsBase 17 = .ok (.aload_n 0, 1) := by decide +kernel
theorem dX0_takeIdentityAsBase_18 : decode cX0_takeIdentityAsBase 18 = .ok (.getfield 12, 3) := by decide +kernel
theorem dX0_takeIdentityAsBase_21 : decode cX0_takeIdentityAsBase 21 = .ok (.aload_n 0, 1) := by decide +kernel
theorem dX0_takeIdentityAsBase_22 : decode cX0_takeIdentityAsBase 22 = .ok (.invokevirtual 93, 3) := by decide +kernel
theorem dX0_takeIdentityAsBase_25 : decode cX0_takeIdentityAsBase 25 = .ok (.invokevirtual 103, 3) := by decide +kernel
theorem dX0_takeIdentityAsBase_28 : decode cX0_takeIdentityAsBase 28 = .ok (.return_, 1) := by decide +kernel
set_option maxRecDepth 20000 in
theorem ggX0_takeAsBase_X0_determinant : GoodIn wsX0_takeAsBase wsX0_determinant := goodIn_r _ [6, 7, 1, 8, 9, 10, 11, 12, 13, 14, 15, 16, 17, 18, 19, 20, 21, 22, 23, 24, 25, 26, 27, 28, 29, 30, 31, 32, 33, 34, 35, 36, 37, 38, 39, 40, 55, 56, 57, 58, 59, 60, 61, 62, 63, 64, 65, 66, 67, 68, 69, 70, 71] (by decide +kernel) (by decide +kernel)
set_option maxRecDepth 20000 in
theorem gX0_takeAsBase_X0_determinant : GoodIn wsX0_takeAsBase (wsV RX0 106 RX0 yX0_determinant wsX0_determinant) := goodIn_app (goodIn_of _ (by decide +kernel)) ggX0_takeAsBase_X0_determinant
set_option maxRecDepth 20000 in
theorem ggX0_takeAsBase_X0_unit : GoodIn wsX0_takeAsBase wsX0_unit := goodIn_r _ [44, 1, 55, 56, 57, 58, 59, 60, 61, 62, 63, 64, 65, 66, 67, 68] (by decide +kernel) (by decide +kernel)
set_option maxRecDepth 20000 in
theorem gX0_takeAsBase_X0_unit : GoodIn wsX0_takeAsBase (wsV RX0 93 RX0 yX0_unit wsX0_unit) := goodIn_app (goodIn_of _ (by decide +kernel)) ggX0_takeAsBase_X0_unit
set_option maxRecDepth 20000 in
theorem ggX0_takeAsBase_X0_readInverse : GoodIn wsX0_takeAsBase wsX0_readInverse := goodIn_r _ [48, 7, 55, 56, 57, 58, 59, 60, 61, 62, 63, 64, 65, 69, 70, 71] (by decide +kernel) (by decide +kernel)
set_option maxRecDepth 20000 in
theorem gX0_takeAsBase_X0_readInverse : GoodIn wsX0_takeAsBase (wsV RX0 89 RX0 yX0_readInverse wsX0_readInverse) := goodIn_app (goodIn_of _ (by decide +kernel)) ggX0_takeAsBase_X0_readInverse
set_option maxRecDepth 20000 in
theorem ggX0_takeAsBase_X7_copy : GoodIn wsX0_takeAsBase wsX7_copy := goodIn_r _ [50, 51, 52, 53, 54] (by decide +kernel) (by decide +kernel)
set_option maxRecDepth 20000 in
theorem gX0_takeAsBase_X7_copy_n110 : GoodIn wsX0_takeAsBase (wsX7_copy) := ggX0_takeAsBase_X7_copy
theorem dX0_takeAsBase_0 : decode cX0_takeAsBase 0 = .ok (.aload_n 0, 1) := by decide +kernel
theorem dX0_takeAsBase_1 : decode cX0_takeAsBase 1 = .ok (.aload_n 1, 1) := by decide +kernel
theorem dX0_takeAsBase_2 : decode cX0_takeAsBase 2 = .ok (.invokevirtual 106, 3) := by decide +kernel
theorem dX0_takeAsBase_5 : decode cX0_takeAsBase 5 = .ok (.ifCond .eq 25, 3) := by decide +kernel
theorem dX0_takeAsBase_8 : decode cX0_takeAsBase 8 = .ok (.aload_n 0, 1) := by decide +kernel
theorem dX0_takeAsBase_9 : decode cX0_takeAsBase 9 = .ok (.aload_n 0, 1) := by decide +kernel
theorem dX0_takeAsBase_10 : decode cX0_takeAsBase 10 = .ok (.invokevirtual 93, 3) := by decide +kernel
theorem dX0_takeAsBase_13 : decode cX0_takeAsBase 13 = .ok (.invokevirtual 89, 3) := by decide +kernel
theorem dX0_takeAsBase_16 : decode cX0_takeAsBase 16 = .ok (.aload_n 1, 1) := by decide +kernel
theorem dX0_takeAsBase_17 : decode cX0_takeAsBase 17 = .ok (.aload_n 0, 1) := by decide +kernel
theorem dX0_takeAsBase_18 : decode cX0_takeAsBase 18 = .ok (.getfield 12, 3) := by decide +kernel
theorem dX0_takeAsBase_21 : decode cX0_takeAsBase 21 = .ok (.getfield 55, 3) := by decide +kernel
theorem dX0_takeAsBase_24 : decode cX0_takeAsBase 24 = .ok (.bipush 8, 2) := by decide +kernel
theorem dX0_takeAsBase_26 : decode cX0_takeAsBase 26 = .ok (.aaload, 1) := by decide +kernel
theorem dX0_takeAsBase_27 : decode cX0_takeAsBase 27 = .ok (.invokestatic 110, 3) := by decide +kernel
theorem dX0_takeAsBase_30 : decode cX0_takeAsBase 30 = .ok (.return_, 1) := by decide +kernel
set_option maxRecDepth 20000 in
theorem ggX0_isOwnSquare_X0_product : GoodIn wsX0_isOwnSquare wsX0_product := goodIn_r _ [6, 7, 8, 9, 10, 11, 12, 5, 13, 14, 15, 16, 17, 18, 19, 20, 23, 24, 25, 26, 27, 28, 29, 30, 31, 32, 33, 34, 35, 36] (by decide +kernel) (by decide +kernel)
set_option maxRecDepth 20000 in
theorem gX0_isOwnSquare_X0_product : GoodIn wsX0_isOwnSquare (wsV RX0 113 RX0 yX0_product wsX0_product) := goodIn_app (goodIn_of _ (by decide +kernel)) ggX0_isOwnSquare_X0_product
set_option maxRecDepth 20000 in
theorem ggX0_isOwnSquare_X7_same : GoodIn wsX0_isOwnSquare wsX7_same := goodIn_r _ [22] (by decide +kernel) (by decide +kernel)
set_option maxRecDepth 20000 in
theorem gX0_isOwnSquare_X7_same_n116 : GoodIn wsX0_isOwnSquare (wsX7_same) := ggX0_isOwnSquare_X7_same
theorem dX0_isOwnSquare_0 : decode cX0_isOwnSquare 0 = .ok (.aload_n 0, 1) := by decide +kernel
theorem dX0_isOwnSquare_1 : decode cX0_isOwnSquare 1 = .ok (.aload_n 1, 1) := by decide +kernel
theorem dX0_isOwnSquare_2 : decode cX0_isOwnSquare 2 = .ok (.aload_n 1, 1) := by decide +kernel
theorem dX0_isOwnSquare_3 : decode cX0_isOwnSquare 3 = .ok (.aload_n 0, 1) := by decide +kernel
theorem dX0_isOwnSquare_4 : decode cX0_isOwnSquare 4 = .ok (.getfield 43, 3) := by decide +kernel
theorem dX0_isOwnSquare_7 : decode cX0_isOwnSquare 7 = .ok (.invokevirtual 113, 3) := by decide +kernel
theorem dX0_isOwnSquare_10 : decode cX0_isOwnSquare 10 = .ok (.aload_n 0, 1) := by decide +kernel
theorem dX0_isOwnSquare_11 : decode cX0_isOwnSquare 11 = .ok (.getfield 43, 3) := by decide +kernel
theorem dX0_isOwnSquare_14 : decode cX0_isOwnSquare 14 = .ok (.aload_n 1, 1) := by decide +kernel
theorem dX0_isOwnSquare_15 : decode cX0_isOwnSquare 15 = .ok (.invokestatic 116, 3) := by decide +kernel
theorem dX0_isOwnSquare_18 : decode cX0_isOwnSquare 18 = .ok (.ireturn, 1) := by decide +kernel
set_option maxRecDepth 20000 in
theorem ggX0_findParts_X0_operator : GoodIn wsX0_findParts wsX0_operator := goodIn_r _ [7, 8, 9, 10, 6, 11, 2, 12, 13, 14, 15, 16, 17, 18, 19, 20, 21, 22, 23, 24, 29, 30, 31, 32, 33, 34, 35, 36, 37, 38, 39, 40, 41, 42] (by decide +kernel) (by decide +kernel)
set_option maxRecDepth 20000 in
theorem gX0_findParts_X0_operator : GoodIn wsX0_findParts (wsV RX0 120 RX0 yX0_operator wsX0_operator) := goodIn_app (goodIn_of _ (by decide +kernel)) ggX0_findParts_X0_operator
set_option maxRecDepth 20000 in
theorem ggX0_findParts_X0_unit : GoodIn wsX0_findParts wsX0_unit := goodIn_r _ [28, 2, 29, 30, 31, 32, 33, 34, 35, 36, 37, 38, 39, 40, 41, 42] (by decide +kernel) (by decide +kernel)
set_option maxRecDepth 20000 in
theorem gX0_findParts_X0_unit : GoodIn wsX0_findParts (wsV RX0 93 RX0 yX0_unit wsX0_unit) := goodIn_app (goodIn_of _ (by decide +kernel)) ggX0_findParts_X0_unit
set_option maxRecDepth 20000 in
theorem ggX0_findParts_X7_reduced : GoodIn wsX0_findParts wsX7_reduced := goodIn_r _ [20] (by decide +kernel) (by decide +kernel)
set_option maxRecDepth 20000 in
theorem gX0_findParts_X7_reduced_n62 : GoodIn wsX0_findParts (wsX7_reduced) := ggX0_findParts_X7_reduced
theorem dX0_findParts_0 : decode cX0_findParts 0 = .ok (.aload_n 0, 1) := by decide +kernel
theorem dX0_findParts_1 : decode cX0_findParts 1 = .ok (.aload_n 1, 1) := by decide +kernel
theorem dX0_findParts_2 : decode cX0_findParts 2 = .ok (.aload_n 2, 1) := by decide +kernel
theorem dX0_findParts_3 : decode cX0_findParts 3 = .ok (.aload_n 0, 1) := by decide +kernel
theorem dX0_findParts_4 : decode cX0_findParts 4 = .ok (.getfield 27, 3) := by decide +kernel
theorem dX0_findParts_7 : decode cX0_findParts 7 = .ok (.iconst 2, 1) := by decide +kernel
theorem dX0_findParts_8 : decode cX0_findParts 8 = .ok (.aaload, 1) := by decide +kernel
theorem dX0_findParts_9 : decode cX0_findParts 9 = .ok (.invokevirtual 120, 3) := by decide +kernel
theorem dX0_findParts_12 : decode cX0_findParts 12 = .ok (.iconst 0, 1) := by decide +kernel
theorem dX0_findParts_13 : decode cX0_findParts 13 = .ok (.istore_n 3, 1) := by decide +kernel
theorem dX0_findParts_14 : decode cX0_findParts 14 = .ok (.iload_n 3, 1) := by decide +kernel
theorem dX0_findParts_15 : decode cX0_findParts 15 = .ok (.bipush 9, 2) := by decide +kernel
theorem dX0_findParts_17 : decode cX0_findParts 17 = .ok (.if_icmp .ge 37, 3) := by decide +kernel
theorem dX0_findParts_20 : decode cX0_findParts 20 = .ok (.aload_n 0, 1) := by decide +kernel
theorem dX0_findParts_21 : decode cX0_findParts 21 = .ok (.getfield 27, 3) := by decide +kernel
theorem dX0_findParts_24 : decode cX0_findParts 24 = .ok (.iconst 1, 1) := by decide +kernel
theorem dX0_findParts_25 : decode cX0_findParts 25 = .ok (.aaload, 1) := by decide +kernel
theorem dX0_findParts_26 : decode cX0_findParts 26 = .ok (.iload_n 3, 1) := by decide +kernel
theorem dX0_findParts_27 : decode cX0_findParts 27 = .ok (.aload_n 0, 1) := by decide +kernel
theorem dX0_findParts_28 : decode cX0_findParts 28 = .ok (.invokevirtual 93, 3) := by decide +kernel
theorem dX0_findParts_31 : decode cX0_findParts 31 = .ok (.iload_n 3, 1) := by decide +kernel
theorem dX0_findParts_32 : decode cX0_findParts 32 = .ok (.iaload, 1) := by decide +kernel
theorem dX0_findParts_33 : decode cX0_findParts 33 = .ok (.aload_n 1, 1) := by decide +kernel
theorem dX0_findParts_34 : decode cX0_findParts 34 = .ok (.iload_n 3, 1) := by decide +kernel
theorem dX0_findParts_35 : decode cX0_findParts 35 = .ok (.iaload, 1) := by decide +kernel
theorem dX0_findParts_36 : decode cX0_findParts 36 = .ok (.isub, 1) := by decide +kernel
theorem dX0_findParts_37 : decode cX0_findParts 37 = .ok (.aload_n 0, 1) := by decide +kernel
theorem dX0_findParts_38 : decode cX0_findParts 38 = .ok (.getfield 12, 3) := by decide +kernel
theorem dX0_findParts_41 : decode cX0_findParts 41 = .ok (.getfield 58, 3) := by decide +kernel
theorem dX0_findParts_44 : decode cX0_findParts 44 = .ok (.invokestatic 62, 3) := by decide +kernel
theorem dX0_findParts_47 : decode cX0_findParts 47 = .ok (.iastore, 1) := by decide +kernel
theorem dX0_findParts_48 : decode cX0_findParts 48 = .ok (.iinc 3 1, 3) := by decide +kernel
theorem dX0_findParts_51 : decode cX0_findParts 51 = .ok (.goto (-37), 3) := by decide +kernel
theorem dX0_findParts_54 : decode cX0_findParts 54 = .ok (.aload_n 0, 1) := by decide +kernel
theorem dX0_findParts_55 : decode cX0_findParts 55 = .ok (.aload_n 0, 1) := by decide +kernel
theorem dX0_findParts_56 : decode cX0_findParts 56 = .ok (.getfield 27, 3) := by decide +kernel
theorem dX0_findParts_59 : decode cX0_findParts 59 = .ok (.iconst 1, 1) := by decide +kernel
theorem dX0_findParts_60 : decode cX0_findParts 60 = .ok (.aaload, 1) := by decide +kernel
theorem dX0_findParts_61 : decode cX0_findParts 61 = .ok (.aload_n 2, 1) := by decide +kernel
theorem dX0_findParts_62 : decode cX0_findParts 62 = .ok (.aload_n 0, 1) := by decide +kernel
theorem dX0_findParts_63 : decode cX0_findParts 63 = .ok (.getfield 27, 3) := by decide +kernel
theorem dX0_findParts_66 : decode cX0_findParts 66 = .ok (.iconst 0, 1) := by decide +kernel
theorem dX0_findParts_67 : decode cX0_findParts 67 = .ok (.aaload, 1) := by decide +kernel
theorem dX0_findParts_68 : decode cX0_findParts 68 = .ok (.invokevirtual 120, 3) := by decide +kernel
theorem dX0_findParts_71 : decode cX0_findParts 71 = .ok (.iconst 0, 1) := by decide +kernel
theorem dX0_findParts_72 : decode cX0_findParts 72 = .ok (.istore_n 3, 1) := by decide +kernel
theorem dX0_findParts_73 : decode cX0_findParts 73 = .ok (.iload_n 3, 1) := by decide +kernel
theorem dX0_findParts_74 : decode cX0_findParts 74 = .ok (.bipush 9, 2) := by decide +kernel
theorem dX0_findParts_76 : decode cX0_findParts 76 = .ok (.if_icmp .ge 48, 3) := by decide +kernel
theorem dX0_findParts_79 : decode cX0_findParts 79 = .ok (.aload_n 0, 1) := by decide +kernel
theorem dX0_findParts_80 : decode cX0_findParts 80 = .ok (.getfield 27, 3) := by decide +kernel
theorem dX0_findParts_83 : decode cX0_findParts 83 = .ok (.iconst 1, 1) := by decide +kernel
theorem dX0_findParts_84 : decode cX0_findParts 84 = .ok (.aaload, 1) := by decide +kernel
theorem dX0_findParts_85 : decode cX0_findParts 85 = .ok (.iload_n 3, 1) := by decide +kernel
theorem dX0_findParts_86 : decode cX0_findParts 86 = .ok (.aload_n 2, 1) := by decide +kernel
theorem dX0_findParts_87 : decode cX0_findParts 87 = .ok (.iload_n 3, 1) := by decide +kernel
theorem dX0_findParts_88 : decode cX0_findParts 88 = .ok (.iaload, 1) := by decide +kernel
theorem dX0_findParts_89 : decode cX0_findParts 89 = .ok (.aload_n 0, 1) := by decide +kernel
theorem dX0_findParts_90 : decode cX0_findParts 90 = .ok (.getfield 27, 3) := by decide +kernel
theorem dX0_findParts_93 : decode cX0_findParts 93 = .ok (.iconst 2, 1) := by decide +kernel
theorem dX0_findParts_94 : decode cX0_findParts 94 = .ok (.aaload, 1) := by decide +kernel
theorem dX0_findParts_95 : decode cX0_findParts 95 = .ok (.iload_n 3, 1) := by decide +kernel
theorem dX0_findParts_96 : decode cX0_findParts 96 = .ok (.iaload, 1) := by decide +kernel
theorem dX0_findParts_97 : decode cX0_findParts 97 = .ok (.isub, 1) := by decide +kernel
theorem dX0_findParts_98 : decode cX0_findParts 98 = .ok (.aload_n 0, 1) := by decide +kernel
theorem dX0_findParts_99 : decode cX0_findParts 99 = .ok (.getfield 27, 3) := by decide +kernel
theorem dX0_findParts_102 : decode cX0_findParts 102 = .ok (.iconst 0, 1) := by decide +kernel
theorem dX0_findParts_103 : decode cX0_findParts 103 = .ok (.aaload, 1) := by decide +kernel
theorem dX0_findParts_104 : decode cX0_findParts 104 = .ok (.iload_n 3, 1) := by decide +kernel
theorem dX0_findParts_105 : decode cX0_findParts 105 = .ok (.iaload, 1) := by decide +kernel
theorem dX0_findParts_106 : decode cX0_findParts 106 = .ok (.isub, 1) := by decide +kernel
theorem dX0_findParts_107 : decode cX0_findParts 107 = .ok (.aload_n 0, 1) := by decide +kernel
theorem dX0_findParts_108 : decode cX0_findParts 108 = .ok (.getfield 12, 3) := by decide +kernel
theorem dX0_findParts_111 : decode cX0_findParts 111 = .ok (.getfield 58, 3) := by decide +kernel
theorem dX0_findParts_114 : decode cX0_findParts 114 = .ok (.invokestatic 62, 3) := by decide +kernel
theorem dX0_findParts_117 : decode cX0_findParts 117 = .ok (.iastore, 1) := by decide +kernel
theorem dX0_findParts_118 : decode cX0_findParts 118 = .ok (.iinc 3 1, 3) := by decide +kernel
theorem dX0_findParts_121 : decode cX0_findParts 121 = .ok (.goto (-48), 3) := by decide +kernel
theorem dX0_findParts_124 : decode cX0_findParts 124 = .ok (.return_, 1) := by decide +kernel
set_option maxRecDepth 20000 in
theorem ggX0_raise_X0_unit : GoodIn wsX0_raise wsX0_unit := goodIn_r _ [7, 8, 32, 33, 34, 35, 36, 37, 38, 39, 40, 41, 42, 43, 44, 45] (by decide +kernel) (by decide +kernel)
set_option maxRecDepth 20000 in
theorem gX0_raise_X0_unit : GoodIn wsX0_raise (wsV RX0 93 RX0 yX0_unit wsX0_unit) := goodIn_app (goodIn_of _ (by decide +kernel)) ggX0_raise_X0_unit
set_option maxRecDepth 20000 in
theorem ggX0_raise_X7_copy : GoodIn wsX0_raise wsX7_copy := goodIn_r _ [11, 12, 13, 14, 15] (by decide +kernel) (by decide +kernel)
set_option maxRecDepth 20000 in
theorem gX0_raise_X7_copy_n110 : GoodIn wsX0_raise (wsX7_copy) := ggX0_raise_X7_copy
set_option maxRecDepth 20000 in
theorem ggX0_raise_X0_product : GoodIn wsX0_raise wsX0_product := goodIn_r _ [19, 8, 20, 21, 22, 23, 24, 6, 25, 26, 10, 27, 28, 29, 30, 31, 32, 33, 34, 35, 36, 37, 38, 39, 40, 41, 42, 43, 44, 45] (by decide +kernel) (by decide +kernel)
set_option maxRecDepth 20000 in
theorem gX0_raise_X0_product : GoodIn wsX0_raise (wsV RX0 113 RX0 yX0_product wsX0_product) := goodIn_app (goodIn_of _ (by decide +kernel)) ggX0_raise_X0_product
theorem dX0_raise_0 : decode cX0_raise 0 = .ok (.aload_n 0, 1) := by decide +kernel
theorem dX0_raise_1 : decode cX0_raise 1 = .ok (.invokevirtual 93, 3) := by decide +kernel
theorem dX0_raise_4 : decode cX0_raise 4 = .ok (.aload_n 0, 1) := by decide +kernel
theorem dX0_raise_5 : decode cX0_raise 5 = .ok (.getfield 30, 3) := by decide +kernel
theorem dX0_raise_8 : decode cX0_raise 8 = .ok (.invokestatic 110, 3) := by decide +kernel
theorem dX0_raise_11 : decode cX0_raise 11 = .ok (.aload_n 1, 1) := by decide +kernel
theorem dX0_raise_12 : decode cX0_raise 12 = .ok (.aload_n 0, 1) := by decide +kernel
theorem dX0_raise_13 : decode cX0_raise 13 = .ok (.getfield 43, 3) := by decide +kernel
theorem dX0_raise_16 : decode cX0_raise 16 = .ok (.invokestatic 110, 3) := by decide +kernel
theorem dX0_raise_19 : decode cX0_raise 19 = .ok (.iconst 0, 1) := by decide +kernel
theorem dX0_raise_20 : decode cX0_raise 20 = .ok (.istore_n 3, 1) := by decide +kernel
theorem dX0_raise_21 : decode cX0_raise 21 = .ok (.iload_n 3, 1) := by decide +kernel
theorem dX0_raise_22 : decode cX0_raise 22 = .ok (.bipush 11, 2) := by decide +kernel
theorem dX0_raise_24 : decode cX0_raise 24 = .ok (.if_icmp .ge 50, 3) := by decide +kernel
theorem dX0_raise_27 : decode cX0_raise 27 = .ok (.iload_n 2, 1) := by decide +kernel
theorem dX0_raise_28 : decode cX0_raise 28 = .ok (.iload_n 3, 1) := by decide +kernel
theorem dX0_raise_29 : decode cX0_raise 29 = .ok (.ishr, 1) := by decide +kernel
theorem dX0_raise_30 : decode cX0_raise 30 = .ok (.iconst 1, 1) := by decide +kernel
theorem dX0_raise_31 : decode cX0_raise 31 = .ok (.iand, 1) := by decide +kernel
theorem dX0_raise_32 : decode cX0_raise 32 = .ok (.iconst 1, 1) := by decide +kernel
theorem dX0_raise_33 : decode cX0_raise 33 = .ok (.if_icmp .ne 19, 3) := by decide +kernel
theorem dX0_raise_36 : decode cX0_raise 36 = .ok (.aload_n 0, 1) := by decide +kernel
theorem dX0_raise_37 : decode cX0_raise 37 = .ok (.aload_n 0, 1) := by decide +kernel
theorem dX0_raise_38 : decode cX0_raise 38 = .ok (.getfield 30, 3) := by decide +kernel
theorem dX0_raise_41 : decode cX0_raise 41 = .ok (.aload_n 0, 1) := by decide +kernel
theorem dX0_raise_42 : decode cX0_raise 42 = .ok (.getfield 43, 3) := by decide +kernel
theorem dX0_raise_45 : decode cX0_raise 45 = .ok (.aload_n 0, 1) := by decide +kernel
theorem dX0_raise_46 : decode cX0_raise 46 = .ok (.getfield 30, 3) := by decide +kernel
theorem dX0_raise_49 : decode cX0_raise 49 = .ok (.invokevirtual 113, 3) := by decide +kernel
theorem dX0_raise_52 : decode cX0_raise 52 = .ok (.aload_n 0, 1) := by decide +kernel
theorem dX0_raise_53 : decode cX0_raise 53 = .ok (.aload_n 0, 1) := by decide +kernel
theorem dX0_raise_54 : decode cX0_raise 54 = .ok (.getfield 43, 3) := by decide +kernel
theorem dX0_raise_57 : decode cX0_raise 57 = .ok (.aload_n 0, 1) := by decide +kernel
theorem dX0_raise_58 : decode cX0_raise 58 = .ok (.getfield 43, 3) := by decide +kernel
theorem dX0_raise_61 : decode cX0_raise 61 = .ok (.aload_n 0, 1) := by decide +kernel
theorem dX0_raise_62 : decode cX0_raise 62 = .ok (.getfield 43, 3) := by decide +kernel
theorem dX0_raise_65 : decode cX0_raise 65 = .ok (.invokevirtual 113, 3) := by decide +kernel
theorem dX0_raise_68 : decode cX0_raise 68 = .ok (.iinc 3 1, 3) := by decide +kernel
theorem dX0_raise_71 : decode cX0_raise 71 = .ok (.goto (-50), 3) := by decide +kernel
theorem dX0_raise_74 : decode cX0_raise 74 = .ok (.return_, 1) := by decide +kernel
set_option maxRecDepth 20000 in
theorem ggX0_order_X0_determinant : GoodIn wsX0_order wsX0_determinant := goodIn_r _ [6, 7, 8, 9, 10, 11, 12, 13, 14, 15, 16, 17, 18, 19, 20, 21, 22, 23, 24, 25, 26, 27, 28, 29, 30, 31, 32, 33, 34, 35, 36, 37, 38, 39, 40, 41, 68, 69, 70, 71, 72, 73, 74, 75, 76, 77, 78, 79, 80, 81, 82, 83, 84] (by decide +kernel) (by decide +kernel)
set_option maxRecDepth 20000 in
theorem gX0_order_X0_determinant : GoodIn wsX0_order (wsV RX0 106 RX0 yX0_determinant wsX0_determinant) := goodIn_app (goodIn_of _ (by decide +kernel)) ggX0_order_X0_determinant
set_option maxRecDepth 20000 in
theorem ggX0_order_X7_copy : GoodIn wsX0_order wsX7_copy := goodIn_r _ [43, 44, 45, 46, 47] (by decide +kernel) (by decide +kernel)
set_option maxRecDepth 20000 in
theorem gX0_order_X7_copy_n110 : GoodIn wsX0_order (wsX7_copy) := ggX0_order_X7_copy
set_option maxRecDepth 20000 in
theorem ggX0_order_X0_unit : GoodIn wsX0_order wsX0_unit := goodIn_r _ [51, 8, 68, 69, 70, 71, 72, 73, 74, 75, 76, 77, 78, 79, 80, 81] (by decide +kernel) (by decide +kernel)
set_option maxRecDepth 20000 in
theorem gX0_order_X0_unit : GoodIn wsX0_order (wsV RX0 93 RX0 yX0_unit wsX0_unit) := goodIn_app (goodIn_of _ (by decide +kernel)) ggX0_order_X0_unit
set_option maxRecDepth 20000 in
theorem ggX0_order_X7_same : GoodIn wsX0_order wsX7_same := goodIn_r _ [53] (by decide +kernel) (by decide +kernel)
set_option maxRecDepth 20000 in
theorem gX0_order_X7_same_n116 : GoodIn wsX0_order (wsX7_same) := ggX0_order_X7_same
set_option maxRecDepth 20000 in
theorem ggX0_order_X0_product : GoodIn wsX0_order wsX0_product := goodIn_r _ [57, 8, 58, 59, 60, 61, 62, 5, 63, 35, 36, 37, 64, 65, 66, 67, 68, 69, 70, 71, 72, 73, 74, 75, 76, 77, 78, 79, 80, 81] (by decide +kernel) (by decide +kernel)
set_option maxRecDepth 20000 in
theorem gX0_order_X0_product : GoodIn wsX0_order (wsV RX0 113 RX0 yX0_product wsX0_product) := goodIn_app (goodIn_of _ (by decide +kernel)) ggX0_order_X0_product
theorem dX0_order_0 : decode cX0_order 0 = .ok (.aload_n 0, 1) := by decide +kernel
theorem dX0_order_1 : decode cX0_order 1 = .ok (.aload_n 1, 1) := by decide +kernel
theorem dX0_order_2 : decode cX0_order 2 = .ok (.invokevirtual 106, 3) := by decide +kernel
theorem dX0_order_5 : decode cX0_order 5 = .ok (.ifCond .ne 6, 3) := by decide +kernel
theorem dX0_order_8 : decode cX0_order 8 = .ok (.bipush (-6), 2) := by decide +kernel
theorem dX0_order_10 : decode cX0_order 10 = .ok (.ireturn, 1) := by decide +kernel
theorem dX0_order_11 : decode cX0_order 11 = .ok (.aload_n 1, 1) := by decide +kernel
theorem dX0_order_12 : decode cX0_order 12 = .ok (.aload_n 0, 1) := by decide +kernel
theorem dX0_order_13 : decode cX0_order 13 = .ok (.getfield 30, 3) := by decide +kernel
theorem dX0_order_16 : decode cX0_order 16 = .ok (.invokestatic 110, 3) := by decide +kernel
theorem dX0_order_19 : decode cX0_order 19 = .ok (.iconst 1, 1) := by decide +kernel
theorem dX0_order_20 : decode cX0_order 20 = .ok (.istore_n 2, 1) := by decide +kernel
theorem dX0_order_21 : decode cX0_order 21 = .ok (.iload_n 2, 1) := by decide +kernel
theorem dX0_order_22 : decode cX0_order 22 = .ok (.sipush 2000, 3) := by decide +kernel
theorem dX0_order_25 : decode cX0_order 25 = .ok (.if_icmp .gt 38, 3) := by decide +kernel
theorem dX0_order_28 : decode cX0_order 28 = .ok (.aload_n 0, 1) := by decide +kernel
theorem dX0_order_29 : decode cX0_order 29 = .ok (.getfield 30, 3) := by decide +kernel
theorem dX0_order_32 : decode cX0_order 32 = .ok (.aload_n 0, 1) := by decide +kernel
theorem dX0_order_33 : decode cX0_order 33 = .ok (.invokevirtual 93, 3) := by decide +kernel
theorem dX0_order_36 : decode cX0_order 36 = .ok (.invokestatic 116, 3) := by decide +kernel
theorem dX0_order_39 : decode cX0_order 39 = .ok (.ifCond .eq 5, 3) := by decide +kernel
theorem dX0_order_42 : decode cX0_order 42 = .ok (.iload_n 2, 1) := by decide +kernel
theorem dX0_order_43 : decode cX0_order 43 = .ok (.ireturn, 1) := by decide +kernel
theorem dX0_order_44 : decode cX0_order 44 = .ok (.aload_n 0, 1) := by decide +kernel
theorem dX0_order_45 : decode cX0_order 45 = .ok (.aload_n 0, 1) := by decide +kernel
theorem dX0_order_46 : decode cX0_order 46 = .ok (.getfield 30, 3) := by decide +kernel
theorem dX0_order_49 : decode cX0_order 49 = .ok (.aload_n 1, 1) := by decide +kernel
theorem dX0_order_50 : decode cX0_order 50 = .ok (.aload_n 0, 1) := by decide +kernel
theorem dX0_order_51 : decode cX0_order 51 = .ok (.getfield 30, 3) := by decide +kernel
theorem dX0_order_54 : decode cX0_order 54 = .ok (.invokevirtual 113, 3) := by decide +kernel
theorem dX0_order_57 : decode cX0_order 57 = .ok (.iinc 2 1, 3) := by decide +kernel
theorem dX0_order_60 : decode cX0_order 60 = .ok (.goto (-39), 3) := by decide +kernel
theorem dX0_order_63 : decode cX0_order 63 = .ok (.bipush (-6), 2) := by decide +kernel
theorem dX0_order_65 : decode cX0_order 65 = .ok (.ireturn, 1) := by decide +kernel
set_option maxRecDepth 20000 in
theorem ggX0_leastZeroPower_X7_copy : GoodIn wsX0_leastZeroPower wsX7_copy := goodIn_r _ [4, 5, 6, 7, 8] (by decide +kernel) (by decide +kernel)
set_option maxRecDepth 20000 in
theorem gX0_leastZeroPower_X7_copy_n110 : GoodIn wsX0_leastZeroPower (wsX7_copy) := ggX0_leastZeroPower_X7_copy
set_option maxRecDepth 20000 in
theorem ggX0_leastZeroPower_X7_isZero : GoodIn wsX0_leastZeroPower wsX7_isZero := goodIn_r _ [10] (by decide +kernel) (by decide +kernel)
set_option maxRecDepth 20000 in
theorem gX0_leastZeroPower_X7_isZero_n123 : GoodIn wsX0_leastZeroPower (wsX7_isZero) := ggX0_leastZeroPower_X7_isZero
set_option maxRecDepth 20000 in
theorem ggX0_leastZeroPower_X0_product : GoodIn wsX0_leastZeroPower wsX0_product := goodIn_r _ [15, 16, 17, 18, 19, 20, 21, 14, 22, 23, 3, 24, 25, 26, 27, 28, 29, 30, 31, 32, 33, 34, 35, 36, 37, 38, 39, 40, 41, 42] (by decide +kernel) (by decide +kernel)
set_option maxRecDepth 20000 in
theorem gX0_leastZeroPower_X0_product : GoodIn wsX0_leastZeroPower (wsV RX0 113 RX0 yX0_product wsX0_product) := goodIn_app (goodIn_of _ (by decide +kernel)) ggX0_leastZeroPower_X0_product
theorem dX0_leastZeroPower_0 : decode cX0_leastZeroPower 0 = .ok (.aload_n 1, 1) := by decide +kernel
theorem dX0_leastZeroPower_1 : decode cX0_leastZeroPower 1 = .ok (.aload_n 0, 1) := by decide +kernel
theorem dX0_leastZeroPower_2 : decode cX0_leastZeroPower 2 = .ok (.getfield 30, 3) := by decide +kernel
theorem dX0_leastZeroPower_5 : decode cX0_leastZeroPower 5 = .ok (.invokestatic 110, 3) := by decide +kernel
theorem dX0_leastZeroPower_8 : decode cX0_leastZeroPower 8 = .ok (.iconst 1, 1) := by decide +kernel
theorem dX0_leastZeroPower_9 : decode cX0_leastZeroPower 9 = .ok (.istore_n 2, 1) := by decide +kernel
theorem dX0_leastZeroPower_10 : decode cX0_leastZeroPower 10 = .ok (.iload_n 2, 1) := by decide +kernel
theorem dX0_leastZeroPower_11 : decode cX0_leastZeroPower 11 = .ok (.bipush 10, 2) := by decide +kernel
theorem dX0_leastZeroPower_13 : decode cX0_leastZeroPower 13 = .ok (.if_icmp .gt 34, 3) := by decide +kernel
theorem dX0_leastZeroPower_16 : decode cX0_leastZeroPower 16 = .ok (.aload_n 0, 1) := by decide +kernel
theorem dX0_leastZeroPower_17 : decode cX0_leastZeroPower 17 = .ok (.getfield 30, 3) := by decide +kernel
theorem dX0_leastZeroPower_20 : decode cX0_leastZeroPower 20 = .ok (.invokestatic 123, 3) := by decide +kernel
theorem dX0_leastZeroPower_23 : decode cX0_leastZeroPower 23 = .ok (.ifCond .eq 5, 3) := by decide +kernel
theorem dX0_leastZeroPower_26 : decode cX0_leastZeroPower 26 = .ok (.iload_n 2, 1) := by decide +kernel
theorem dX0_leastZeroPower_27 : decode cX0_leastZeroPower 27 = .ok (.ireturn, 1) := by decide +kernel
theorem dX0_leastZeroPower_28 : decode cX0_leastZeroPower 28 = .ok (.aload_n 0, 1) := by decide +kernel
theorem dX0_leastZeroPower_29 : decode cX0_leastZeroPower 29 = .ok (.aload_n 0, 1) := by decide +kernel
theorem dX0_leastZeroPower_30 : decode cX0_leastZeroPower 30 = .ok (.getfield 30, 3) := by decide +kernel
theorem dX0_leastZeroPower_33 : decode cX0_leastZeroPower 33 = .ok (.aload_n 1, 1) := by decide +kernel
theorem dX0_leastZeroPower_34 : decode cX0_leastZeroPower 34 = .ok (.aload_n 0, 1) := by decide +kernel
theorem dX0_leastZeroPower_35 : decode cX0_leastZeroPower 35 = .ok (.getfield 30, 3) := by decide +kernel
theorem dX0_leastZeroPower_38 : decode cX0_leastZeroPower 38 = .ok (.invokevirtual 113, 3) := by decide +kernel
theorem dX0_leastZeroPower_41 : decode cX0_leastZeroPower 41 = .ok (.iinc 2 1, 3) := by decide +kernel
theorem dX0_leastZeroPower_44 : decode cX0_leastZeroPower 44 = .ok (.goto (-34), 3) := by decide +kernel
theorem dX0_leastZeroPower_47 : decode cX0_leastZeroPower 47 = .ok (.bipush (-6), 2) := by decide +kernel
theorem dX0_leastZeroPower_49 : decode cX0_leastZeroPower 49 = .ok (.ireturn, 1) := by decide +kernel
set_option maxRecDepth 20000 in
theorem ggX0_degree_X0_unit : GoodIn wsX0_degree wsX0_unit := goodIn_r _ [8, 3, 62, 63, 64, 65, 66, 67, 68, 69, 70, 71, 72, 73, 74, 75] (by decide +kernel) (by decide +kernel)
set_option maxRecDepth 20000 in
theorem gX0_degree_X0_unit : GoodIn wsX0_degree (wsV RX0 93 RX0 yX0_unit wsX0_unit) := goodIn_app (goodIn_of _ (by decide +kernel)) ggX0_degree_X0_unit
set_option maxRecDepth 20000 in
theorem ggX0_degree_X7_copy : GoodIn wsX0_degree wsX7_copy := goodIn_r _ [11, 12, 13, 14, 15] (by decide +kernel) (by decide +kernel)
set_option maxRecDepth 20000 in
theorem gX0_degree_X7_copy_n110 : GoodIn wsX0_degree (wsX7_copy) := ggX0_degree_X7_copy
set_option maxRecDepth 20000 in
theorem ggX0_degree_X0_product : GoodIn wsX0_degree wsX0_product := goodIn_r _ [19, 3, 20, 21, 22, 23, 24, 7, 25, 26, 10, 27, 28, 29, 30, 31, 62, 63, 64, 65, 66, 67, 68, 69, 70, 71, 72, 73, 74, 75] (by decide +kernel) (by decide +kernel)
set_option maxRecDepth 20000 in
theorem gX0_degree_X0_product : GoodIn wsX0_degree (wsV RX0 113 RX0 yX0_product wsX0_product) := goodIn_app (goodIn_of _ (by decide +kernel)) ggX0_degree_X0_product
set_option maxRecDepth 20000 in
theorem ggX0_degree_X5_loadAll : GoodIn wsX0_degree wsX5_loadAll := goodIn_r _ [35, 36, 37, 38, 39, 40, 33, 41, 9, 10, 11, 12, 13, 14, 15, 76, 77, 78] (by decide +kernel) (by decide +kernel)
set_option maxRecDepth 20000 in
theorem gX0_degree_X5_loadAll_n127 : GoodIn wsX0_degree (wsX5_loadAll) := ggX0_degree_X5_loadAll
set_option maxRecDepth 20000 in
theorem ggX0_degree_X5_reduce : GoodIn wsX0_degree wsX5_reduce := goodIn_r _ [44, 45, 37, 46, 47, 48, 33, 49, 50, 51, 52, 53, 54, 55, 56, 57, 36, 26, 10, 27, 58, 59, 60, 61, 76, 77, 78] (by decide +kernel) (by decide +kernel)
set_option maxRecDepth 20000 in
theorem gX0_degree_X5_reduce_n82 : GoodIn wsX0_degree (wsX5_reduce) := ggX0_degree_X5_reduce
theorem dX0_degree_0 : decode cX0_degree 0 = .ok (.aload_n 0, 1) := by decide +kernel
theorem dX0_degree_1 : decode cX0_degree 1 = .ok (.invokevirtual 93, 3) := by decide +kernel
theorem dX0_degree_4 : decode cX0_degree 4 = .ok (.aload_n 0, 1) := by decide +kernel
theorem dX0_degree_5 : decode cX0_degree 5 = .ok (.getfield 52, 3) := by decide +kernel
theorem dX0_degree_8 : decode cX0_degree 8 = .ok (.iconst 0, 1) := by decide +kernel
theorem dX0_degree_9 : decode cX0_degree 9 = .ok (.aaload, 1) := by decide +kernel
theorem dX0_degree_10 : decode cX0_degree 10 = .ok (.invokestatic 110, 3) := by decide +kernel
theorem dX0_degree_13 : decode cX0_degree 13 = .ok (.iconst 1, 1) := by decide +kernel
theorem dX0_degree_14 : decode cX0_degree 14 = .ok (.istore_n 2, 1) := by decide +kernel
theorem dX0_degree_15 : decode cX0_degree 15 = .ok (.iload_n 2, 1) := by decide +kernel
theorem dX0_degree_16 : decode cX0_degree 16 = .ok (.aload_n 0, 1) := by decide +kernel
theorem dX0_degree_17 : decode cX0_degree 17 = .ok (.getfield 52, 3) := by decide +kernel
theorem dX0_degree_20 : decode cX0_degree 20 = .ok (.arraylength, 1) := by decide +kernel
theorem dX0_degree_21 : decode cX0_degree 21 = .ok (.if_icmp .ge 64, 3) := by decide +kernel
theorem dX0_degree_24 : decode cX0_degree 24 = .ok (.aload_n 0, 1) := by decide +kernel
theorem dX0_degree_25 : decode cX0_degree 25 = .ok (.aload_n 0, 1) := by decide +kernel
theorem dX0_degree_26 : decode cX0_degree 26 = .ok (.getfield 52, 3) := by decide +kernel
theorem dX0_degree_29 : decode cX0_degree 29 = .ok (.iload_n 2, 1) := by decide +kernel
theorem dX0_degree_30 : decode cX0_degree 30 = .ok (.iconst 1, 1) := by decide +kernel
theorem dX0_degree_31 : decode cX0_degree 31 = .ok (.isub, 1) := by decide +kernel
theorem dX0_degree_32 : decode cX0_degree 32 = .ok (.aaload, 1) := by decide +kernel
theorem dX0_degree_33 : decode cX0_degree 33 = .ok (.aload_n 1, 1) := by decide +kernel
theorem dX0_degree_34 : decode cX0_degree 34 = .ok (.aload_n 0, 1) := by decide +kernel
theorem dX0_degree_35 : decode cX0_degree 35 = .ok (.getfield 52, 3) := by decide +kernel
theorem dX0_degree_38 : decode cX0_degree 38 = .ok (.iload_n 2, 1) := by decide +kernel
theorem dX0_degree_39 : decode cX0_degree 39 = .ok (.aaload, 1) := by decide +kernel
theorem dX0_degree_40 : decode cX0_degree 40 = .ok (.invokevirtual 113, 3) := by decide +kernel
theorem dX0_degree_43 : decode cX0_degree 43 = .ok (.aload_n 0, 1) := by decide +kernel
theorem dX0_degree_44 : decode cX0_degree 44 = .ok (.getfield 21, 3) := by decide +kernel
theorem dX0_degree_47 : decode cX0_degree 47 = .ok (.aload_n 0, 1) := by decide +kernel
theorem dX0_degree_48 : decode cX0_degree 48 = .ok (.getfield 52, 3) := by decide +kernel
theorem dX0_degree_51 : decode cX0_degree 51 = .ok (.iload_n 2, 1) := by decide +kernel
theorem dX0_degree_52 : decode cX0_degree 52 = .ok (.iconst 1, 1) := by decide +kernel
theorem dX0_degree_53 : decode cX0_degree 53 = .ok (.iadd, 1) := by decide +kernel
theorem dX0_degree_54 : decode cX0_degree 54 = .ok (.aload_n 0, 1) := by decide +kernel
theorem dX0_degree_55 : decode cX0_degree 55 = .ok (.getfield 12, 3) := by decide +kernel
theorem dX0_degree_58 : decode cX0_degree 58 = .ok (.getfield 58, 3) := by decide +kernel
theorem dX0_degree_61 : decode cX0_degree 61 = .ok (.invokevirtual 127, 3) := by decide +kernel
theorem dX0_degree_64 : decode cX0_degree 64 = .ok (.aload_n 0, 1) := by decide +kernel
theorem dX0_degree_65 : decode cX0_degree 65 = .ok (.getfield 21, 3) := by decide +kernel
theorem dX0_degree_68 : decode cX0_degree 68 = .ok (.bipush 9, 2) := by decide +kernel
theorem dX0_degree_70 : decode cX0_degree 70 = .ok (.invokevirtual 82, 3) := by decide +kernel
theorem dX0_degree_73 : decode cX0_degree 73 = .ok (.iload_n 2, 1) := by decide +kernel
theorem dX0_degree_74 : decode cX0_degree 74 = .ok (.if_icmp .gt 5, 3) := by decide +kernel
theorem dX0_degree_77 : decode cX0_degree 77 = .ok (.iload_n 2, 1) := by decide +kernel
theorem dX0_degree_78 : decode cX0_degree 78 = .ok (.ireturn, 1) := by decide +kernel
theorem dX0_degree_79 : decode cX0_degree 79 = .ok (.iinc 2 1, 3) := by decide +kernel
theorem dX0_degree_82 : decode cX0_degree 82 = .ok (.goto (-67), 3) := by decide +kernel
theorem dX0_degree_85 : decode cX0_degree 85 = .ok (.aload_n 0, 1) := by decide +kernel
theorem dX0_degree_86 : decode cX0_degree 86 = .ok (.getfield 12, 3) := by decide +kernel
theorem dX0_degree_89 : decode cX0_degree 89 = .ok (.getfield 86, 3) := by decide +kernel
theorem dX0_degree_92 : decode cX0_degree 92 = .ok (.ireturn, 1) := by decide +kernel
set_option maxRecDepth 20000 in
theorem ggX0_tryRule_X0_operator : GoodIn wsX0_tryRule wsX0_operator := goodIn_r _ [7, 8, 9, 10, 6, 11, 12, 13, 14, 15, 16, 17, 18, 19, 20, 21, 22, 23, 24, 25, 28, 29, 30, 31, 32, 33, 34, 35, 36, 37, 38, 39, 40, 41] (by decide +kernel) (by decide +kernel)
set_option maxRecDepth 20000 in
theorem gX0_tryRule_X0_operator : GoodIn wsX0_tryRule (wsV RX0 120 RX0 yX0_operator wsX0_operator) := goodIn_app (goodIn_of _ (by decide +kernel)) ggX0_tryRule_X0_operator
set_option maxRecDepth 20000 in
theorem ggX0_tryRule_X7_same : GoodIn wsX0_tryRule wsX7_same := goodIn_r _ [27] (by decide +kernel) (by decide +kernel)
set_option maxRecDepth 20000 in
theorem gX0_tryRule_X7_same_n116 : GoodIn wsX0_tryRule (wsX7_same) := ggX0_tryRule_X7_same
theorem dX0_tryRule_0 : decode cX0_tryRule 0 = .ok (.aload_n 0, 1) := by decide +kernel
theorem dX0_tryRule_1 : decode cX0_tryRule 1 = .ok (.aload_n 1, 1) := by decide +kernel
theorem dX0_tryRule_2 : decode cX0_tryRule 2 = .ok (.aload_n 2, 1) := by decide +kernel
theorem dX0_tryRule_3 : decode cX0_tryRule 3 = .ok (.aload_n 0, 1) := by decide +kernel
theorem dX0_tryRule_4 : decode cX0_tryRule 4 = .ok (.getfield 46, 3) := by decide +kernel
theorem dX0_tryRule_7 : decode cX0_tryRule 7 = .ok (.invokevirtual 120, 3) := by decide +kernel
theorem dX0_tryRule_10 : decode cX0_tryRule 10 = .ok (.aload_n 0, 1) := by decide +kernel
theorem dX0_tryRule_11 : decode cX0_tryRule 11 = .ok (.aload_n 0, 1) := by decide +kernel
theorem dX0_tryRule_12 : decode cX0_tryRule 12 = .ok (.getfield 46, 3) := by decide +kernel
theorem dX0_tryRule_15 : decode cX0_tryRule 15 = .ok (.aload_n 3, 1) := by decide +kernel
theorem dX0_tryRule_16 : decode cX0_tryRule 16 = .ok (.aload_n 0, 1) := by decide +kernel
theorem dX0_tryRule_17 : decode cX0_tryRule 17 = .ok (.getfield 34, 3) := by decide +kernel
theorem dX0_tryRule_20 : decode cX0_tryRule 20 = .ok (.invokevirtual 120, 3) := by decide +kernel
theorem dX0_tryRule_23 : decode cX0_tryRule 23 = .ok (.aload_n 0, 1) := by decide +kernel
theorem dX0_tryRule_24 : decode cX0_tryRule 24 = .ok (.aload_n 1, 1) := by decide +kernel
theorem dX0_tryRule_25 : decode cX0_tryRule 25 = .ok (.aload_n 3, 1) := by decide +kernel
theorem dX0_tryRule_26 : decode cX0_tryRule 26 = .ok (.aload_n 0, 1) := by decide +kernel
theorem dX0_tryRule_27 : decode cX0_tryRule 27 = .ok (.getfield 46, 3) := by decide +kernel
theorem dX0_tryRule_30 : decode cX0_tryRule 30 = .ok (.invokevirtual 120, 3) := by decide +kernel
theorem dX0_tryRule_33 : decode cX0_tryRule 33 = .ok (.aload_n 0, 1) := by decide +kernel
theorem dX0_tryRule_34 : decode cX0_tryRule 34 = .ok (.aload_n 2, 1) := by decide +kernel
theorem dX0_tryRule_35 : decode cX0_tryRule 35 = .ok (.aload_n 0, 1) := by decide +kernel
theorem dX0_tryRule_36 : decode cX0_tryRule 36 = .ok (.getfield 46, 3) := by decide +kernel
theorem dX0_tryRule_39 : decode cX0_tryRule 39 = .ok (.aload_n 0, 1) := by decide +kernel
theorem dX0_tryRule_40 : decode cX0_tryRule 40 = .ok (.getfield 46, 3) := by decide +kernel
theorem dX0_tryRule_43 : decode cX0_tryRule 43 = .ok (.invokevirtual 120, 3) := by decide +kernel
theorem dX0_tryRule_46 : decode cX0_tryRule 46 = .ok (.aload_n 0, 1) := by decide +kernel
theorem dX0_tryRule_47 : decode cX0_tryRule 47 = .ok (.aload_n 1, 1) := by decide +kernel
theorem dX0_tryRule_48 : decode cX0_tryRule 48 = .ok (.aload_n 0, 1) := by decide +kernel
theorem dX0_tryRule_49 : decode cX0_tryRule 49 = .ok (.getfield 46, 3) := by decide +kernel
theorem dX0_tryRule_52 : decode cX0_tryRule 52 = .ok (.aload_n 0, 1) := by decide +kernel
theorem dX0_tryRule_53 : decode cX0_tryRule 53 = .ok (.getfield 46, 3) := by decide +kernel
theorem dX0_tryRule_56 : decode cX0_tryRule 56 = .ok (.invokevirtual 120, 3) := by decide +kernel
theorem dX0_tryRule_59 : decode cX0_tryRule 59 = .ok (.aload_n 0, 1) := by decide +kernel
theorem dX0_tryRule_60 : decode cX0_tryRule 60 = .ok (.getfield 34, 3) := by decide +kernel
theorem dX0_tryRule_63 : decode cX0_tryRule 63 = .ok (.aload_n 0, 1) := by decide +kernel
theorem dX0_tryRule_64 : decode cX0_tryRule 64 = .ok (.getfield 46, 3) := by decide +kernel
theorem dX0_tryRule_67 : decode cX0_tryRule 67 = .ok (.invokestatic 116, 3) := by decide +kernel
theorem dX0_tryRule_70 : decode cX0_tryRule 70 = .ok (.ireturn, 1) := by decide +kernel
set_option maxRecDepth 20000 in
theorem ggX0_countKind_X0_isOfKind : GoodIn wsX0_countKind wsX0_isOfKind := goodIn_r _ [7, 2, 8, 9, 10, 11, 6, 12, 13, 1, 14, 15, 16, 17, 18, 19, 20, 21, 22, 23, 24, 25, 26, 27, 28, 29, 30, 31, 32, 33, 34, 35, 36, 37, 38, 39, 40, 41, 42, 43, 44, 45, 46, 47, 48, 49, 50, 51, 52, 53, 54, 55, 56, 57, 58, 59, 60, 61, 62, 63, 64, 65, 66, 67, 68, 69, 70, 71, 72, 73, 74, 75, 76, 77, 78, 79, 80, 81, 82, 83, 84, 85] (by decide +kernel) (by decide +kernel)
set_option maxRecDepth 20000 in
theorem gX0_countKind_X0_isOfKind : GoodIn wsX0_countKind (wsV RX0 131 RX0 yX0_isOfKind wsX0_isOfKind) := goodIn_app (goodIn_of _ (by decide +kernel)) ggX0_countKind_X0_isOfKind
theorem dX0_countKind_0 : decode cX0_countKind 0 = .ok (.iconst 0, 1) := by decide +kernel
theorem dX0_countKind_1 : decode cX0_countKind 1 = .ok (.istore_n 2, 1) := by decide +kernel
theorem dX0_countKind_2 : decode cX0_countKind 2 = .ok (.aload_n 0, 1) := by decide +kernel
theorem dX0_countKind_3 : decode cX0_countKind 3 = .ok (.getfield 12, 3) := by decide +kernel
theorem dX0_countKind_6 : decode cX0_countKind 6 = .ok (.getfield 58, 3) := by decide +kernel
theorem dX0_countKind_9 : decode cX0_countKind 9 = .ok (.istore_n 3, 1) := by decide +kernel
theorem dX0_countKind_10 : decode cX0_countKind 10 = .ok (.iconst 0, 1) := by decide +kernel
theorem dX0_countKind_11 : decode cX0_countKind 11 = .ok (.istore 4, 2) := by decide +kernel
theorem dX0_countKind_13 : decode cX0_countKind 13 = .ok (.iload 4, 2) := by decide +kernel
theorem dX0_countKind_15 : decode cX0_countKind 15 = .ok (.iload_n 3, 1) := by decide +kernel
theorem dX0_countKind_16 : decode cX0_countKind 16 = .ok (.if_icmp .ge 87, 3) := by decide +kernel
theorem dX0_countKind_19 : decode cX0_countKind 19 = .ok (.iconst 0, 1) := by decide +kernel
theorem dX0_countKind_20 : decode cX0_countKind 20 = .ok (.istore 5, 2) := by decide +kernel
theorem dX0_countKind_22 : decode cX0_countKind 22 = .ok (.iload 5, 2) := by decide +kernel
theorem dX0_countKind_24 : decode cX0_countKind 24 = .ok (.iload_n 3, 1) := by decide +kernel
theorem dX0_countKind_25 : decode cX0_countKind 25 = .ok (.if_icmp .ge 72, 3) := by decide +kernel
theorem dX0_countKind_28 : decode cX0_countKind 28 = .ok (.iconst 0, 1) := by decide +kernel
theorem dX0_countKind_29 : decode cX0_countKind 29 = .ok (.istore 6, 2) := by decide +kernel
theorem dX0_countKind_31 : decode cX0_countKind 31 = .ok (.iload 6, 2) := by decide +kernel
theorem dX0_countKind_33 : decode cX0_countKind 33 = .ok (.iload_n 3, 1) := by decide +kernel
theorem dX0_countKind_34 : decode cX0_countKind 34 = .ok (.if_icmp .ge 57, 3) := by decide +kernel
theorem dX0_countKind_37 : decode cX0_countKind 37 = .ok (.aload_n 0, 1) := by decide +kernel
theorem dX0_countKind_38 : decode cX0_countKind 38 = .ok (.getfield 49, 3) := by decide +kernel
theorem dX0_countKind_41 : decode cX0_countKind 41 = .ok (.iconst 0, 1) := by decide +kernel
theorem dX0_countKind_42 : decode cX0_countKind 42 = .ok (.iload 4, 2) := by decide +kernel
theorem dX0_countKind_44 : decode cX0_countKind 44 = .ok (.iastore, 1) := by decide +kernel
theorem dX0_countKind_45 : decode cX0_countKind 45 = .ok (.aload_n 0, 1) := by decide +kernel
theorem dX0_countKind_46 : decode cX0_countKind 46 = .ok (.getfield 49, 3) := by decide +kernel
theorem dX0_countKind_49 : decode cX0_countKind 49 = .ok (.iconst 1, 1) := by decide +kernel
theorem dX0_countKind_50 : decode cX0_countKind 50 = .ok (.iload 5, 2) := by decide +kernel
theorem dX0_countKind_52 : decode cX0_countKind 52 = .ok (.iastore, 1) := by decide +kernel
theorem dX0_countKind_53 : decode cX0_countKind 53 = .ok (.aload_n 0, 1) := by decide +kernel
theorem dX0_countKind_54 : decode cX0_countKind 54 = .ok (.getfield 49, 3) := by decide +kernel
theorem dX0_countKind_57 : decode cX0_countKind 57 = .ok (.iconst 3, 1) := by decide +kernel
theorem dX0_countKind_58 : decode cX0_countKind 58 = .ok (.iload 5, 2) := by decide +kernel
theorem dX0_countKind_60 : decode cX0_countKind 60 = .ok (.iastore, 1) := by decide +kernel
theorem dX0_countKind_61 : decode cX0_countKind 61 = .ok (.aload_n 0, 1) := by decide +kernel
theorem dX0_countKind_62 : decode cX0_countKind 62 = .ok (.getfield 49, 3) := by decide +kernel
theorem dX0_countKind_65 : decode cX0_countKind 65 = .ok (.iconst 4, 1) := by decide +kernel
theorem dX0_countKind_66 : decode cX0_countKind 66 = .ok (.iload 6, 2) := by decide +kernel
theorem dX0_countKind_68 : decode cX0_countKind 68 = .ok (.iastore, 1) := by decide +kernel
theorem dX0_countKind_69 : decode cX0_countKind 69 = .ok (.iload_n 2, 1) := by decide +kernel
theorem dX0_countKind_70 : decode cX0_countKind 70 = .ok (.aload_n 0, 1) := by decide +kernel
theorem dX0_countKind_71 : decode cX0_countKind 71 = .ok (.iload_n 1, 1) := by decide +kernel
theorem dX0_countKind_72 : decode cX0_countKind 72 = .ok (.invokevirtual 131, 3) := by decide +kernel
theorem dX0_countKind_75 : decode cX0_countKind 75 = .ok (.ifCond .eq 7, 3) := by decide +kernel
theorem dX0_countKind_78 : decode cX0_countKind 78 = .ok (.iconst 1, 1) := by decide +kernel
theorem dX0_countKind_79 : decode cX0_countKind 79 = .ok (.goto 4, 3) := by decide +kernel
theorem dX0_countKind_82 : decode cX0_countKind 82 = .ok (.iconst 0, 1) := by decide +kernel
theorem dX0_countKind_83 : decode cX0_countKind 83 = .ok (.iadd, 1) := by decide +kernel
theorem dX0_countKind_84 : decode cX0_countKind 84 = .ok (.istore_n 2, 1) := by decide +kernel
theorem dX0_countKind_85 : decode cX0_countKind 85 = .ok (.iinc 6 1, 3) := by decide +kernel
theorem dX0_countKind_88 : decode cX0_countKind 88 = .ok (.goto (-57), 3) := by decide +kernel
theorem dX0_countKind_91 : decode cX0_countKind 91 = .ok (.iinc 5 1, 3) := by decide +kernel
theorem dX0_countKind_94 : decode cX0_countKind 94 = .ok (.goto (-72), 3) := by decide +kernel
theorem dX0_countKind_97 : decode cX0_countKind 97 = .ok (.iinc 4 1, 3) := by decide +kernel
theorem dX0_countKind_100 : decode cX0_countKind 100 = .ok (.goto (-87), 3) := by decide +kernel
theorem dX0_countKind_103 : decode cX0_countKind 103 = .ok (.iload_n 2, 1) := by decide +kernel
theorem dX0_countKind_104 : decode cX0_countKind 104 = .ok (.ireturn, 1) := by decide +kernel
set_option maxRecDepth 20000 in
theorem ggX0_isOfKind_X0_determinant : GoodIn wsX0_isOfKind wsX0_determinant := goodIn_r _ [7, 8, 9, 10, 11, 12, 13, 14, 15, 16, 17, 18, 19, 20, 21, 22, 23, 24, 25, 26, 27, 28, 29, 30, 31, 32, 33, 34, 35, 36, 37, 38, 39, 40, 41, 42, 65, 66, 67, 68, 69, 70, 71, 72, 73, 74, 75, 76, 77, 78, 79, 80, 81] (by decide +kernel) (by decide +kernel)
set_option maxRecDepth 20000 in
theorem gX0_isOfKind_X0_determinant : GoodIn wsX0_isOfKind (wsV RX0 106 RX0 yX0_determinant wsX0_determinant) := goodIn_app (goodIn_of _ (by decide +kernel)) ggX0_isOfKind_X0_determinant
set_option maxRecDepth 20000 in
theorem ggX0_isOfKind_X0_product : GoodIn wsX0_isOfKind wsX0_product := goodIn_r _ [46, 9, 47, 48, 49, 50, 51, 6, 52, 36, 37, 38, 53, 54, 55, 56, 65, 66, 67, 68, 69, 70, 71, 72, 73, 74, 75, 76, 77, 78] (by decide +kernel) (by decide +kernel)
set_option maxRecDepth 20000 in
theorem gX0_isOfKind_X0_product : GoodIn wsX0_isOfKind (wsV RX0 113 RX0 yX0_product wsX0_product) := goodIn_app (goodIn_of _ (by decide +kernel)) ggX0_isOfKind_X0_product
set_option maxRecDepth 20000 in
theorem ggX0_isOfKind_X7_isZero : GoodIn wsX0_isOfKind wsX7_isZero := goodIn_r _ [58] (by decide +kernel) (by decide +kernel)
set_option maxRecDepth 20000 in
theorem gX0_isOfKind_X7_isZero_n123 : GoodIn wsX0_isOfKind (wsX7_isZero) := ggX0_isOfKind_X7_isZero
set_option maxRecDepth 20000 in
theorem ggX0_isOfKind_X0_unit : GoodIn wsX0_isOfKind wsX0_unit := goodIn_r _ [62, 9, 65, 66, 67, 68, 69, 70, 71, 72, 73, 74, 75, 76, 77, 78] (by decide +kernel) (by decide +kernel)
set_option maxRecDepth 20000 in
theorem gX0_isOfKind_X0_unit : GoodIn wsX0_isOfKind (wsV RX0 93 RX0 yX0_unit wsX0_unit) := goodIn_app (goodIn_of _ (by decide +kernel)) ggX0_isOfKind_X0_unit
set_option maxRecDepth 20000 in
theorem ggX0_isOfKind_X7_same : GoodIn wsX0_isOfKind wsX7_same := goodIn_r _ [64] (by decide +kernel) (by decide +kernel)
set_option maxRecDepth 20000 in
theorem gX0_isOfKind_X7_same_n116 : GoodIn wsX0_isOfKind (wsX7_same) := ggX0_isOfKind_X7_same
theorem dX0_isOfKind_0 : decode cX0_isOfKind 0 = .ok (.iload_n 1, 1) := by decide +kernel
theorem dX0_isOfKind_1 : decode cX0_isOfKind 1 = .ok (.iconst 1, 1) := by decide +kernel
theorem dX0_isOfKind_2 : decode cX0_isOfKind 2 = .ok (.if_icmp .ne 20, 3) := by decide +kernel
theorem dX0_isOfKind_5 : decode cX0_isOfKind 5 = .ok (.aload_n 0, 1) := by decide +kernel
theorem dX0_isOfKind_6 : decode cX0_isOfKind 6 = .ok (.aload_n 0, 1) := by decide +kernel
theorem dX0_isOfKind_7 : decode cX0_isOfKind 7 = .ok (.getfield 49, 3) := by decide +kernel
theorem dX0_isOfKind_10 : decode cX0_isOfKind 10 = .ok (.invokevirtual 106, 3) := by decide +kernel
theorem dX0_isOfKind_13 : decode cX0_isOfKind 13 = .ok (.ifCond .eq 7, 3) := by decide +kernel
theorem dX0_isOfKind_16 : decode cX0_isOfKind 16 = .ok (.iconst 1, 1) := by decide +kernel
theorem dX0_isOfKind_17 : decode cX0_isOfKind 17 = .ok (.goto 4, 3) := by decide +kernel
theorem dX0_isOfKind_20 : decode cX0_isOfKind 20 = .ok (.iconst 0, 1) := by decide +kernel
theorem dX0_isOfKind_21 : decode cX0_isOfKind 21 = .ok (.ireturn, 1) := by decide +kernel
theorem dX0_isOfKind_22 : decode cX0_isOfKind 22 = .ok (.aload_n 0, 1) := by decide +kernel
theorem dX0_isOfKind_23 : decode cX0_isOfKind 23 = .ok (.aload_n 0, 1) := by decide +kernel
theorem dX0_isOfKind_24 : decode cX0_isOfKind 24 = .ok (.getfield 49, 3) := by decide +kernel
theorem dX0_isOfKind_27 : decode cX0_isOfKind 27 = .ok (.aload_n 0, 1) := by decide +kernel
theorem dX0_isOfKind_28 : decode cX0_isOfKind 28 = .ok (.getfield 49, 3) := by decide +kernel
theorem dX0_isOfKind_31 : decode cX0_isOfKind 31 = .ok (.aload_n 0, 1) := by decide +kernel
theorem dX0_isOfKind_32 : decode cX0_isOfKind 32 = .ok (.getfield 43, 3) := by decide +kernel
theorem dX0_isOfKind_35 : decode cX0_isOfKind 35 = .ok (.invokevirtual 113, 3) := by decide +kernel
theorem dX0_isOfKind_38 : decode cX0_isOfKind 38 = .ok (.iload_n 1, 1) := by decide +kernel
theorem dX0_isOfKind_39 : decode cX0_isOfKind 39 = .ok (.iconst 2, 1) := by decide +kernel
theorem dX0_isOfKind_40 : decode cX0_isOfKind 40 = .ok (.if_icmp .ne 11, 3) := by decide +kernel
theorem dX0_isOfKind_43 : decode cX0_isOfKind 43 = .ok (.aload_n 0, 1) := by decide +kernel
theorem dX0_isOfKind_44 : decode cX0_isOfKind 44 = .ok (.getfield 43, 3) := by decide +kernel
theorem dX0_isOfKind_47 : decode cX0_isOfKind 47 = .ok (.invokestatic 123, 3) := by decide +kernel
theorem dX0_isOfKind_50 : decode cX0_isOfKind 50 = .ok (.ireturn, 1) := by decide +kernel
theorem dX0_isOfKind_51 : decode cX0_isOfKind 51 = .ok (.aload_n 0, 1) := by decide +kernel
theorem dX0_isOfKind_52 : decode cX0_isOfKind 52 = .ok (.getfield 43, 3) := by decide +kernel
theorem dX0_isOfKind_55 : decode cX0_isOfKind 55 = .ok (.iload_n 1, 1) := by decide +kernel
theorem dX0_isOfKind_56 : decode cX0_isOfKind 56 = .ok (.ifCond .ne 10, 3) := by decide +kernel
theorem dX0_isOfKind_59 : decode cX0_isOfKind 59 = .ok (.aload_n 0, 1) := by decide +kernel
theorem dX0_isOfKind_60 : decode cX0_isOfKind 60 = .ok (.getfield 49, 3) := by decide +kernel
theorem dX0_isOfKind_63 : decode cX0_isOfKind 63 = .ok (.goto 7, 3) := by decide +kernel
theorem dX0_isOfKind_66 : decode cX0_isOfKind 66 = .ok (.aload_n 0, 1) := by decide +kernel
theorem dX0_isOfKind_67 : decode cX0_isOfKind 67 = .ok (.invokevirtual 93, 3) := by decide +kernel
theorem dX0_isOfKind_70 : decode cX0_isOfKind 70 = .ok (.invokestatic 116, 3) := by decide +kernel
theorem dX0_isOfKind_73 : decode cX0_isOfKind 73 = .ok (.ireturn, 1) := by decide +kernel
