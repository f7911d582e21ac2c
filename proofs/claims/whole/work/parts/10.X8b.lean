theorem dX8_product_13 : decode cX8_product 13 = .ok (.bipush 54, 2) := by decide +kernel
theorem dX8_product_15 : decode cX8_product 15 = .ok (.invokevirtual 84, 3) := by decide +kernel
theorem dX8_product_18 : decode cX8_product 18 = .ok (.aload_n 0, 1) := by decide +kernel
theorem dX8_product_19 : decode cX8_product 19 = .ok (.iload_n 2, 1) := by decide +kernel
theorem dX8_product_20 : decode cX8_product 20 = .ok (.bipush 27, 2) := by decide +kernel
theorem dX8_product_22 : decode cX8_product 22 = .ok (.bipush 45, 2) := by decide +kernel
theorem dX8_product_24 : decode cX8_product 24 = .ok (.invokevirtual 84, 3) := by decide +kernel
theorem dX8_product_27 : decode cX8_product 27 = .ok (.aload_n 0, 1) := by decide +kernel
theorem dX8_product_28 : decode cX8_product 28 = .ok (.bipush 45, 2) := by decide +kernel
theorem dX8_product_30 : decode cX8_product 30 = .ok (.iload_n 1, 1) := by decide +kernel
theorem dX8_product_31 : decode cX8_product 31 = .ok (.bipush 63, 2) := by decide +kernel
theorem dX8_product_33 : decode cX8_product 33 = .ok (.invokevirtual 84, 3) := by decide +kernel
theorem dX8_product_36 : decode cX8_product 36 = .ok (.aload_n 0, 1) := by decide +kernel
theorem dX8_product_37 : decode cX8_product 37 = .ok (.bipush 54, 2) := by decide +kernel
theorem dX8_product_39 : decode cX8_product 39 = .ok (.aload_n 0, 1) := by decide +kernel
theorem dX8_product_40 : decode cX8_product 40 = .ok (.invokevirtual 88, 3) := by decide +kernel
theorem dX8_product_43 : decode cX8_product 43 = .ok (.bipush 63, 2) := by decide +kernel
theorem dX8_product_45 : decode cX8_product 45 = .ok (.aload_n 0, 1) := by decide +kernel
theorem dX8_product_46 : decode cX8_product 46 = .ok (.invokevirtual 88, 3) := by decide +kernel
theorem dX8_product_49 : decode cX8_product 49 = .ok (.iload_n 3, 1) := by decide +kernel
theorem dX8_product_50 : decode cX8_product 50 = .ok (.invokevirtual 92, 3) := by decide +kernel
theorem dX8_product_53 : decode cX8_product 53 = .ok (.return_, 1) := by decide +kernel
set_option maxRecDepth 20000 in
theorem ggX8_operator_X8_times : GoodIn wsX8_operator wsX8_times := goodIn_r _ [5, 6, 7, 8, 9, 10, 4, 11, 16, 17, 18, 19, 20, 21, 22, 23, 24, 25, 26, 27, 28, 29, 30, 31, 32, 33, 34, 35] (by decide +kernel) (by decide +kernel)
set_option maxRecDepth 20000 in
theorem gX8_operator_X8_times : GoodIn wsX8_operator (wsV RX8 84 RX8 yX8_times wsX8_times) := goodIn_app (goodIn_of _ (by decide +kernel)) ggX8_operator_X8_times
set_option maxRecDepth 20000 in
theorem ggX8_operator_X8_copy : GoodIn wsX8_operator wsX8_copy := goodIn_r _ [15, 7, 16, 17, 18, 19, 20, 21, 22, 23, 24, 25, 26, 27, 28, 29, 30, 31, 32, 33, 34, 35] (by decide +kernel) (by decide +kernel)
set_option maxRecDepth 20000 in
theorem gX8_operator_X8_copy : GoodIn wsX8_operator (wsV RX8 96 RX8 yX8_copy wsX8_copy) := goodIn_app (goodIn_of _ (by decide +kernel)) ggX8_operator_X8_copy
theorem dX8_operator_0 : decode cX8_operator 0 = .ok (.aload_n 0, 1) := by decide +kernel
theorem dX8_operator_1 : decode cX8_operator 1 = .ok (.iload_n 1, 1) := by decide +kernel
theorem dX8_operator_2 : decode cX8_operator 2 = .ok (.bipush 27, 2) := by decide +kernel
theorem dX8_operator_4 : decode cX8_operator 4 = .ok (.bipush 45, 2) := by decide +kernel
theorem dX8_operator_6 : decode cX8_operator 6 = .ok (.invokevirtual 84, 3) := by decide +kernel
theorem dX8_operator_9 : decode cX8_operator 9 = .ok (.aload_n 0, 1) := by decide +kernel
theorem dX8_operator_10 : decode cX8_operator 10 = .ok (.bipush 45, 2) := by decide +kernel
theorem dX8_operator_12 : decode cX8_operator 12 = .ok (.iload_n 2, 1) := by decide +kernel
theorem dX8_operator_13 : decode cX8_operator 13 = .ok (.bipush 54, 2) := by decide +kernel
theorem dX8_operator_15 : decode cX8_operator 15 = .ok (.invokevirtual 84, 3) := by decide +kernel
theorem dX8_operator_18 : decode cX8_operator 18 = .ok (.aload_n 0, 1) := by decide +kernel
theorem dX8_operator_19 : decode cX8_operator 19 = .ok (.bipush 54, 2) := by decide +kernel
theorem dX8_operator_21 : decode cX8_operator 21 = .ok (.bipush 27, 2) := by decide +kernel
theorem dX8_operator_23 : decode cX8_operator 23 = .ok (.bipush 45, 2) := by decide +kernel
theorem dX8_operator_25 : decode cX8_operator 25 = .ok (.invokevirtual 84, 3) := by decide +kernel
theorem dX8_operator_28 : decode cX8_operator 28 = .ok (.aload_n 0, 1) := by decide +kernel
theorem dX8_operator_29 : decode cX8_operator 29 = .ok (.bipush 45, 2) := by decide +kernel
theorem dX8_operator_31 : decode cX8_operator 31 = .ok (.iload_n 1, 1) := by decide +kernel
theorem dX8_operator_32 : decode cX8_operator 32 = .ok (.bipush 63, 2) := by decide +kernel
theorem dX8_operator_34 : decode cX8_operator 34 = .ok (.invokevirtual 84, 3) := by decide +kernel
theorem dX8_operator_37 : decode cX8_operator 37 = .ok (.aload_n 0, 1) := by decide +kernel
theorem dX8_operator_38 : decode cX8_operator 38 = .ok (.bipush 63, 2) := by decide +kernel
theorem dX8_operator_40 : decode cX8_operator 40 = .ok (.iload_n 3, 1) := by decide +kernel
theorem dX8_operator_41 : decode cX8_operator 41 = .ok (.invokevirtual 96, 3) := by decide +kernel
theorem dX8_operator_44 : decode cX8_operator 44 = .ok (.return_, 1) := by decide +kernel
set_option maxRecDepth 20000 in
theorem ggX8_triple_X8_times : GoodIn wsX8_triple wsX8_times := goodIn_r _ [5, 6, 7, 8, 9, 10, 4, 11, 24, 25, 26, 27, 28, 29, 30, 31, 32, 33, 34, 35, 36, 37, 38, 39, 40, 41, 42, 43] (by decide +kernel) (by decide +kernel)
set_option maxRecDepth 20000 in
theorem gX8_triple_X8_times : GoodIn wsX8_triple (wsV RX8 84 RX8 yX8_times wsX8_times) := goodIn_app (goodIn_of _ (by decide +kernel)) ggX8_triple_X8_times
set_option maxRecDepth 20000 in
theorem ggX8_triple_X8_half : GoodIn wsX8_triple wsX8_half := goodIn_r _ [15, 6, 24, 25, 26, 27, 28, 29, 30, 31, 32, 33, 34, 35, 36, 37, 38, 39, 40, 41, 42, 43] (by decide +kernel) (by decide +kernel)
set_option maxRecDepth 20000 in
theorem gX8_triple_X8_half : GoodIn wsX8_triple (wsV RX8 88 RX8 yX8_half wsX8_half) := goodIn_app (goodIn_of _ (by decide +kernel)) ggX8_triple_X8_half
set_option maxRecDepth 20000 in
theorem ggX8_triple_X8_add : GoodIn wsX8_triple wsX8_add := goodIn_r _ [19, 7, 20, 21, 22, 4, 23, 6, 24, 25, 26, 27, 28, 29, 30, 31, 32, 33, 34, 35, 36, 37, 38, 39, 40, 41, 42, 43] (by decide +kernel) (by decide +kernel)
set_option maxRecDepth 20000 in
theorem gX8_triple_X8_add : GoodIn wsX8_triple (wsV RX8 92 RX8 yX8_add wsX8_add) := goodIn_app (goodIn_of _ (by decide +kernel)) ggX8_triple_X8_add
theorem dX8_triple_0 : decode cX8_triple 0 = .ok (.aload_n 0, 1) := by decide +kernel
theorem dX8_triple_1 : decode cX8_triple 1 = .ok (.iload_n 1, 1) := by decide +kernel
theorem dX8_triple_2 : decode cX8_triple 2 = .ok (.bipush 27, 2) := by decide +kernel
theorem dX8_triple_4 : decode cX8_triple 4 = .ok (.bipush 45, 2) := by decide +kernel
theorem dX8_triple_6 : decode cX8_triple 6 = .ok (.invokevirtual 84, 3) := by decide +kernel
theorem dX8_triple_9 : decode cX8_triple 9 = .ok (.aload_n 0, 1) := by decide +kernel
theorem dX8_triple_10 : decode cX8_triple 10 = .ok (.bipush 45, 2) := by decide +kernel
theorem dX8_triple_12 : decode cX8_triple 12 = .ok (.iload_n 2, 1) := by decide +kernel
theorem dX8_triple_13 : decode cX8_triple 13 = .ok (.bipush 54, 2) := by decide +kernel
theorem dX8_triple_15 : decode cX8_triple 15 = .ok (.invokevirtual 84, 3) := by decide +kernel
theorem dX8_triple_18 : decode cX8_triple 18 = .ok (.aload_n 0, 1) := by decide +kernel
theorem dX8_triple_19 : decode cX8_triple 19 = .ok (.bipush 54, 2) := by decide +kernel
theorem dX8_triple_21 : decode cX8_triple 21 = .ok (.bipush 27, 2) := by decide +kernel
theorem dX8_triple_23 : decode cX8_triple 23 = .ok (.bipush 45, 2) := by decide +kernel
theorem dX8_triple_25 : decode cX8_triple 25 = .ok (.invokevirtual 84, 3) := by decide +kernel
theorem dX8_triple_28 : decode cX8_triple 28 = .ok (.aload_n 0, 1) := by decide +kernel
theorem dX8_triple_29 : decode cX8_triple 29 = .ok (.bipush 45, 2) := by decide +kernel
theorem dX8_triple_31 : decode cX8_triple 31 = .ok (.iload_n 3, 1) := by decide +kernel
theorem dX8_triple_32 : decode cX8_triple 32 = .ok (.bipush 63, 2) := by decide +kernel
theorem dX8_triple_34 : decode cX8_triple 34 = .ok (.invokevirtual 84, 3) := by decide +kernel
theorem dX8_triple_37 : decode cX8_triple 37 = .ok (.aload_n 0, 1) := by decide +kernel
theorem dX8_triple_38 : decode cX8_triple 38 = .ok (.iload_n 3, 1) := by decide +kernel
theorem dX8_triple_39 : decode cX8_triple 39 = .ok (.bipush 27, 2) := by decide +kernel
theorem dX8_triple_41 : decode cX8_triple 41 = .ok (.bipush 45, 2) := by decide +kernel
theorem dX8_triple_43 : decode cX8_triple 43 = .ok (.invokevirtual 84, 3) := by decide +kernel
theorem dX8_triple_46 : decode cX8_triple 46 = .ok (.aload_n 0, 1) := by decide +kernel
theorem dX8_triple_47 : decode cX8_triple 47 = .ok (.bipush 45, 2) := by decide +kernel
theorem dX8_triple_49 : decode cX8_triple 49 = .ok (.iload_n 2, 1) := by decide +kernel
theorem dX8_triple_50 : decode cX8_triple 50 = .ok (.bipush 54, 2) := by decide +kernel
theorem dX8_triple_52 : decode cX8_triple 52 = .ok (.invokevirtual 84, 3) := by decide +kernel
theorem dX8_triple_55 : decode cX8_triple 55 = .ok (.aload_n 0, 1) := by decide +kernel
theorem dX8_triple_56 : decode cX8_triple 56 = .ok (.bipush 54, 2) := by decide +kernel
theorem dX8_triple_58 : decode cX8_triple 58 = .ok (.bipush 27, 2) := by decide +kernel
theorem dX8_triple_60 : decode cX8_triple 60 = .ok (.bipush 45, 2) := by decide +kernel
theorem dX8_triple_62 : decode cX8_triple 62 = .ok (.invokevirtual 84, 3) := by decide +kernel
theorem dX8_triple_65 : decode cX8_triple 65 = .ok (.aload_n 0, 1) := by decide +kernel
theorem dX8_triple_66 : decode cX8_triple 66 = .ok (.bipush 45, 2) := by decide +kernel
theorem dX8_triple_68 : decode cX8_triple 68 = .ok (.iload_n 1, 1) := by decide +kernel
theorem dX8_triple_69 : decode cX8_triple 69 = .ok (.bipush 72, 2) := by decide +kernel
theorem dX8_triple_71 : decode cX8_triple 71 = .ok (.invokevirtual 84, 3) := by decide +kernel
theorem dX8_triple_74 : decode cX8_triple 74 = .ok (.aload_n 0, 1) := by decide +kernel
theorem dX8_triple_75 : decode cX8_triple 75 = .ok (.bipush 63, 2) := by decide +kernel
theorem dX8_triple_77 : decode cX8_triple 77 = .ok (.aload_n 0, 1) := by decide +kernel
theorem dX8_triple_78 : decode cX8_triple 78 = .ok (.invokevirtual 88, 3) := by decide +kernel
theorem dX8_triple_81 : decode cX8_triple 81 = .ok (.bipush 72, 2) := by decide +kernel
theorem dX8_triple_83 : decode cX8_triple 83 = .ok (.aload_n 0, 1) := by decide +kernel
theorem dX8_triple_84 : decode cX8_triple 84 = .ok (.invokevirtual 88, 3) := by decide +kernel
theorem dX8_triple_87 : decode cX8_triple 87 = .ok (.iload 4, 2) := by decide +kernel
theorem dX8_triple_89 : decode cX8_triple 89 = .ok (.invokevirtual 92, 3) := by decide +kernel
theorem dX8_triple_92 : decode cX8_triple 92 = .ok (.return_, 1) := by decide +kernel
set_option maxRecDepth 20000 in
theorem ggX8_inverse_X8_determinant : GoodIn wsX8_inverse wsX8_determinant := goodIn_r _ [5, 6, 7, 8, 9, 10, 4, 11, 12, 13, 14, 15, 36, 37, 38, 39, 40, 41, 42, 43, 44, 45, 46, 47, 48, 49, 50, 51, 52, 53, 54, 55] (by decide +kernel) (by decide +kernel)
set_option maxRecDepth 20000 in
theorem gX8_inverse_X8_determinant : GoodIn wsX8_inverse (wsV RX8 72 RX8 yX8_determinant wsX8_determinant) := goodIn_app (goodIn_of _ (by decide +kernel)) ggX8_inverse_X8_determinant
set_option maxRecDepth 20000 in
theorem ggX8_inverse_X8_invert : GoodIn wsX8_inverse wsX8_invert := goodIn_r _ [19, 6, 7, 1, 2, 3, 4, 5, 8, 9, 10, 11, 12, 13, 14, 15, 20, 21, 22, 23, 24, 25, 26, 27, 36, 37, 38, 39, 40, 41, 42, 43, 44, 45, 46, 47, 48, 49, 50, 51, 52, 53, 54, 55] (by decide +kernel) (by decide +kernel)
set_option maxRecDepth 20000 in
theorem gX8_inverse_X8_invert : GoodIn wsX8_inverse (wsV RX8 78 RX8 yX8_invert wsX8_invert) := goodIn_app (goodIn_of _ (by decide +kernel)) ggX8_inverse_X8_invert
set_option maxRecDepth 20000 in
theorem ggX8_inverse_X8_times : GoodIn wsX8_inverse wsX8_times := goodIn_r _ [31, 6, 7, 24, 25, 26, 4, 27, 36, 37, 38, 39, 40, 41, 42, 43, 44, 45, 46, 47, 48, 49, 50, 51, 52, 53, 54, 55] (by decide +kernel) (by decide +kernel)
set_option maxRecDepth 20000 in
theorem gX8_inverse_X8_times : GoodIn wsX8_inverse (wsV RX8 84 RX8 yX8_times wsX8_times) := goodIn_app (goodIn_of _ (by decide +kernel)) ggX8_inverse_X8_times
set_option maxRecDepth 20000 in
theorem ggX8_inverse_X8_copy : GoodIn wsX8_inverse wsX8_copy := goodIn_r _ [35, 7, 36, 37, 38, 39, 40, 41, 42, 43, 44, 45, 46, 47, 48, 49, 50, 51, 52, 53, 54, 55] (by decide +kernel) (by decide +kernel)
set_option maxRecDepth 20000 in
theorem gX8_inverse_X8_copy : GoodIn wsX8_inverse (wsV RX8 96 RX8 yX8_copy wsX8_copy) := goodIn_app (goodIn_of _ (by decide +kernel)) ggX8_inverse_X8_copy
theorem dX8_inverse_0 : decode cX8_inverse 0 = .ok (.aload_n 0, 1) := by decide +kernel
theorem dX8_inverse_1 : decode cX8_inverse 1 = .ok (.iload_n 1, 1) := by decide +kernel
theorem dX8_inverse_2 : decode cX8_inverse 2 = .ok (.invokevirtual 72, 3) := by decide +kernel
theorem dX8_inverse_5 : decode cX8_inverse 5 = .ok (.ifCond .ne 5, 3) := by decide +kernel
theorem dX8_inverse_8 : decode cX8_inverse 8 = .ok (.iconst 0, 1) := by decide +kernel
theorem dX8_inverse_9 : decode cX8_inverse 9 = .ok (.ireturn, 1) := by decide +kernel
theorem dX8_inverse_10 : decode cX8_inverse 10 = .ok (.aload_n 0, 1) := by decide +kernel
theorem dX8_inverse_11 : decode cX8_inverse 11 = .ok (.iload_n 1, 1) := by decide +kernel
theorem dX8_inverse_12 : decode cX8_inverse 12 = .ok (.bipush 45, 2) := by decide +kernel
theorem dX8_inverse_14 : decode cX8_inverse 14 = .ok (.invokevirtual 78, 3) := by decide +kernel
theorem dX8_inverse_17 : decode cX8_inverse 17 = .ok (.aload_n 0, 1) := by decide +kernel
theorem dX8_inverse_18 : decode cX8_inverse 18 = .ok (.bipush 36, 2) := by decide +kernel
theorem dX8_inverse_20 : decode cX8_inverse 20 = .ok (.bipush 45, 2) := by decide +kernel
theorem dX8_inverse_22 : decode cX8_inverse 22 = .ok (.bipush 54, 2) := by decide +kernel
theorem dX8_inverse_24 : decode cX8_inverse 24 = .ok (.invokevirtual 84, 3) := by decide +kernel
theorem dX8_inverse_27 : decode cX8_inverse 27 = .ok (.aload_n 0, 1) := by decide +kernel
theorem dX8_inverse_28 : decode cX8_inverse 28 = .ok (.bipush 54, 2) := by decide +kernel
theorem dX8_inverse_30 : decode cX8_inverse 30 = .ok (.bipush 36, 2) := by decide +kernel
theorem dX8_inverse_32 : decode cX8_inverse 32 = .ok (.bipush 63, 2) := by decide +kernel
theorem dX8_inverse_34 : decode cX8_inverse 34 = .ok (.invokevirtual 84, 3) := by decide +kernel
theorem dX8_inverse_37 : decode cX8_inverse 37 = .ok (.aload_n 0, 1) := by decide +kernel
theorem dX8_inverse_38 : decode cX8_inverse 38 = .ok (.bipush 63, 2) := by decide +kernel
theorem dX8_inverse_40 : decode cX8_inverse 40 = .ok (.iload_n 2, 1) := by decide +kernel
theorem dX8_inverse_41 : decode cX8_inverse 41 = .ok (.invokevirtual 96, 3) := by decide +kernel
theorem dX8_inverse_44 : decode cX8_inverse 44 = .ok (.iconst 1, 1) := by decide +kernel
theorem dX8_inverse_45 : decode cX8_inverse 45 = .ok (.ireturn, 1) := by decide +kernel
set_option maxRecDepth 20000 in
theorem ggX8_isOwnSquare_X8_product : GoodIn wsX8_isOwnSquare wsX8_product := goodIn_r _ [5, 6, 7, 8, 4, 9, 10, 11, 12, 13, 14, 15, 16, 17, 18, 19, 20, 21, 22, 23, 24, 25, 26, 27, 32, 33, 34, 35, 36, 37, 38, 39, 40, 41, 42, 43, 44, 45, 46, 47, 48, 49, 50, 51] (by decide +kernel) (by decide +kernel)
set_option maxRecDepth 20000 in
theorem gX8_isOwnSquare_X8_product : GoodIn wsX8_isOwnSquare (wsV RX8 99 RX8 yX8_product wsX8_product) := goodIn_app (goodIn_of _ (by decide +kernel)) ggX8_isOwnSquare_X8_product
set_option maxRecDepth 20000 in
theorem ggX8_isOwnSquare_X8_areAlike : GoodIn wsX8_isOwnSquare wsX8_areAlike := goodIn_r _ [31, 11, 32, 33, 34, 35, 36, 37, 38, 39, 40, 41, 42, 43, 44, 45, 46, 47, 48, 49, 50, 51] (by decide +kernel) (by decide +kernel)
set_option maxRecDepth 20000 in
theorem gX8_isOwnSquare_X8_areAlike : GoodIn wsX8_isOwnSquare (wsV RX8 102 RX8 yX8_areAlike wsX8_areAlike) := goodIn_app (goodIn_of _ (by decide +kernel)) ggX8_isOwnSquare_X8_areAlike
theorem dX8_isOwnSquare_0 : decode cX8_isOwnSquare 0 = .ok (.aload_n 0, 1) := by decide +kernel
theorem dX8_isOwnSquare_1 : decode cX8_isOwnSquare 1 = .ok (.iload_n 1, 1) := by decide +kernel
theorem dX8_isOwnSquare_2 : decode cX8_isOwnSquare 2 = .ok (.iload_n 1, 1) := by decide +kernel
theorem dX8_isOwnSquare_3 : decode cX8_isOwnSquare 3 = .ok (.bipush 81, 2) := by decide +kernel
theorem dX8_isOwnSquare_5 : decode cX8_isOwnSquare 5 = .ok (.invokevirtual 99, 3) := by decide +kernel
theorem dX8_isOwnSquare_8 : decode cX8_isOwnSquare 8 = .ok (.aload_n 0, 1) := by decide +kernel
theorem dX8_isOwnSquare_9 : decode cX8_isOwnSquare 9 = .ok (.iload_n 1, 1) := by decide +kernel
theorem dX8_isOwnSquare_10 : decode cX8_isOwnSquare 10 = .ok (.bipush 81, 2) := by decide +kernel
theorem dX8_isOwnSquare_12 : decode cX8_isOwnSquare 12 = .ok (.invokevirtual 102, 3) := by decide +kernel
theorem dX8_isOwnSquare_15 : decode cX8_isOwnSquare 15 = .ok (.ireturn, 1) := by decide +kernel
set_option maxRecDepth 20000 in
theorem ggX8_part_X8_add : GoodIn wsX8_part wsX8_add := goodIn_r _ [5, 6, 7, 8, 9, 4, 10, 11, 28, 29, 30, 31, 32, 33, 34, 35, 36, 37, 38, 39, 40, 41, 42, 43, 44, 45, 46, 47] (by decide +kernel) (by decide +kernel)
set_option maxRecDepth 20000 in
theorem gX8_part_X8_add : GoodIn wsX8_part (wsV RX8 92 RX8 yX8_add wsX8_add) := goodIn_app (goodIn_of _ (by decide +kernel)) ggX8_part_X8_add
set_option maxRecDepth 20000 in
theorem ggX8_part_X8_operator : GoodIn wsX8_part wsX8_operator := goodIn_r _ [15, 16, 17, 18, 4, 19, 11, 6, 20, 21, 22, 23, 24, 25, 26, 27, 28, 29, 30, 31, 32, 33, 34, 35, 36, 37, 38, 39, 40, 41, 42, 43, 44, 45, 46, 47] (by decide +kernel) (by decide +kernel)
set_option maxRecDepth 20000 in
theorem gX8_part_X8_operator : GoodIn wsX8_part (wsV RX8 106 RX8 yX8_operator wsX8_operator) := goodIn_app (goodIn_of _ (by decide +kernel)) ggX8_part_X8_operator
set_option maxRecDepth 20000 in
theorem ggX8_part_X8_copy : GoodIn wsX8_part wsX8_copy := goodIn_r _ [27, 6, 28, 29, 30, 31, 32, 33, 34, 35, 36, 37, 38, 39, 40, 41, 42, 43, 44, 45, 46, 47] (by decide +kernel) (by decide +kernel)
set_option maxRecDepth 20000 in
theorem gX8_part_X8_copy : GoodIn wsX8_part (wsV RX8 96 RX8 yX8_copy wsX8_copy) := goodIn_app (goodIn_of _ (by decide +kernel)) ggX8_part_X8_copy
theorem dX8_part_0 : decode cX8_part 0 = .ok (.aload_n 0, 1) := by decide +kernel
theorem dX8_part_1 : decode cX8_part 1 = .ok (.bipush 36, 2) := by decide +kernel
theorem dX8_part_3 : decode cX8_part 3 = .ok (.iconst 1, 1) := by decide +kernel
theorem dX8_part_4 : decode cX8_part 4 = .ok (.bipush 90, 2) := by decide +kernel
theorem dX8_part_6 : decode cX8_part 6 = .ok (.iconst (-1), 1) := by decide +kernel
theorem dX8_part_7 : decode cX8_part 7 = .ok (.bipush 99, 2) := by decide +kernel
theorem dX8_part_9 : decode cX8_part 9 = .ok (.invokevirtual 92, 3) := by decide +kernel
theorem dX8_part_12 : decode cX8_part 12 = .ok (.aload_n 0, 1) := by decide +kernel
theorem dX8_part_13 : decode cX8_part 13 = .ok (.iload_n 1, 1) := by decide +kernel
theorem dX8_part_14 : decode cX8_part 14 = .ok (.ifCond .ne 8, 3) := by decide +kernel
theorem dX8_part_17 : decode cX8_part 17 = .ok (.bipush 99, 2) := by decide +kernel
theorem dX8_part_19 : decode cX8_part 19 = .ok (.goto 5, 3) := by decide +kernel
theorem dX8_part_22 : decode cX8_part 22 = .ok (.bipush 90, 2) := by decide +kernel
theorem dX8_part_24 : decode cX8_part 24 = .ok (.bipush 9, 2) := by decide +kernel
theorem dX8_part_26 : decode cX8_part 26 = .ok (.bipush 81, 2) := by decide +kernel
theorem dX8_part_28 : decode cX8_part 28 = .ok (.invokevirtual 106, 3) := by decide +kernel
theorem dX8_part_31 : decode cX8_part 31 = .ok (.iload_n 1, 1) := by decide +kernel
theorem dX8_part_32 : decode cX8_part 32 = .ok (.iconst 1, 1) := by decide +kernel
theorem dX8_part_33 : decode cX8_part 33 = .ok (.if_icmp .ne 45, 3) := by decide +kernel
theorem dX8_part_36 : decode cX8_part 36 = .ok (.aload_n 0, 1) := by decide +kernel
theorem dX8_part_37 : decode cX8_part 37 = .ok (.bipush 81, 2) := by decide +kernel
theorem dX8_part_39 : decode cX8_part 39 = .ok (.bipush 117, 2) := by decide +kernel
theorem dX8_part_41 : decode cX8_part 41 = .ok (.invokevirtual 96, 3) := by decide +kernel
theorem dX8_part_44 : decode cX8_part 44 = .ok (.aload_n 0, 1) := by decide +kernel
theorem dX8_part_45 : decode cX8_part 45 = .ok (.bipush 99, 2) := by decide +kernel
theorem dX8_part_47 : decode cX8_part 47 = .ok (.bipush 9, 2) := by decide +kernel
theorem dX8_part_49 : decode cX8_part 49 = .ok (.bipush 81, 2) := by decide +kernel
theorem dX8_part_51 : decode cX8_part 51 = .ok (.invokevirtual 106, 3) := by decide +kernel
theorem dX8_part_54 : decode cX8_part 54 = .ok (.aload_n 0, 1) := by decide +kernel
theorem dX8_part_55 : decode cX8_part 55 = .ok (.bipush 117, 2) := by decide +kernel
theorem dX8_part_57 : decode cX8_part 57 = .ok (.iconst 1, 1) := by decide +kernel
theorem dX8_part_58 : decode cX8_part 58 = .ok (.bipush 81, 2) := by decide +kernel
theorem dX8_part_60 : decode cX8_part 60 = .ok (.iconst 1, 1) := by decide +kernel
theorem dX8_part_61 : decode cX8_part 61 = .ok (.bipush 117, 2) := by decide +kernel
theorem dX8_part_63 : decode cX8_part 63 = .ok (.invokevirtual 92, 3) := by decide +kernel
theorem dX8_part_66 : decode cX8_part 66 = .ok (.aload_n 0, 1) := by decide +kernel
theorem dX8_part_67 : decode cX8_part 67 = .ok (.bipush 9, 2) := by decide +kernel
theorem dX8_part_69 : decode cX8_part 69 = .ok (.iconst 1, 1) := by decide +kernel
theorem dX8_part_70 : decode cX8_part 70 = .ok (.bipush 117, 2) := by decide +kernel
theorem dX8_part_72 : decode cX8_part 72 = .ok (.iconst (-1), 1) := by decide +kernel
theorem dX8_part_73 : decode cX8_part 73 = .ok (.bipush 81, 2) := by decide +kernel
theorem dX8_part_75 : decode cX8_part 75 = .ok (.invokevirtual 92, 3) := by decide +kernel
theorem dX8_part_78 : decode cX8_part 78 = .ok (.return_, 1) := by decide +kernel
set_option maxRecDepth 20000 in
theorem ggX8_begin_X8_in : GoodIn wsX8_begin wsX8_in := goodIn_r _ [5] (by decide +kernel) (by decide +kernel)
set_option maxRecDepth 20000 in
theorem gX8_begin_X8_in : GoodIn wsX8_begin (va_wsS RX8 49 yX8_in wsX8_in) := goodIn_app (goodIn_of _ (by decide +kernel)) ggX8_begin_X8_in
set_option maxRecDepth 20000 in
theorem ggX8_begin_X8_record : GoodIn wsX8_begin wsX8_record := goodIn_r _ [9, 10, 11, 1, 16, 17, 18, 19, 20, 21, 22, 23, 24, 25, 26, 27, 28, 29, 30, 31, 32, 33, 34, 35] (by decide +kernel) (by decide +kernel)
set_option maxRecDepth 20000 in
theorem gX8_begin_X8_record : GoodIn wsX8_begin (wsV RX8 57 RX8 yX8_record wsX8_record) := goodIn_app (goodIn_of _ (by decide +kernel)) ggX8_begin_X8_record
set_option maxRecDepth 20000 in
theorem ggX8_begin_X8_clear : GoodIn wsX8_begin wsX8_clear := goodIn_r _ [15, 1, 16, 17, 18, 19, 20, 21, 22, 23, 24, 25, 26, 27, 28, 29, 30, 31, 32, 33, 34, 35] (by decide +kernel) (by decide +kernel)
set_option maxRecDepth 20000 in
theorem gX8_begin_X8_clear : GoodIn wsX8_begin (wsV RX8 45 RX8 yX8_clear wsX8_clear) := goodIn_app (goodIn_of _ (by decide +kernel)) ggX8_begin_X8_clear
theorem dX8_begin_0 : decode cX8_begin 0 = .ok (.iload_n 2, 1) := by decide +kernel
theorem dX8_begin_1 : decode cX8_begin 1 = .ok (.iconst 3, 1) := by decide +kernel
theorem dX8_begin_2 : decode cX8_begin 2 = .ok (.if_icmp .eq 20, 3) := by decide +kernel
theorem dX8_begin_5 : decode cX8_begin 5 = .ok (.iload_n 2, 1) := by decide +kernel
theorem dX8_begin_6 : decode cX8_begin 6 = .ok (.iconst 5, 1) := by decide +kernel
theorem dX8_begin_7 : decode cX8_begin 7 = .ok (.if_icmp .eq 15, 3) := by decide +kernel
theorem dX8_begin_10 : decode cX8_begin 10 = .ok (.iload_n 2, 1) := by decide +kernel
theorem dX8_begin_11 : decode cX8_begin 11 = .ok (.bipush 7, 2) := by decide +kernel
theorem dX8_begin_13 : decode cX8_begin 13 = .ok (.if_icmp .eq 9, 3) := by decide +kernel
theorem dX8_begin_16 : decode cX8_begin 16 = .ok (.iload_n 2, 1) := by decide +kernel
theorem dX8_begin_17 : decode cX8_begin 17 = .ok (.bipush 11, 2) := by decide +kernel
theorem dX8_begin_19 : decode cX8_begin 19 = .ok (.if_icmp .ne 7, 3) := by decide +kernel
theorem dX8_begin_22 : decode cX8_begin 22 = .ok (.iconst 1, 1) := by decide +kernel
theorem dX8_begin_23 : decode cX8_begin 23 = .ok (.goto 4, 3) := by decide +kernel
theorem dX8_begin_26 : decode cX8_begin 26 = .ok (.iconst 0, 1) := by decide +kernel
theorem dX8_begin_27 : decode cX8_begin 27 = .ok (.istore_n 3, 1) := by decide +kernel
theorem dX8_begin_28 : decode cX8_begin 28 = .ok (.iload_n 3, 1) := by decide +kernel
theorem dX8_begin_29 : decode cX8_begin 29 = .ok (.ifCond .eq 12, 3) := by decide +kernel
theorem dX8_begin_32 : decode cX8_begin 32 = .ok (.iload_n 1, 1) := by decide +kernel
theorem dX8_begin_33 : decode cX8_begin 33 = .ok (.iconst 2, 1) := by decide +kernel
theorem dX8_begin_34 : decode cX8_begin 34 = .ok (.iconst 3, 1) := by decide +kernel
theorem dX8_begin_35 : decode cX8_begin 35 = .ok (.invokestatic 49, 3) := by decide +kernel
theorem dX8_begin_38 : decode cX8_begin 38 = .ok (.ifCond .ne 6, 3) := by decide +kernel
theorem dX8_begin_41 : decode cX8_begin 41 = .ok (.bipush (-2), 2) := by decide +kernel
theorem dX8_begin_43 : decode cX8_begin 43 = .ok (.ireturn, 1) := by decide +kernel
theorem dX8_begin_44 : decode cX8_begin 44 = .ok (.aload_n 0, 1) := by decide +kernel
theorem dX8_begin_45 : decode cX8_begin 45 = .ok (.invokevirtual 57, 3) := by decide +kernel
theorem dX8_begin_48 : decode cX8_begin 48 = .ok (.aload_n 0, 1) := by decide +kernel
theorem dX8_begin_49 : decode cX8_begin 49 = .ok (.getfield 7, 3) := by decide +kernel
theorem dX8_begin_52 : decode cX8_begin 52 = .ok (.bipush 81, 2) := by decide +kernel
theorem dX8_begin_54 : decode cX8_begin 54 = .ok (.iaload, 1) := by decide +kernel
theorem dX8_begin_55 : decode cX8_begin 55 = .ok (.istore 4, 2) := by decide +kernel
theorem dX8_begin_57 : decode cX8_begin 57 = .ok (.aload_n 0, 1) := by decide +kernel
theorem dX8_begin_58 : decode cX8_begin 58 = .ok (.iload_n 1, 1) := by decide +kernel
theorem dX8_begin_59 : decode cX8_begin 59 = .ok (.iload_n 2, 1) := by decide +kernel
theorem dX8_begin_60 : decode cX8_begin 60 = .ok (.invokevirtual 45, 3) := by decide +kernel
theorem dX8_begin_63 : decode cX8_begin 63 = .ok (.iload 4, 2) := by decide +kernel
theorem dX8_begin_65 : decode cX8_begin 65 = .ok (.ireturn, 1) := by decide +kernel
set_option maxRecDepth 20000 in
theorem ggX8_isCell_X8_in : GoodIn wsX8_isCell wsX8_in := goodIn_r _ [5] (by decide +kernel) (by decide +kernel)
set_option maxRecDepth 20000 in
theorem gX8_isCell_X8_in : GoodIn wsX8_isCell (va_wsS RX8 49 yX8_in wsX8_in) := goodIn_app (goodIn_of _ (by decide +kernel)) ggX8_isCell_X8_in
theorem dX8_isCell_0 : decode cX8_isCell 0 = .ok (.iload_n 1, 1) := by decide +kernel
theorem dX8_isCell_1 : decode cX8_isCell 1 = .ok (.iconst 0, 1) := by decide +kernel
theorem dX8_isCell_2 : decode cX8_isCell 2 = .ok (.aload_n 0, 1) := by decide +kernel
theorem dX8_isCell_3 : decode cX8_isCell 3 = .ok (.getfield 7, 3) := by decide +kernel
theorem dX8_isCell_6 : decode cX8_isCell 6 = .ok (.bipush 81, 2) := by decide +kernel
theorem dX8_isCell_8 : decode cX8_isCell 8 = .ok (.iaload, 1) := by decide +kernel
theorem dX8_isCell_9 : decode cX8_isCell 9 = .ok (.iconst 1, 1) := by decide +kernel
theorem dX8_isCell_10 : decode cX8_isCell 10 = .ok (.isub, 1) := by decide +kernel
theorem dX8_isCell_11 : decode cX8_isCell 11 = .ok (.invokestatic 49, 3) := by decide +kernel
theorem dX8_isCell_14 : decode cX8_isCell 14 = .ok (.ifCond .eq 24, 3) := by decide +kernel
theorem dX8_isCell_17 : decode cX8_isCell 17 = .ok (.iload_n 2, 1) := by decide +kernel
theorem dX8_isCell_18 : decode cX8_isCell 18 = .ok (.iconst 0, 1) := by decide +kernel
theorem dX8_isCell_19 : decode cX8_isCell 19 = .ok (.aload_n 0, 1) := by decide +kernel
theorem dX8_isCell_20 : decode cX8_isCell 20 = .ok (.getfield 7, 3) := by decide +kernel
theorem dX8_isCell_23 : decode cX8_isCell 23 = .ok (.bipush 81, 2) := by decide +kernel
theorem dX8_isCell_25 : decode cX8_isCell 25 = .ok (.iaload, 1) := by decide +kernel
theorem dX8_isCell_26 : decode cX8_isCell 26 = .ok (.iconst 1, 1) := by decide +kernel
theorem dX8_isCell_27 : decode cX8_isCell 27 = .ok (.isub, 1) := by decide +kernel
theorem dX8_isCell_28 : decode cX8_isCell 28 = .ok (.invokestatic 49, 3) := by decide +kernel
theorem dX8_isCell_31 : decode cX8_isCell 31 = .ok (.ifCond .eq 7, 3) := by decide +kernel
theorem dX8_isCell_34 : decode cX8_isCell 34 = .ok (.iconst 1, 1) := by decide +kernel
theorem dX8_isCell_35 : decode cX8_isCell 35 = .ok (.goto 4, 3) := by decide +kernel
theorem dX8_isCell_38 : decode cX8_isCell 38 = .ok (.iconst 0, 1) := by decide +kernel
theorem dX8_isCell_39 : decode cX8_isCell 39 = .ok (.ireturn, 1) := by decide +kernel
set_option maxRecDepth 20000 in
theorem ggX8_set_X8_isRegister : GoodIn wsX8_set wsX8_isRegister := goodIn_r _ [5, 6, 7, 4, 8] (by decide +kernel) (by decide +kernel)
set_option maxRecDepth 20000 in
theorem gX8_set_X8_isRegister : GoodIn wsX8_set (va_wsS RX8 109 yX8_isRegister wsX8_isRegister) := goodIn_app (goodIn_of _ (by decide +kernel)) ggX8_set_X8_isRegister
set_option maxRecDepth 20000 in
theorem ggX8_set_X8_isCell : GoodIn wsX8_set wsX8_isCell := goodIn_r _ [12, 1, 6, 7, 4, 8, 19, 20, 21, 22, 23, 24, 25, 26, 27, 28, 29, 30, 31, 32, 33, 34, 35, 36, 37, 38] (by decide +kernel) (by decide +kernel)
set_option maxRecDepth 20000 in
theorem gX8_set_X8_isCell : GoodIn wsX8_set (wsV RX8 113 RX8 yX8_isCell wsX8_isCell) := goodIn_app (goodIn_of _ (by decide +kernel)) ggX8_set_X8_isCell
set_option maxRecDepth 20000 in
theorem ggX8_set_X8_in : GoodIn wsX8_set wsX8_in := goodIn_r _ [8] (by decide +kernel) (by decide +kernel)
set_option maxRecDepth 20000 in
theorem gX8_set_X8_in : GoodIn wsX8_set (va_wsS RX8 49 yX8_in wsX8_in) := goodIn_app (goodIn_of _ (by decide +kernel)) ggX8_set_X8_in
set_option maxRecDepth 20000 in
theorem ggX8_set_X8_record : GoodIn wsX8_set wsX8_record := goodIn_r _ [16, 17, 18, 1, 19, 20, 21, 22, 23, 24, 25, 26, 27, 28, 29, 30, 31, 32, 33, 34, 35, 36, 37, 38] (by decide +kernel) (by decide +kernel)
set_option maxRecDepth 20000 in
theorem gX8_set_X8_record : GoodIn wsX8_set (wsV RX8 57 RX8 yX8_record wsX8_record) := goodIn_app (goodIn_of _ (by decide +kernel)) ggX8_set_X8_record
theorem dX8_set_0 : decode cX8_set 0 = .ok (.iload_n 1, 1) := by decide +kernel
theorem dX8_set_1 : decode cX8_set 1 = .ok (.invokestatic 109, 3) := by decide +kernel
theorem dX8_set_4 : decode cX8_set 4 = .ok (.ifCond .eq 12, 3) := by decide +kernel
theorem dX8_set_7 : decode cX8_set 7 = .ok (.aload_n 0, 1) := by decide +kernel
theorem dX8_set_8 : decode cX8_set 8 = .ok (.iload_n 2, 1) := by decide +kernel
theorem dX8_set_9 : decode cX8_set 9 = .ok (.iload_n 3, 1) := by decide +kernel
theorem dX8_set_10 : decode cX8_set 10 = .ok (.invokevirtual 113, 3) := by decide +kernel
theorem dX8_set_13 : decode cX8_set 13 = .ok (.ifCond .ne 5, 3) := by decide +kernel
theorem dX8_set_16 : decode cX8_set 16 = .ok (.iconst (-1), 1) := by decide +kernel
theorem dX8_set_17 : decode cX8_set 17 = .ok (.ireturn, 1) := by decide +kernel
theorem dX8_set_18 : decode cX8_set 18 = .ok (.iload 4, 2) := by decide +kernel
theorem dX8_set_20 : decode cX8_set 20 = .ok (.iconst 0, 1) := by decide +kernel
theorem dX8_set_21 : decode cX8_set 21 = .ok (.aload_n 0, 1) := by decide +kernel
theorem dX8_set_22 : decode cX8_set 22 = .ok (.getfield 7, 3) := by decide +kernel
theorem dX8_set_25 : decode cX8_set 25 = .ok (.bipush 82, 2) := by decide +kernel
theorem dX8_set_27 : decode cX8_set 27 = .ok (.iaload, 1) := by decide +kernel
theorem dX8_set_28 : decode cX8_set 28 = .ok (.iconst 1, 1) := by decide +kernel
theorem dX8_set_29 : decode cX8_set 29 = .ok (.isub, 1) := by decide +kernel
theorem dX8_set_30 : decode cX8_set 30 = .ok (.invokestatic 49, 3) := by decide +kernel
theorem dX8_set_33 : decode cX8_set 33 = .ok (.ifCond .ne 6, 3) := by decide +kernel
theorem dX8_set_36 : decode cX8_set 36 = .ok (.bipush (-2), 2) := by decide +kernel
theorem dX8_set_38 : decode cX8_set 38 = .ok (.ireturn, 1) := by decide +kernel
theorem dX8_set_39 : decode cX8_set 39 = .ok (.aload_n 0, 1) := by decide +kernel
theorem dX8_set_40 : decode cX8_set 40 = .ok (.invokevirtual 57, 3) := by decide +kernel
theorem dX8_set_43 : decode cX8_set 43 = .ok (.aload_n 0, 1) := by decide +kernel
theorem dX8_set_44 : decode cX8_set 44 = .ok (.getfield 7, 3) := by decide +kernel
theorem dX8_set_47 : decode cX8_set 47 = .ok (.bipush 9, 2) := by decide +kernel
theorem dX8_set_49 : decode cX8_set 49 = .ok (.iload_n 1, 1) := by decide +kernel
theorem dX8_set_50 : decode cX8_set 50 = .ok (.imul, 1) := by decide +kernel
theorem dX8_set_51 : decode cX8_set 51 = .ok (.iconst 3, 1) := by decide +kernel
theorem dX8_set_52 : decode cX8_set 52 = .ok (.iload_n 2, 1) := by decide +kernel
theorem dX8_set_53 : decode cX8_set 53 = .ok (.imul, 1) := by decide +kernel
theorem dX8_set_54 : decode cX8_set 54 = .ok (.iadd, 1) := by decide +kernel
theorem dX8_set_55 : decode cX8_set 55 = .ok (.iload_n 3, 1) := by decide +kernel
theorem dX8_set_56 : decode cX8_set 56 = .ok (.iadd, 1) := by decide +kernel
theorem dX8_set_57 : decode cX8_set 57 = .ok (.iaload, 1) := by decide +kernel
theorem dX8_set_58 : decode cX8_set 58 = .ok (.istore 5, 2) := by decide +kernel
theorem dX8_set_60 : decode cX8_set 60 = .ok (.aload_n 0, 1) := by decide +kernel
theorem dX8_set_61 : decode cX8_set 61 = .ok (.getfield 7, 3) := by decide +kernel
theorem dX8_set_64 : decode cX8_set 64 = .ok (.bipush 9, 2) := by decide +kernel
theorem dX8_set_66 : decode cX8_set 66 = .ok (.iload_n 1, 1) := by decide +kernel
theorem dX8_set_67 : decode cX8_set 67 = .ok (.imul, 1) := by decide +kernel
theorem dX8_set_68 : decode cX8_set 68 = .ok (.iconst 3, 1) := by decide +kernel
theorem dX8_set_69 : decode cX8_set 69 = .ok (.iload_n 2, 1) := by decide +kernel
theorem dX8_set_70 : decode cX8_set 70 = .ok (.imul, 1) := by decide +kernel
theorem dX8_set_71 : decode cX8_set 71 = .ok (.iadd, 1) := by decide +kernel
theorem dX8_set_72 : decode cX8_set 72 = .ok (.iload_n 3, 1) := by decide +kernel
theorem dX8_set_73 : decode cX8_set 73 = .ok (.iadd, 1) := by decide +kernel
theorem dX8_set_74 : decode cX8_set 74 = .ok (.iload 4, 2) := by decide +kernel
theorem dX8_set_76 : decode cX8_set 76 = .ok (.iastore, 1) := by decide +kernel
theorem dX8_set_77 : decode cX8_set 77 = .ok (.aload_n 0, 1) := by decide +kernel
theorem dX8_set_78 : decode cX8_set 78 = .ok (.getfield 7, 3) := by decide +kernel
theorem dX8_set_81 : decode cX8_set 81 = .ok (.bipush 9, 2) := by decide +kernel
theorem dX8_set_83 : decode cX8_set 83 = .ok (.iload_n 1, 1) := by decide +kernel
theorem dX8_set_84 : decode cX8_set 84 = .ok (.imul, 1) := by decide +kernel
theorem dX8_set_85 : decode cX8_set 85 = .ok (.iconst 3, 1) := by decide +kernel
theorem dX8_set_86 : decode cX8_set 86 = .ok (.iload_n 3, 1) := by decide +kernel
theorem dX8_set_87 : decode cX8_set 87 = .ok (.imul, 1) := by decide +kernel
theorem dX8_set_88 : decode cX8_set 88 = .ok (.iadd, 1) := by decide +kernel
theorem dX8_set_89 : decode cX8_set 89 = .ok (.iload_n 2, 1) := by decide +kernel
theorem dX8_set_90 : decode cX8_set 90 = .ok (.iadd, 1) := by decide +kernel
theorem dX8_set_91 : decode cX8_set 91 = .ok (.iload 4, 2) := by decide +kernel
theorem dX8_set_93 : decode cX8_set 93 = .ok (.iastore, 1) := by decide +kernel
theorem dX8_set_94 : decode cX8_set 94 = .ok (.iload 5, 2) := by decide +kernel
theorem dX8_set_96 : decode cX8_set 96 = .ok (.ireturn, 1) := by decide +kernel
set_option maxRecDepth 20000 in
theorem ggX8_base_X8_isRegister : GoodIn wsX8_base wsX8_isRegister := goodIn_r _ [6, 7, 8, 5, 9] (by decide +kernel) (by decide +kernel)
set_option maxRecDepth 20000 in
theorem gX8_base_X8_isRegister : GoodIn wsX8_base (va_wsS RX8 109 yX8_isRegister wsX8_isRegister) := goodIn_app (goodIn_of _ (by decide +kernel)) ggX8_base_X8_isRegister
set_option maxRecDepth 20000 in
theorem ggX8_base_X8_blank : GoodIn wsX8_base wsX8_blank := goodIn_r _ [13, 2, 32, 33, 34, 35, 36, 37, 38, 39, 40, 41, 42, 43, 44, 45, 46, 47, 48, 49, 50, 51] (by decide +kernel) (by decide +kernel)
set_option maxRecDepth 20000 in
theorem gX8_base_X8_blank : GoodIn wsX8_base (wsV RX8 60 RX8 yX8_blank wsX8_blank) := goodIn_app (goodIn_of _ (by decide +kernel)) ggX8_base_X8_blank
set_option maxRecDepth 20000 in
theorem ggX8_base_X8_determinant : GoodIn wsX8_base wsX8_determinant := goodIn_r _ [17, 1, 2, 18, 19, 20, 5, 21, 22, 23, 24, 25, 32, 33, 34, 35, 36, 37, 38, 39, 40, 41, 42, 43, 44, 45, 46, 47, 48, 49, 50, 51] (by decide +kernel) (by decide +kernel)
set_option maxRecDepth 20000 in
theorem gX8_base_X8_determinant : GoodIn wsX8_base (wsV RX8 72 RX8 yX8_determinant wsX8_determinant) := goodIn_app (goodIn_of _ (by decide +kernel)) ggX8_base_X8_determinant
set_option maxRecDepth 20000 in
theorem ggX8_base_X8_record : GoodIn wsX8_base wsX8_record := goodIn_r _ [29, 30, 31, 1, 32, 33, 34, 35, 36, 37, 38, 39, 40, 41, 42, 43, 44, 45, 46, 47, 48, 49, 50, 51] (by decide +kernel) (by decide +kernel)
set_option maxRecDepth 20000 in
theorem gX8_base_X8_record : GoodIn wsX8_base (wsV RX8 57 RX8 yX8_record wsX8_record) := goodIn_app (goodIn_of _ (by decide +kernel)) ggX8_base_X8_record
theorem dX8_base_0 : decode cX8_base 0 = .ok (.iload_n 1, 1) := by decide +kernel
theorem dX8_base_1 : decode cX8_base 1 = .ok (.bipush (-6), 2) := by decide +kernel
theorem dX8_base_3 : decode cX8_base 3 = .ok (.if_icmp .eq 12, 3) := by decide +kernel
theorem dX8_base_6 : decode cX8_base 6 = .ok (.iload_n 1, 1) := by decide +kernel
theorem dX8_base_7 : decode cX8_base 7 = .ok (.invokestatic 109, 3) := by decide +kernel
theorem dX8_base_10 : decode cX8_base 10 = .ok (.ifCond .ne 5, 3) := by decide +kernel
theorem dX8_base_13 : decode cX8_base 13 = .ok (.iconst (-1), 1) := by decide +kernel
theorem dX8_base_14 : decode cX8_base 14 = .ok (.ireturn, 1) := by decide +kernel
theorem dX8_base_15 : decode cX8_base 15 = .ok (.aload_n 0, 1) := by decide +kernel
theorem dX8_base_16 : decode cX8_base 16 = .ok (.iconst 0, 1) := by decide +kernel
theorem dX8_base_17 : decode cX8_base 17 = .ok (.invokevirtual 60, 3) := by decide +kernel
theorem dX8_base_20 : decode cX8_base 20 = .ok (.iconst 0, 1) := by decide +kernel
theorem dX8_base_21 : decode cX8_base 21 = .ok (.istore_n 2, 1) := by decide +kernel
theorem dX8_base_22 : decode cX8_base 22 = .ok (.iload_n 2, 1) := by decide +kernel
theorem dX8_base_23 : decode cX8_base 23 = .ok (.bipush 9, 2) := by decide +kernel
theorem dX8_base_25 : decode cX8_base 25 = .ok (.if_icmp .ge 71, 3) := by decide +kernel
theorem dX8_base_28 : decode cX8_base 28 = .ok (.iload_n 2, 1) := by decide +kernel
theorem dX8_base_29 : decode cX8_base 29 = .ok (.iconst 4, 1) := by decide +kernel
theorem dX8_base_30 : decode cX8_base 30 = .ok (.irem, 1) := by decide +kernel
theorem dX8_base_31 : decode cX8_base 31 = .ok (.ifCond .ne 20, 3) := by decide +kernel
theorem dX8_base_34 : decode cX8_base 34 = .ok (.iload_n 2, 1) := by decide +kernel
theorem dX8_base_35 : decode cX8_base 35 = .ok (.iconst 4, 1) := by decide +kernel
theorem dX8_base_36 : decode cX8_base 36 = .ok (.idiv, 1) := by decide +kernel
theorem dX8_base_37 : decode cX8_base 37 = .ok (.aload_n 0, 1) := by decide +kernel
theorem dX8_base_38 : decode cX8_base 38 = .ok (.getfield 7, 3) := by decide +kernel
theorem dX8_base_41 : decode cX8_base 41 = .ok (.bipush 81, 2) := by decide +kernel
theorem dX8_base_43 : decode cX8_base 43 = .ok (.iaload, 1) := by decide +kernel
theorem dX8_base_44 : decode cX8_base 44 = .ok (.if_icmp .ge 7, 3) := by decide +kernel
theorem dX8_base_47 : decode cX8_base 47 = .ok (.iconst 1, 1) := by decide +kernel
theorem dX8_base_48 : decode cX8_base 48 = .ok (.goto 4, 3) := by decide +kernel
theorem dX8_base_51 : decode cX8_base 51 = .ok (.iconst 0, 1) := by decide +kernel
theorem dX8_base_52 : decode cX8_base 52 = .ok (.istore_n 3, 1) := by decide +kernel
theorem dX8_base_53 : decode cX8_base 53 = .ok (.aload_n 0, 1) := by decide +kernel
theorem dX8_base_54 : decode cX8_base 54 = .ok (.getfield 27, 3) := by decide +kernel
theorem dX8_base_57 : decode cX8_base 57 = .ok (.iconst 0, 1) := by decide +kernel
theorem dX8_base_58 : decode cX8_base 58 = .ok (.iload_n 2, 1) := by decide +kernel
theorem dX8_base_59 : decode cX8_base 59 = .ok (.iadd, 1) := by decide +kernel
theorem dX8_base_60 : decode cX8_base 60 = .ok (.iload_n 1, 1) := by decide +kernel
theorem dX8_base_61 : decode cX8_base 61 = .ok (.bipush (-6), 2) := by decide +kernel
theorem dX8_base_63 : decode cX8_base 63 = .ok (.if_icmp .eq 17, 3) := by decide +kernel
theorem dX8_base_66 : decode cX8_base 66 = .ok (.aload_n 0, 1) := by decide +kernel
theorem dX8_base_67 : decode cX8_base 67 = .ok (.getfield 7, 3) := by decide +kernel
theorem dX8_base_70 : decode cX8_base 70 = .ok (.bipush 9, 2) := by decide +kernel
theorem dX8_base_72 : decode cX8_base 72 = .ok (.iload_n 1, 1) := by decide +kernel
theorem dX8_base_73 : decode cX8_base 73 = .ok (.imul, 1) := by decide +kernel
theorem dX8_base_74 : decode cX8_base 74 = .ok (.iload_n 2, 1) := by decide +kernel
theorem dX8_base_75 : decode cX8_base 75 = .ok (.iadd, 1) := by decide +kernel
theorem dX8_base_76 : decode cX8_base 76 = .ok (.iaload, 1) := by decide +kernel
theorem dX8_base_77 : decode cX8_base 77 = .ok (.goto 12, 3) := by decide +kernel
theorem dX8_base_80 : decode cX8_base 80 = .ok (.iload_n 3, 1) := by decide +kernel
theorem dX8_base_81 : decode cX8_base 81 = .ok (.ifCond .eq 7, 3) := by decide +kernel
theorem dX8_base_84 : decode cX8_base 84 = .ok (.iconst 1, 1) := by decide +kernel
theorem dX8_base_85 : decode cX8_base 85 = .ok (.goto 4, 3) := by decide +kernel
theorem dX8_base_88 : decode cX8_base 88 = .ok (.iconst 0, 1) := by decide +kernel
theorem dX8_base_89 : decode cX8_base 89 = .ok (.iastore, 1) := by decide +kernel
theorem dX8_base_90 : decode cX8_base 90 = .ok (.iinc 2 1, 3) := by decide +kernel
theorem dX8_base_93 : decode cX8_base 93 = .ok (.goto (-71), 3) := by decide +kernel
theorem dX8_base_96 : decode cX8_base 96 = .ok (.aload_n 0, 1) := by decide +kernel
theorem dX8_base_97 : decode cX8_base 97 = .ok (.iconst 0, 1) := by decide +kernel
theorem dX8_base_98 : decode cX8_base 98 = .ok (.invokevirtual 72, 3) := by decide +kernel
theorem dX8_base_101 : decode cX8_base 101 = .ok (.istore_n 2, 1) := by decide +kernel
theorem dX8_base_102 : decode cX8_base 102 = .ok (.iload_n 2, 1) := by decide +kernel
theorem dX8_base_103 : decode cX8_base 103 = .ok (.ifCond .ne 6, 3) := by decide +kernel
theorem dX8_base_106 : decode cX8_base 106 = .ok (.bipush (-5), 2) := by decide +kernel
theorem dX8_base_108 : decode cX8_base 108 = .ok (.ireturn, 1) := by decide +kernel
theorem dX8_base_109 : decode cX8_base 109 = .ok (.aload_n 0, 1) := by decide +kernel
theorem dX8_base_110 : decode cX8_base 110 = .ok (.invokevirtual 57, 3) := by decide +kernel
theorem dX8_base_113 : decode cX8_base 113 = .ok (.iconst 0, 1) := by decide +kernel
theorem dX8_base_114 : decode cX8_base 114 = .ok (.istore_n 3, 1) := by decide +kernel
theorem dX8_base_115 : decode cX8_base 115 = .ok (.iload_n 3, 1) := by decide +kernel
theorem dX8_base_116 : decode cX8_base 116 = .ok (.bipush 9, 2) := by decide +kernel
theorem dX8_base_118 : decode cX8_base 118 = .ok (.if_icmp .ge 26, 3) := by decide +kernel
theorem dX8_base_121 : decode cX8_base 121 = .ok (.aload_n 0, 1) := by decide +kernel
theorem dX8_base_122 : decode cX8_base 122 = .ok (.getfield 7, 3) := by decide +kernel
theorem dX8_base_125 : decode cX8_base 125 = .ok (.bipush 72, 2) := by decide +kernel
theorem dX8_base_127 : decode cX8_base 127 = .ok (.iload_n 3, 1) := by decide +kernel
theorem dX8_base_128 : decode cX8_base 128 = .ok (.iadd, 1) := by decide +kernel
theorem dX8_base_129 : decode cX8_base 129 = .ok (.aload_n 0, 1) := by decide +kernel
theorem dX8_base_130 : decode cX8_base 130 = .ok (.getfield 27, 3) := by decide +kernel
theorem dX8_base_133 : decode cX8_base 133 = .ok (.iconst 0, 1) := by decide +kernel
theorem dX8_base_134 : decode cX8_base 134 = .ok (.iload_n 3, 1) := by decide +kernel
theorem dX8_base_135 : decode cX8_base 135 = .ok (.iadd, 1) := by decide +kernel
theorem dX8_base_136 : decode cX8_base 136 = .ok (.iaload, 1) := by decide +kernel
theorem dX8_base_137 : decode cX8_base 137 = .ok (.iastore, 1) := by decide +kernel
theorem dX8_base_138 : decode cX8_base 138 = .ok (.iinc 3 1, 3) := by decide +kernel
theorem dX8_base_141 : decode cX8_base 141 = .ok (.goto (-26), 3) := by decide +kernel
theorem dX8_base_144 : decode cX8_base 144 = .ok (.iload_n 2, 1) := by decide +kernel
theorem dX8_base_145 : decode cX8_base 145 = .ok (.ireturn, 1) := by decide +kernel
set_option maxRecDepth 20000 in
theorem ggX8_split_X8_isRegister : GoodIn wsX8_split wsX8_isRegister := goodIn_r _ [4, 5, 6, 3, 7] (by decide +kernel) (by decide +kernel)
set_option maxRecDepth 20000 in
theorem gX8_split_X8_isRegister : GoodIn wsX8_split (va_wsS RX8 109 yX8_isRegister wsX8_isRegister) := goodIn_app (goodIn_of _ (by decide +kernel)) ggX8_split_X8_isRegister
set_option maxRecDepth 20000 in
theorem ggX8_split_X8_in : GoodIn wsX8_split wsX8_in := goodIn_r _ [7] (by decide +kernel) (by decide +kernel)
set_option maxRecDepth 20000 in
theorem gX8_split_X8_in : GoodIn wsX8_split (va_wsS RX8 49 yX8_in wsX8_in) := goodIn_app (goodIn_of _ (by decide +kernel)) ggX8_split_X8_in
set_option maxRecDepth 20000 in
theorem ggX8_split_X8_load : GoodIn wsX8_split wsX8_load := goodIn_r _ [11, 12, 13, 14, 15, 16, 3, 17, 18, 19, 20, 21, 22, 23, 24, 25, 26, 27, 28, 29, 30, 31, 32, 33, 34, 35, 36, 37, 38, 39, 40, 41, 92, 93, 94, 95, 96, 97, 98, 99, 100, 101, 102, 103, 104, 105, 106, 107, 108, 109, 110, 111] (by decide +kernel) (by decide +kernel)
set_option maxRecDepth 20000 in
theorem gX8_split_X8_load : GoodIn wsX8_split (wsV RX8 116 RX8 yX8_load wsX8_load) := goodIn_app (goodIn_of _ (by decide +kernel)) ggX8_split_X8_load
set_option maxRecDepth 20000 in
theorem ggX8_split_X8_isOwnSquare : GoodIn wsX8_split wsX8_isOwnSquare := goodIn_r _ [45, 46, 47, 48, 3, 49, 50, 51, 52, 53, 13, 12, 38, 39, 40, 41, 54, 55, 56, 57, 58, 59, 60, 61, 26, 27, 28, 29, 62, 63, 64, 65, 92, 93, 94, 95, 96, 97, 98, 99, 100, 101, 102, 103, 104, 105, 106, 107, 108, 109, 110, 111] (by decide +kernel) (by decide +kernel)
set_option maxRecDepth 20000 in
theorem gX8_split_X8_isOwnSquare : GoodIn wsX8_split (wsV RX8 119 RX8 yX8_isOwnSquare wsX8_isOwnSquare) := goodIn_app (goodIn_of _ (by decide +kernel)) ggX8_split_X8_isOwnSquare
set_option maxRecDepth 20000 in
theorem ggX8_split_X8_record : GoodIn wsX8_split wsX8_record := goodIn_r _ [69, 70, 71, 13, 92, 93, 94, 95, 96, 97, 98, 99, 100, 101, 102, 103, 104, 105, 106, 107, 108, 109, 110, 111] (by decide +kernel) (by decide +kernel)
set_option maxRecDepth 20000 in
theorem gX8_split_X8_record : GoodIn wsX8_split (wsV RX8 57 RX8 yX8_record wsX8_record) := goodIn_app (goodIn_of _ (by decide +kernel)) ggX8_split_X8_record
set_option maxRecDepth 20000 in
theorem ggX8_split_X8_part : GoodIn wsX8_split wsX8_part := goodIn_r _ [75, 58, 59, 60, 3, 61, 12, 26, 27, 28, 29, 13, 76, 77, 78, 79, 50, 51, 52, 53, 38, 39, 40, 41, 80, 81, 82, 83, 92, 93, 94, 95, 96, 97, 98, 99, 100, 101, 102, 103, 104, 105, 106, 107, 108, 109, 110, 111] (by decide +kernel) (by decide +kernel)
set_option maxRecDepth 20000 in
theorem gX8_split_X8_part : GoodIn wsX8_split (wsV RX8 122 RX8 yX8_part wsX8_part) := goodIn_app (goodIn_of _ (by decide +kernel)) ggX8_split_X8_part
set_option maxRecDepth 20000 in
theorem ggX8_split_X8_store : GoodIn wsX8_split wsX8_store := goodIn_r _ [87, 13, 12, 92, 93, 94, 95, 96, 97, 98, 99, 100, 101, 102, 103, 104, 105, 106, 107, 108, 109, 110, 111] (by decide +kernel) (by decide +kernel)
set_option maxRecDepth 20000 in
theorem gX8_split_X8_store : GoodIn wsX8_split (wsV RX8 125 RX8 yX8_store wsX8_store) := goodIn_app (goodIn_of _ (by decide +kernel)) ggX8_split_X8_store
set_option maxRecDepth 20000 in
theorem ggX8_split_X8_isNothing : GoodIn wsX8_split wsX8_isNothing := goodIn_r _ [91, 12, 92, 93, 94, 95, 96, 97, 98, 99, 100, 101, 102, 103, 104, 105, 106, 107, 108, 109, 110, 111] (by decide +kernel) (by decide +kernel)
set_option maxRecDepth 20000 in
theorem gX8_split_X8_isNothing : GoodIn wsX8_split (wsV RX8 128 RX8 yX8_isNothing wsX8_isNothing) := goodIn_app (goodIn_of _ (by decide +kernel)) ggX8_split_X8_isNothing
theorem dX8_split_0 : decode cX8_split 0 = .ok (.iload_n 1, 1) := by decide +kernel
theorem dX8_split_1 : decode cX8_split 1 = .ok (.invokestatic 109, 3) := by decide +kernel
theorem dX8_split_4 : decode cX8_split 4 = .ok (.ifCond .eq 19, 3) := by decide +kernel
theorem dX8_split_7 : decode cX8_split 7 = .ok (.iload_n 2, 1) := by decide +kernel
theorem dX8_split_8 : decode cX8_split 8 = .ok (.invokestatic 109, 3) := by decide +kernel
theorem dX8_split_11 : decode cX8_split 11 = .ok (.ifCond .eq 12, 3) := by decide +kernel
theorem dX8_split_14 : decode cX8_split 14 = .ok (.iload_n 3, 1) := by decide +kernel
theorem dX8_split_15 : decode cX8_split 15 = .ok (.iconst 0, 1) := by decide +kernel
theorem dX8_split_16 : decode cX8_split 16 = .ok (.iconst 5, 1) := by decide +kernel
theorem dX8_split_17 : decode cX8_split 17 = .ok (.invokestatic 49, 3) := by decide +kernel
theorem dX8_split_20 : decode cX8_split 20 = .ok (.ifCond .ne 5, 3) := by decide +kernel
theorem dX8_split_23 : decode cX8_split 23 = .ok (.iconst (-1), 1) := by decide +kernel
theorem dX8_split_24 : decode cX8_split 24 = .ok (.ireturn, 1) := by decide +kernel
theorem dX8_split_25 : decode cX8_split 25 = .ok (.aload_n 0, 1) := by decide +kernel
theorem dX8_split_26 : decode cX8_split 26 = .ok (.iload_n 1, 1) := by decide +kernel
theorem dX8_split_27 : decode cX8_split 27 = .ok (.bipush 90, 2) := by decide +kernel
theorem dX8_split_29 : decode cX8_split 29 = .ok (.invokevirtual 116, 3) := by decide +kernel
theorem dX8_split_32 : decode cX8_split 32 = .ok (.aload_n 0, 1) := by decide +kernel
theorem dX8_split_33 : decode cX8_split 33 = .ok (.iload_n 2, 1) := by decide +kernel
theorem dX8_split_34 : decode cX8_split 34 = .ok (.bipush 9, 2) := by decide +kernel
theorem dX8_split_36 : decode cX8_split 36 = .ok (.invokevirtual 116, 3) := by decide +kernel
theorem dX8_split_39 : decode cX8_split 39 = .ok (.aload_n 0, 1) := by decide +kernel
theorem dX8_split_40 : decode cX8_split 40 = .ok (.bipush 90, 2) := by decide +kernel
theorem dX8_split_42 : decode cX8_split 42 = .ok (.invokevirtual 119, 3) := by decide +kernel
theorem dX8_split_45 : decode cX8_split 45 = .ok (.ifCond .ne 6, 3) := by decide +kernel
theorem dX8_split_48 : decode cX8_split 48 = .ok (.bipush (-5), 2) := by decide +kernel
theorem dX8_split_50 : decode cX8_split 50 = .ok (.ireturn, 1) := by decide +kernel
theorem dX8_split_51 : decode cX8_split 51 = .ok (.aload_n 0, 1) := by decide +kernel
theorem dX8_split_52 : decode cX8_split 52 = .ok (.invokevirtual 57, 3) := by decide +kernel
theorem dX8_split_55 : decode cX8_split 55 = .ok (.iconst 0, 1) := by decide +kernel
theorem dX8_split_56 : decode cX8_split 56 = .ok (.istore 4, 2) := by decide +kernel
theorem dX8_split_58 : decode cX8_split 58 = .ok (.iconst 2, 1) := by decide +kernel
theorem dX8_split_59 : decode cX8_split 59 = .ok (.istore 5, 2) := by decide +kernel
theorem dX8_split_61 : decode cX8_split 61 = .ok (.iload 5, 2) := by decide +kernel
theorem dX8_split_63 : decode cX8_split 63 = .ok (.ifCond .lt 46, 3) := by decide +kernel
theorem dX8_split_66 : decode cX8_split 66 = .ok (.aload_n 0, 1) := by decide +kernel
theorem dX8_split_67 : decode cX8_split 67 = .ok (.iload 5, 2) := by decide +kernel
theorem dX8_split_69 : decode cX8_split 69 = .ok (.invokevirtual 122, 3) := by decide +kernel
theorem dX8_split_72 : decode cX8_split 72 = .ok (.aload_n 0, 1) := by decide +kernel
theorem dX8_split_73 : decode cX8_split 73 = .ok (.bipush 81, 2) := by decide +kernel
theorem dX8_split_75 : decode cX8_split 75 = .ok (.iload_n 3, 1) := by decide +kernel
theorem dX8_split_76 : decode cX8_split 76 = .ok (.iconst 2, 1) := by decide +kernel
theorem dX8_split_77 : decode cX8_split 77 = .ok (.iadd, 1) := by decide +kernel
theorem dX8_split_78 : decode cX8_split 78 = .ok (.iload 5, 2) := by decide +kernel
theorem dX8_split_80 : decode cX8_split 80 = .ok (.isub, 1) := by decide +kernel
theorem dX8_split_81 : decode cX8_split 81 = .ok (.invokevirtual 125, 3) := by decide +kernel
theorem dX8_split_84 : decode cX8_split 84 = .ok (.iload 4, 2) := by decide +kernel
theorem dX8_split_86 : decode cX8_split 86 = .ok (.aload_n 0, 1) := by decide +kernel
theorem dX8_split_87 : decode cX8_split 87 = .ok (.bipush 81, 2) := by decide +kernel
theorem dX8_split_89 : decode cX8_split 89 = .ok (.invokevirtual 128, 3) := by decide +kernel
theorem dX8_split_92 : decode cX8_split 92 = .ok (.ifCond .eq 7, 3) := by decide +kernel
theorem dX8_split_95 : decode cX8_split 95 = .ok (.iconst 0, 1) := by decide +kernel
theorem dX8_split_96 : decode cX8_split 96 = .ok (.goto 4, 3) := by decide +kernel
theorem dX8_split_99 : decode cX8_split 99 = .ok (.iconst 1, 1) := by decide +kernel
theorem dX8_split_100 : decode cX8_split 100 = .ok (.iadd, 1) := by decide +kernel
theorem dX8_split_101 : decode cX8_split 101 = .ok (.istore 4, 2) := by decide +kernel
theorem dX8_split_103 : decode cX8_split 103 = .ok (.iinc 5 (-1), 3) := by decide +kernel
theorem dX8_split_106 : decode cX8_split 106 = .ok (.goto (-45), 3) := by decide +kernel
theorem dX8_split_109 : decode cX8_split 109 = .ok (.iload 4, 2) := by decide +kernel
theorem dX8_split_111 : decode cX8_split 111 = .ok (.ireturn, 1) := by decide +kernel
set_option maxRecDepth 20000 in
theorem ggX8_entry_X8_in : GoodIn wsX8_entry wsX8_in := goodIn_r _ [5] (by decide +kernel) (by decide +kernel)
set_option maxRecDepth 20000 in
theorem gX8_entry_X8_in : GoodIn wsX8_entry (va_wsS RX8 49 yX8_in wsX8_in) := goodIn_app (goodIn_of _ (by decide +kernel)) ggX8_entry_X8_in
set_option maxRecDepth 20000 in
theorem ggX8_entry_X8_isCell : GoodIn wsX8_entry wsX8_isCell := goodIn_r _ [9, 10, 2, 3, 4, 5, 43, 44, 45, 46, 47, 48, 49, 50, 51, 52, 53, 54, 55, 56, 57, 58, 59, 60, 61, 62] (by decide +kernel) (by decide +kernel)
set_option maxRecDepth 20000 in
theorem gX8_entry_X8_isCell : GoodIn wsX8_entry (wsV RX8 113 RX8 yX8_isCell wsX8_isCell) := goodIn_app (goodIn_of _ (by decide +kernel)) ggX8_entry_X8_isCell
set_option maxRecDepth 20000 in
theorem ggX8_entry_X8_load : GoodIn wsX8_entry wsX8_load := goodIn_r _ [14, 1, 10, 15, 16, 17, 4, 18, 19, 20, 21, 22, 23, 24, 25, 26, 27, 28, 29, 30, 31, 32, 33, 34, 35, 36, 37, 38, 39, 40, 41, 42, 43, 44, 45, 46, 47, 48, 49, 50, 51, 52, 53, 54, 55, 56, 57, 58, 59, 60, 61, 62] (by decide +kernel) (by decide +kernel)
set_option maxRecDepth 20000 in
theorem gX8_entry_X8_load : GoodIn wsX8_entry (wsV RX8 116 RX8 yX8_load wsX8_load) := goodIn_app (goodIn_of _ (by decide +kernel)) ggX8_entry_X8_load
theorem dX8_entry_0 : decode cX8_entry 0 = .ok (.iload_n 1, 1) := by decide +kernel
theorem dX8_entry_1 : decode cX8_entry 1 = .ok (.iconst 0, 1) := by decide +kernel
theorem dX8_entry_2 : decode cX8_entry 2 = .ok (.bipush 9, 2) := by decide +kernel
theorem dX8_entry_4 : decode cX8_entry 4 = .ok (.invokestatic 49, 3) := by decide +kernel
theorem dX8_entry_7 : decode cX8_entry 7 = .ok (.ifCond .eq 12, 3) := by decide +kernel
theorem dX8_entry_10 : decode cX8_entry 10 = .ok (.aload_n 0, 1) := by decide +kernel
theorem dX8_entry_11 : decode cX8_entry 11 = .ok (.iload_n 2, 1) := by decide +kernel
theorem dX8_entry_12 : decode cX8_entry 12 = .ok (.iload_n 3, 1) := by decide +kernel
theorem dX8_entry_13 : decode cX8_entry 13 = .ok (.invokevirtual 113, 3) := by decide +kernel
theorem dX8_entry_16 : decode cX8_entry 16 = .ok (.ifCond .ne 5, 3) := by decide +kernel
theorem dX8_entry_19 : decode cX8_entry 19 = .ok (.iconst (-1), 1) := by decide +kernel
theorem dX8_entry_20 : decode cX8_entry 20 = .ok (.ireturn, 1) := by decide +kernel
theorem dX8_entry_21 : decode cX8_entry 21 = .ok (.aload_n 0, 1) := by decide +kernel
theorem dX8_entry_22 : decode cX8_entry 22 = .ok (.iload_n 1, 1) := by decide +kernel
theorem dX8_entry_23 : decode cX8_entry 23 = .ok (.iconst 0, 1) := by decide +kernel
theorem dX8_entry_24 : decode cX8_entry 24 = .ok (.invokevirtual 116, 3) := by decide +kernel
theorem dX8_entry_27 : decode cX8_entry 27 = .ok (.aload_n 0, 1) := by decide +kernel
theorem dX8_entry_28 : decode cX8_entry 28 = .ok (.getfield 27, 3) := by decide +kernel
theorem dX8_entry_31 : decode cX8_entry 31 = .ok (.iconst 0, 1) := by decide +kernel
theorem dX8_entry_32 : decode cX8_entry 32 = .ok (.iconst 3, 1) := by decide +kernel
theorem dX8_entry_33 : decode cX8_entry 33 = .ok (.iload_n 2, 1) := by decide +kernel
theorem dX8_entry_34 : decode cX8_entry 34 = .ok (.imul, 1) := by decide +kernel
theorem dX8_entry_35 : decode cX8_entry 35 = .ok (.iadd, 1) := by decide +kernel
theorem dX8_entry_36 : decode cX8_entry 36 = .ok (.iload_n 3, 1) := by decide +kernel
theorem dX8_entry_37 : decode cX8_entry 37 = .ok (.iadd, 1) := by decide +kernel
theorem dX8_entry_38 : decode cX8_entry 38 = .ok (.iaload, 1) := by decide +kernel
theorem dX8_entry_39 : decode cX8_entry 39 = .ok (.ireturn, 1) := by decide +kernel
set_option maxRecDepth 20000 in
theorem ggX8_isNew_X8_leadOf : GoodIn wsX8_isNew wsX8_leadOf := goodIn_r _ [9, 2, 18, 19, 20, 21, 22, 23, 24, 25, 26, 27, 28, 29, 30, 31, 32, 33, 34, 35, 36, 37] (by decide +kernel) (by decide +kernel)
set_option maxRecDepth 20000 in
theorem gX8_isNew_X8_leadOf : GoodIn wsX8_isNew (wsV RX8 134 RX8 yX8_leadOf wsX8_leadOf) := goodIn_app (goodIn_of _ (by decide +kernel)) ggX8_isNew_X8_leadOf
set_option maxRecDepth 20000 in
theorem ggX8_isNew_X8_over : GoodIn wsX8_isNew wsX8_over := goodIn_r _ [13, 4, 18, 19, 20, 21, 22, 23, 24, 25, 26, 27, 28, 29, 30, 31, 32, 33, 34, 35, 36, 37] (by decide +kernel) (by decide +kernel)
set_option maxRecDepth 20000 in
theorem gX8_isNew_X8_over : GoodIn wsX8_isNew (wsV RX8 75 RX8 yX8_over wsX8_over) := goodIn_app (goodIn_of _ (by decide +kernel)) ggX8_isNew_X8_over
set_option maxRecDepth 20000 in
theorem ggX8_isNew_X8_within : GoodIn wsX8_isNew wsX8_within := goodIn_r _ [17, 4, 18, 19, 20, 21, 22, 23, 24, 25, 26, 27, 28, 29, 30, 31, 32, 33, 34, 35, 36, 37] (by decide +kernel) (by decide +kernel)
set_option maxRecDepth 20000 in
theorem gX8_isNew_X8_within : GoodIn wsX8_isNew (wsV RX8 64 RX8 yX8_within wsX8_within) := goodIn_app (goodIn_of _ (by decide +kernel)) ggX8_isNew_X8_within
theorem dX8_isNew_0 : decode cX8_isNew 0 = .ok (.bipush 9, 2) := by decide +kernel
theorem dX8_isNew_2 : decode cX8_isNew 2 = .ok (.aload_n 0, 1) := by decide +kernel
theorem dX8_isNew_3 : decode cX8_isNew 3 = .ok (.getfield 131, 3) := by decide +kernel
theorem dX8_isNew_6 : decode cX8_isNew 6 = .ok (.imul, 1) := by decide +kernel
theorem dX8_isNew_7 : decode cX8_isNew 7 = .ok (.istore_n 2, 1) := by decide +kernel
theorem dX8_isNew_8 : decode cX8_isNew 8 = .ok (.iconst 0, 1) := by decide +kernel
theorem dX8_isNew_9 : decode cX8_isNew 9 = .ok (.istore_n 3, 1) := by decide +kernel
theorem dX8_isNew_10 : decode cX8_isNew 10 = .ok (.iload_n 3, 1) := by decide +kernel
theorem dX8_isNew_11 : decode cX8_isNew 11 = .ok (.bipush 9, 2) := by decide +kernel
theorem dX8_isNew_13 : decode cX8_isNew 13 = .ok (.if_icmp .ge 25, 3) := by decide +kernel
theorem dX8_isNew_16 : decode cX8_isNew 16 = .ok (.aload_n 0, 1) := by decide +kernel
theorem dX8_isNew_17 : decode cX8_isNew 17 = .ok (.getfield 30, 3) := by decide +kernel
theorem dX8_isNew_20 : decode cX8_isNew 20 = .ok (.iload_n 2, 1) := by decide +kernel
theorem dX8_isNew_21 : decode cX8_isNew 21 = .ok (.iload_n 3, 1) := by decide +kernel
theorem dX8_isNew_22 : decode cX8_isNew 22 = .ok (.iadd, 1) := by decide +kernel
theorem dX8_isNew_23 : decode cX8_isNew 23 = .ok (.aload_n 0, 1) := by decide +kernel
theorem dX8_isNew_24 : decode cX8_isNew 24 = .ok (.getfield 27, 3) := by decide +kernel
theorem dX8_isNew_27 : decode cX8_isNew 27 = .ok (.iload_n 1, 1) := by decide +kernel
theorem dX8_isNew_28 : decode cX8_isNew 28 = .ok (.iload_n 3, 1) := by decide +kernel
theorem dX8_isNew_29 : decode cX8_isNew 29 = .ok (.iadd, 1) := by decide +kernel
theorem dX8_isNew_30 : decode cX8_isNew 30 = .ok (.iaload, 1) := by decide +kernel
theorem dX8_isNew_31 : decode cX8_isNew 31 = .ok (.iastore, 1) := by decide +kernel
theorem dX8_isNew_32 : decode cX8_isNew 32 = .ok (.iinc 3 1, 3) := by decide +kernel
theorem dX8_isNew_35 : decode cX8_isNew 35 = .ok (.goto (-25), 3) := by decide +kernel
theorem dX8_isNew_38 : decode cX8_isNew 38 = .ok (.iconst 0, 1) := by decide +kernel
theorem dX8_isNew_39 : decode cX8_isNew 39 = .ok (.istore_n 3, 1) := by decide +kernel
theorem dX8_isNew_40 : decode cX8_isNew 40 = .ok (.iload_n 3, 1) := by decide +kernel
theorem dX8_isNew_41 : decode cX8_isNew 41 = .ok (.aload_n 0, 1) := by decide +kernel
theorem dX8_isNew_42 : decode cX8_isNew 42 = .ok (.getfield 131, 3) := by decide +kernel
theorem dX8_isNew_45 : decode cX8_isNew 45 = .ok (.if_icmp .ge 109, 3) := by decide +kernel
theorem dX8_isNew_48 : decode cX8_isNew 48 = .ok (.aload_n 0, 1) := by decide +kernel
theorem dX8_isNew_49 : decode cX8_isNew 49 = .ok (.bipush 9, 2) := by decide +kernel
theorem dX8_isNew_51 : decode cX8_isNew 51 = .ok (.iload_n 3, 1) := by decide +kernel
theorem dX8_isNew_52 : decode cX8_isNew 52 = .ok (.imul, 1) := by decide +kernel
theorem dX8_isNew_53 : decode cX8_isNew 53 = .ok (.invokevirtual 134, 3) := by decide +kernel
theorem dX8_isNew_56 : decode cX8_isNew 56 = .ok (.istore 4, 2) := by decide +kernel
theorem dX8_isNew_58 : decode cX8_isNew 58 = .ok (.aload_n 0, 1) := by decide +kernel
theorem dX8_isNew_59 : decode cX8_isNew 59 = .ok (.getfield 30, 3) := by decide +kernel
theorem dX8_isNew_62 : decode cX8_isNew 62 = .ok (.iload_n 2, 1) := by decide +kernel
theorem dX8_isNew_63 : decode cX8_isNew 63 = .ok (.iload 4, 2) := by decide +kernel
theorem dX8_isNew_65 : decode cX8_isNew 65 = .ok (.iadd, 1) := by decide +kernel
theorem dX8_isNew_66 : decode cX8_isNew 66 = .ok (.iaload, 1) := by decide +kernel
theorem dX8_isNew_67 : decode cX8_isNew 67 = .ok (.aload_n 0, 1) := by decide +kernel
theorem dX8_isNew_68 : decode cX8_isNew 68 = .ok (.aload_n 0, 1) := by decide +kernel
theorem dX8_isNew_69 : decode cX8_isNew 69 = .ok (.getfield 30, 3) := by decide +kernel
theorem dX8_isNew_72 : decode cX8_isNew 72 = .ok (.bipush 9, 2) := by decide +kernel
theorem dX8_isNew_74 : decode cX8_isNew 74 = .ok (.iload_n 3, 1) := by decide +kernel
theorem dX8_isNew_75 : decode cX8_isNew 75 = .ok (.imul, 1) := by decide +kernel
theorem dX8_isNew_76 : decode cX8_isNew 76 = .ok (.iload 4, 2) := by decide +kernel
theorem dX8_isNew_78 : decode cX8_isNew 78 = .ok (.iadd, 1) := by decide +kernel
theorem dX8_isNew_79 : decode cX8_isNew 79 = .ok (.iaload, 1) := by decide +kernel
theorem dX8_isNew_80 : decode cX8_isNew 80 = .ok (.invokevirtual 75, 3) := by decide +kernel
theorem dX8_isNew_83 : decode cX8_isNew 83 = .ok (.imul, 1) := by decide +kernel
theorem dX8_isNew_84 : decode cX8_isNew 84 = .ok (.aload_n 0, 1) := by decide +kernel
theorem dX8_isNew_85 : decode cX8_isNew 85 = .ok (.getfield 7, 3) := by decide +kernel
theorem dX8_isNew_88 : decode cX8_isNew 88 = .ok (.bipush 82, 2) := by decide +kernel
theorem dX8_isNew_90 : decode cX8_isNew 90 = .ok (.iaload, 1) := by decide +kernel
theorem dX8_isNew_91 : decode cX8_isNew 91 = .ok (.irem, 1) := by decide +kernel
theorem dX8_isNew_92 : decode cX8_isNew 92 = .ok (.istore 5, 2) := by decide +kernel
theorem dX8_isNew_94 : decode cX8_isNew 94 = .ok (.iconst 0, 1) := by decide +kernel
theorem dX8_isNew_95 : decode cX8_isNew 95 = .ok (.istore 6, 2) := by decide +kernel
theorem dX8_isNew_97 : decode cX8_isNew 97 = .ok (.iload 6, 2) := by decide +kernel
theorem dX8_isNew_99 : decode cX8_isNew 99 = .ok (.bipush 9, 2) := by decide +kernel
theorem dX8_isNew_101 : decode cX8_isNew 101 = .ok (.if_icmp .ge 47, 3) := by decide +kernel
theorem dX8_isNew_104 : decode cX8_isNew 104 = .ok (.aload_n 0, 1) := by decide +kernel
theorem dX8_isNew_105 : decode cX8_isNew 105 = .ok (.getfield 30, 3) := by decide +kernel
theorem dX8_isNew_108 : decode cX8_isNew 108 = .ok (.iload_n 2, 1) := by decide +kernel
theorem dX8_isNew_109 : decode cX8_isNew 109 = .ok (.iload 6, 2) := by decide +kernel
theorem dX8_isNew_111 : decode cX8_isNew 111 = .ok (.iadd, 1) := by decide +kernel
theorem dX8_isNew_112 : decode cX8_isNew 112 = .ok (.aload_n 0, 1) := by decide +kernel
theorem dX8_isNew_113 : decode cX8_isNew 113 = .ok (.aload_n 0, 1) := by decide +kernel
theorem dX8_isNew_114 : decode cX8_isNew 114 = .ok (.getfield 30, 3) := by decide +kernel
theorem dX8_isNew_117 : decode cX8_isNew 117 = .ok (.iload_n 2, 1) := by decide +kernel
theorem dX8_isNew_118 : decode cX8_isNew 118 = .ok (.iload 6, 2) := by decide +kernel
theorem dX8_isNew_120 : decode cX8_isNew 120 = .ok (.iadd, 1) := by decide +kernel
theorem dX8_isNew_121 : decode cX8_isNew 121 = .ok (.iaload, 1) := by decide +kernel
theorem dX8_isNew_122 : decode cX8_isNew 122 = .ok (.iload 5, 2) := by decide +kernel
theorem dX8_isNew_124 : decode cX8_isNew 124 = .ok (.aload_n 0, 1) := by decide +kernel
theorem dX8_isNew_125 : decode cX8_isNew 125 = .ok (.getfield 30, 3) := by decide +kernel
theorem dX8_isNew_128 : decode cX8_isNew 128 = .ok (.bipush 9, 2) := by decide +kernel
theorem dX8_isNew_130 : decode cX8_isNew 130 = .ok (.iload_n 3, 1) := by decide +kernel
theorem dX8_isNew_131 : decode cX8_isNew 131 = .ok (.imul, 1) := by decide +kernel
theorem dX8_isNew_132 : decode cX8_isNew 132 = .ok (.iload 6, 2) := by decide +kernel
theorem dX8_isNew_134 : decode cX8_isNew 134 = .ok (.iadd, 1) := by decide +kernel
theorem dX8_isNew_135 : decode cX8_isNew 135 = .ok (.iaload, 1) := by decide +kernel
theorem dX8_isNew_136 : decode cX8_isNew 136 = .ok (.imul, 1) := by decide +kernel
theorem dX8_isNew_137 : decode cX8_isNew 137 = .ok (.isub, 1) := by decide +kernel
theorem dX8_isNew_138 : decode cX8_isNew 138 = .ok (.invokevirtual 64, 3) := by decide +kernel
theorem dX8_isNew_141 : decode cX8_isNew 141 = .ok (.iastore, 1) := by decide +kernel
theorem dX8_isNew_142 : decode cX8_isNew 142 = .ok (.iinc 6 1, 3) := by decide +kernel
theorem dX8_isNew_145 : decode cX8_isNew 145 = .ok (.goto (-48), 3) := by decide +kernel
theorem dX8_isNew_148 : decode cX8_isNew 148 = .ok (.iinc 3 1, 3) := by decide +kernel
theorem dX8_isNew_151 : decode cX8_isNew 151 = .ok (.goto (-111), 3) := by decide +kernel
theorem dX8_isNew_154 : decode cX8_isNew 154 = .ok (.aload_n 0, 1) := by decide +kernel
theorem dX8_isNew_155 : decode cX8_isNew 155 = .ok (.iload_n 2, 1) := by decide +kernel
theorem dX8_isNew_156 : decode cX8_isNew 156 = .ok (.invokevirtual 134, 3) := by decide +kernel
theorem dX8_isNew_159 : decode cX8_isNew 159 = .ok (.bipush 9, 2) := by decide +kernel
theorem dX8_isNew_161 : decode cX8_isNew 161 = .ok (.if_icmp .ge 7, 3) := by decide +kernel
theorem dX8_isNew_164 : decode cX8_isNew 164 = .ok (.iconst 1, 1) := by decide +kernel
theorem dX8_isNew_165 : decode cX8_isNew 165 = .ok (.goto 4, 3) := by decide +kernel
theorem dX8_isNew_168 : decode cX8_isNew 168 = .ok (.iconst 0, 1) := by decide +kernel
theorem dX8_isNew_169 : decode cX8_isNew 169 = .ok (.istore_n 3, 1) := by decide +kernel
theorem dX8_isNew_170 : decode cX8_isNew 170 = .ok (.aload_n 0, 1) := by decide +kernel
theorem dX8_isNew_171 : decode cX8_isNew 171 = .ok (.dup, 1) := by decide +kernel
theorem dX8_isNew_172 : decode cX8_isNew 172 = .ok (.getfield 131, 3) := by decide +kernel
theorem dX8_isNew_175 : decode cX8_isNew 175 = .ok (.iload_n 3, 1) := by decide +kernel
theorem dX8_isNew_176 : decode cX8_isNew 176 = .ok (.ifCond .eq 7, 3) := by decide +kernel
theorem dX8_isNew_179 : decode cX8_isNew 179 = .ok (.iconst 1, 1) := by decide +kernel
theorem dX8_isNew_180 : decode cX8_isNew 180 = .ok (.goto 4, 3) := by decide +kernel
theorem dX8_isNew_183 : decode cX8_isNew 183 = .ok (.iconst 0, 1) := by decide +kernel
theorem dX8_isNew_184 : decode cX8_isNew 184 = .ok (.iadd, 1) := by decide +kernel
theorem dX8_isNew_185 : decode cX8_isNew 185 = .ok (.putfield 131, 3) := by decide +kernel
theorem dX8_isNew_188 : decode cX8_isNew 188 = .ok (.iload_n 3, 1) := by decide +kernel
theorem dX8_isNew_189 : decode cX8_isNew 189 = .ok (.ireturn, 1) := by decide +kernel
theorem dX8_leadOf_0 : decode cX8_leadOf 0 = .ok (.iconst 0, 1) := by decide +kernel
theorem dX8_leadOf_1 : decode cX8_leadOf 1 = .ok (.istore_n 2, 1) := by decide +kernel
theorem dX8_leadOf_2 : decode cX8_leadOf 2 = .ok (.iload_n 2, 1) := by decide +kernel
theorem dX8_leadOf_3 : decode cX8_leadOf 3 = .ok (.bipush 9, 2) := by decide +kernel
theorem dX8_leadOf_5 : decode cX8_leadOf 5 = .ok (.if_icmp .ge 20, 3) := by decide +kernel
theorem dX8_leadOf_8 : decode cX8_leadOf 8 = .ok (.aload_n 0, 1) := by decide +kernel
theorem dX8_leadOf_9 : decode cX8_leadOf 9 = .ok (.getfield 30, 3) := by decide +kernel
theorem dX8_leadOf_12 : decode cX8_leadOf 12 = .ok (.iload_n 1, 1) := by decide +kernel
theorem dX8_leadOf_13 : decode cX8_leadOf 13 = .ok (.iload_n 2, 1) := by decide +kernel
theorem dX8_leadOf_14 : decode cX8_leadOf 14 = .ok (.iadd, 1) := by decide +kernel
theorem dX8_leadOf_15 : decode cX8_leadOf 15 = .ok (.iaload, 1) := by decide +kernel
theorem dX8_leadOf_16 : decode cX8_leadOf 16 = .ok (.ifCond .ne 9, 3) := by decide +kernel
theorem dX8_leadOf_19 : decode cX8_leadOf 19 = .ok (.iinc 2 1, 3) := by decide +kernel
theorem dX8_leadOf_22 : decode cX8_leadOf 22 = .ok (.goto (-20), 3) := by decide +kernel
theorem dX8_leadOf_25 : decode cX8_leadOf 25 = .ok (.iload_n 2, 1) := by decide +kernel
theorem dX8_leadOf_26 : decode cX8_leadOf 26 = .ok (.ireturn, 1) := by decide +kernel
set_option maxRecDepth 20000 in
theorem ggX8_rankOf_X8_blank : GoodIn wsX8_rankOf wsX8_blank := goodIn_r _ [8, 3, 26, 27, 28, 29, 30, 31, 32, 33, 34, 35, 36, 37, 38, 39, 40, 41, 42, 43, 44, 45] (by decide +kernel) (by decide +kernel)
set_option maxRecDepth 20000 in
theorem gX8_rankOf_X8_blank : GoodIn wsX8_rankOf (wsV RX8 60 RX8 yX8_blank wsX8_blank) := goodIn_app (goodIn_of _ (by decide +kernel)) ggX8_rankOf_X8_blank
set_option maxRecDepth 20000 in
theorem ggX8_rankOf_X8_isNew : GoodIn wsX8_rankOf wsX8_isNew := goodIn_r _ [12, 1, 13, 3, 2, 14, 15, 16, 7, 17, 18, 19, 20, 21, 22, 23, 24, 25, 26, 27, 28, 29, 30, 31, 32, 33, 34, 35, 36, 37, 38, 39, 40, 41, 42, 43, 44, 45] (by decide +kernel) (by decide +kernel)
set_option maxRecDepth 20000 in
theorem gX8_rankOf_X8_isNew : GoodIn wsX8_rankOf (wsV RX8 137 RX8 yX8_isNew wsX8_isNew) := goodIn_app (goodIn_of _ (by decide +kernel)) ggX8_rankOf_X8_isNew
theorem dX8_rankOf_0 : decode cX8_rankOf 0 = .ok (.aload_n 0, 1) := by decide +kernel
theorem dX8_rankOf_1 : decode cX8_rankOf 1 = .ok (.iconst 0, 1) := by decide +kernel
theorem dX8_rankOf_2 : decode cX8_rankOf 2 = .ok (.putfield 131, 3) := by decide +kernel
theorem dX8_rankOf_5 : decode cX8_rankOf 5 = .ok (.iconst 0, 1) := by decide +kernel
theorem dX8_rankOf_6 : decode cX8_rankOf 6 = .ok (.istore_n 2, 1) := by decide +kernel
theorem dX8_rankOf_7 : decode cX8_rankOf 7 = .ok (.iconst 0, 1) := by decide +kernel
theorem dX8_rankOf_8 : decode cX8_rankOf 8 = .ok (.istore_n 3, 1) := by decide +kernel
theorem dX8_rankOf_9 : decode cX8_rankOf 9 = .ok (.iload_n 3, 1) := by decide +kernel
theorem dX8_rankOf_10 : decode cX8_rankOf 10 = .ok (.aload_n 0, 1) := by decide +kernel
theorem dX8_rankOf_11 : decode cX8_rankOf 11 = .ok (.getfield 7, 3) := by decide +kernel
theorem dX8_rankOf_14 : decode cX8_rankOf 14 = .ok (.bipush 81, 2) := by decide +kernel
theorem dX8_rankOf_16 : decode cX8_rankOf 16 = .ok (.iaload, 1) := by decide +kernel
theorem dX8_rankOf_17 : decode cX8_rankOf 17 = .ok (.if_icmp .ge 76, 3) := by decide +kernel
theorem dX8_rankOf_20 : decode cX8_rankOf 20 = .ok (.aload_n 0, 1) := by decide +kernel
theorem dX8_rankOf_21 : decode cX8_rankOf 21 = .ok (.bipush 108, 2) := by decide +kernel
theorem dX8_rankOf_23 : decode cX8_rankOf 23 = .ok (.invokevirtual 60, 3) := by decide +kernel
theorem dX8_rankOf_26 : decode cX8_rankOf 26 = .ok (.iconst 0, 1) := by decide +kernel
theorem dX8_rankOf_27 : decode cX8_rankOf 27 = .ok (.istore 4, 2) := by decide +kernel
theorem dX8_rankOf_29 : decode cX8_rankOf 29 = .ok (.iload 4, 2) := by decide +kernel
theorem dX8_rankOf_31 : decode cX8_rankOf 31 = .ok (.aload_n 0, 1) := by decide +kernel
theorem dX8_rankOf_32 : decode cX8_rankOf 32 = .ok (.getfield 7, 3) := by decide +kernel
theorem dX8_rankOf_35 : decode cX8_rankOf 35 = .ok (.bipush 81, 2) := by decide +kernel
theorem dX8_rankOf_37 : decode cX8_rankOf 37 = .ok (.iaload, 1) := by decide +kernel
theorem dX8_rankOf_38 : decode cX8_rankOf 38 = .ok (.if_icmp .ge 32, 3) := by decide +kernel
theorem dX8_rankOf_41 : decode cX8_rankOf 41 = .ok (.aload_n 0, 1) := by decide +kernel
theorem dX8_rankOf_42 : decode cX8_rankOf 42 = .ok (.getfield 27, 3) := by decide +kernel
theorem dX8_rankOf_45 : decode cX8_rankOf 45 = .ok (.bipush 108, 2) := by decide +kernel
theorem dX8_rankOf_47 : decode cX8_rankOf 47 = .ok (.iload 4, 2) := by decide +kernel
theorem dX8_rankOf_49 : decode cX8_rankOf 49 = .ok (.iadd, 1) := by decide +kernel
theorem dX8_rankOf_50 : decode cX8_rankOf 50 = .ok (.aload_n 0, 1) := by decide +kernel
theorem dX8_rankOf_51 : decode cX8_rankOf 51 = .ok (.getfield 27, 3) := by decide +kernel
theorem dX8_rankOf_54 : decode cX8_rankOf 54 = .ok (.iload_n 1, 1) := by decide +kernel
theorem dX8_rankOf_55 : decode cX8_rankOf 55 = .ok (.iconst 3, 1) := by decide +kernel
theorem dX8_rankOf_56 : decode cX8_rankOf 56 = .ok (.iload_n 3, 1) := by decide +kernel
theorem dX8_rankOf_57 : decode cX8_rankOf 57 = .ok (.imul, 1) := by decide +kernel
theorem dX8_rankOf_58 : decode cX8_rankOf 58 = .ok (.iadd, 1) := by decide +kernel
theorem dX8_rankOf_59 : decode cX8_rankOf 59 = .ok (.iload 4, 2) := by decide +kernel
theorem dX8_rankOf_61 : decode cX8_rankOf 61 = .ok (.iadd, 1) := by decide +kernel
theorem dX8_rankOf_62 : decode cX8_rankOf 62 = .ok (.iaload, 1) := by decide +kernel
theorem dX8_rankOf_63 : decode cX8_rankOf 63 = .ok (.iastore, 1) := by decide +kernel
theorem dX8_rankOf_64 : decode cX8_rankOf 64 = .ok (.iinc 4 1, 3) := by decide +kernel
theorem dX8_rankOf_67 : decode cX8_rankOf 67 = .ok (.goto (-38), 3) := by decide +kernel
theorem dX8_rankOf_70 : decode cX8_rankOf 70 = .ok (.iload_n 2, 1) := by decide +kernel
theorem dX8_rankOf_71 : decode cX8_rankOf 71 = .ok (.aload_n 0, 1) := by decide +kernel
theorem dX8_rankOf_72 : decode cX8_rankOf 72 = .ok (.bipush 108, 2) := by decide +kernel
theorem dX8_rankOf_74 : decode cX8_rankOf 74 = .ok (.invokevirtual 137, 3) := by decide +kernel
theorem dX8_rankOf_77 : decode cX8_rankOf 77 = .ok (.ifCond .eq 7, 3) := by decide +kernel
theorem dX8_rankOf_80 : decode cX8_rankOf 80 = .ok (.iconst 1, 1) := by decide +kernel
theorem dX8_rankOf_81 : decode cX8_rankOf 81 = .ok (.goto 4, 3) := by decide +kernel
theorem dX8_rankOf_84 : decode cX8_rankOf 84 = .ok (.iconst 0, 1) := by decide +kernel
theorem dX8_rankOf_85 : decode cX8_rankOf 85 = .ok (.iadd, 1) := by decide +kernel
theorem dX8_rankOf_86 : decode cX8_rankOf 86 = .ok (.istore_n 2, 1) := by decide +kernel
theorem dX8_rankOf_87 : decode cX8_rankOf 87 = .ok (.iinc 3 1, 3) := by decide +kernel
theorem dX8_rankOf_90 : decode cX8_rankOf 90 = .ok (.goto (-81), 3) := by decide +kernel
theorem dX8_rankOf_93 : decode cX8_rankOf 93 = .ok (.iload_n 2, 1) := by decide +kernel
theorem dX8_rankOf_94 : decode cX8_rankOf 94 = .ok (.ireturn, 1) := by decide +kernel
set_option maxRecDepth 20000 in
theorem ggX8_orderOf_X8_copy : GoodIn wsX8_orderOf wsX8_copy := goodIn_r _ [5, 6, 36, 37, 38, 39, 40, 41, 42, 43, 44, 45, 46, 47, 48, 49, 50, 51, 52, 53, 54, 55] (by decide +kernel) (by decide +kernel)
set_option maxRecDepth 20000 in
theorem gX8_orderOf_X8_copy : GoodIn wsX8_orderOf (wsV RX8 96 RX8 yX8_copy wsX8_copy) := goodIn_app (goodIn_of _ (by decide +kernel)) ggX8_orderOf_X8_copy
set_option maxRecDepth 20000 in
theorem ggX8_orderOf_X8_areAlike : GoodIn wsX8_orderOf wsX8_areAlike := goodIn_r _ [10, 6, 36, 37, 38, 39, 40, 41, 42, 43, 44, 45, 46, 47, 48, 49, 50, 51, 52, 53, 54, 55] (by decide +kernel) (by decide +kernel)
set_option maxRecDepth 20000 in
theorem gX8_orderOf_X8_areAlike : GoodIn wsX8_orderOf (wsV RX8 102 RX8 yX8_areAlike wsX8_areAlike) := goodIn_app (goodIn_of _ (by decide +kernel)) ggX8_orderOf_X8_areAlike
set_option maxRecDepth 20000 in
theorem ggX8_orderOf_X8_product : GoodIn wsX8_orderOf wsX8_product := goodIn_r _ [14, 15, 16, 17, 4, 18, 19, 6, 20, 21, 22, 23, 24, 25, 26, 27, 28, 29, 30, 31, 32, 33, 34, 35, 36, 37, 38, 39, 40, 41, 42, 43, 44, 45, 46, 47, 48, 49, 50, 51, 52, 53, 54, 55] (by decide +kernel) (by decide +kernel)
set_option maxRecDepth 20000 in
theorem gX8_orderOf_X8_product : GoodIn wsX8_orderOf (wsV RX8 99 RX8 yX8_product wsX8_product) := goodIn_app (goodIn_of _ (by decide +kernel)) ggX8_orderOf_X8_product
theorem dX8_orderOf_0 : decode cX8_orderOf 0 = .ok (.aload_n 0, 1) := by decide +kernel
theorem dX8_orderOf_1 : decode cX8_orderOf 1 = .ok (.iload_n 1, 1) := by decide +kernel
theorem dX8_orderOf_2 : decode cX8_orderOf 2 = .ok (.bipush 108, 2) := by decide +kernel
theorem dX8_orderOf_4 : decode cX8_orderOf 4 = .ok (.invokevirtual 96, 3) := by decide +kernel
theorem dX8_orderOf_7 : decode cX8_orderOf 7 = .ok (.iconst 1, 1) := by decide +kernel
theorem dX8_orderOf_8 : decode cX8_orderOf 8 = .ok (.istore_n 2, 1) := by decide +kernel
theorem dX8_orderOf_9 : decode cX8_orderOf 9 = .ok (.iload_n 2, 1) := by decide +kernel
theorem dX8_orderOf_10 : decode cX8_orderOf 10 = .ok (.sipush 2000, 3) := by decide +kernel
theorem dX8_orderOf_13 : decode cX8_orderOf 13 = .ok (.if_icmp .gt 31, 3) := by decide +kernel
theorem dX8_orderOf_16 : decode cX8_orderOf 16 = .ok (.aload_n 0, 1) := by decide +kernel
theorem dX8_orderOf_17 : decode cX8_orderOf 17 = .ok (.bipush 108, 2) := by decide +kernel
theorem dX8_orderOf_19 : decode cX8_orderOf 19 = .ok (.bipush 36, 2) := by decide +kernel
theorem dX8_orderOf_21 : decode cX8_orderOf 21 = .ok (.invokevirtual 102, 3) := by decide +kernel
theorem dX8_orderOf_24 : decode cX8_orderOf 24 = .ok (.ifCond .eq 5, 3) := by decide +kernel
theorem dX8_orderOf_27 : decode cX8_orderOf 27 = .ok (.iload_n 2, 1) := by decide +kernel
theorem dX8_orderOf_28 : decode cX8_orderOf 28 = .ok (.ireturn, 1) := by decide +kernel
theorem dX8_orderOf_29 : decode cX8_orderOf 29 = .ok (.aload_n 0, 1) := by decide +kernel
theorem dX8_orderOf_30 : decode cX8_orderOf 30 = .ok (.bipush 108, 2) := by decide +kernel
theorem dX8_orderOf_32 : decode cX8_orderOf 32 = .ok (.iload_n 1, 1) := by decide +kernel
theorem dX8_orderOf_33 : decode cX8_orderOf 33 = .ok (.bipush 108, 2) := by decide +kernel
theorem dX8_orderOf_35 : decode cX8_orderOf 35 = .ok (.invokevirtual 99, 3) := by decide +kernel
theorem dX8_orderOf_38 : decode cX8_orderOf 38 = .ok (.iinc 2 1, 3) := by decide +kernel
theorem dX8_orderOf_41 : decode cX8_orderOf 41 = .ok (.goto (-32), 3) := by decide +kernel
theorem dX8_orderOf_44 : decode cX8_orderOf 44 = .ok (.bipush (-6), 2) := by decide +kernel
theorem dX8_orderOf_46 : decode cX8_orderOf 46 = .ok (.ireturn, 1) := by decide +kernel
set_option maxRecDepth 20000 in
theorem ggX8_degreeOf_X8_copy : GoodIn wsX8_degreeOf wsX8_copy := goodIn_r _ [6, 7, 46, 47, 48, 49, 50, 51, 52, 53, 54, 55, 56, 57, 58, 59, 60, 61, 62, 63, 64, 65] (by decide +kernel) (by decide +kernel)
set_option maxRecDepth 20000 in
theorem gX8_degreeOf_X8_copy : GoodIn wsX8_degreeOf (wsV RX8 96 RX8 yX8_copy wsX8_copy) := goodIn_app (goodIn_of _ (by decide +kernel)) ggX8_degreeOf_X8_copy
set_option maxRecDepth 20000 in
theorem ggX8_degreeOf_X8_isNew : GoodIn wsX8_degreeOf wsX8_isNew := goodIn_r _ [11, 1, 12, 7, 13, 14, 15, 16, 5, 17, 18, 19, 20, 21, 22, 23, 24, 25, 46, 47, 48, 49, 50, 51, 52, 53, 54, 55, 56, 57, 58, 59, 60, 61, 62, 63, 64, 65] (by decide +kernel) (by decide +kernel)
set_option maxRecDepth 20000 in
theorem gX8_degreeOf_X8_isNew : GoodIn wsX8_degreeOf (wsV RX8 137 RX8 yX8_isNew wsX8_isNew) := goodIn_app (goodIn_of _ (by decide +kernel)) ggX8_degreeOf_X8_isNew
set_option maxRecDepth 20000 in
theorem ggX8_degreeOf_X8_product : GoodIn wsX8_degreeOf wsX8_product := goodIn_r _ [29, 30, 31, 32, 5, 33, 13, 7, 34, 35, 36, 37, 38, 39, 40, 41, 42, 43, 44, 45, 22, 23, 24, 25, 46, 47, 48, 49, 50, 51, 52, 53, 54, 55, 56, 57, 58, 59, 60, 61, 62, 63, 64, 65] (by decide +kernel) (by decide +kernel)
set_option maxRecDepth 20000 in
theorem gX8_degreeOf_X8_product : GoodIn wsX8_degreeOf (wsV RX8 99 RX8 yX8_product wsX8_product) := goodIn_app (goodIn_of _ (by decide +kernel)) ggX8_degreeOf_X8_product
theorem dX8_degreeOf_0 : decode cX8_degreeOf 0 = .ok (.aload_n 0, 1) := by decide +kernel
theorem dX8_degreeOf_1 : decode cX8_degreeOf 1 = .ok (.iconst 0, 1) := by decide +kernel
theorem dX8_degreeOf_2 : decode cX8_degreeOf 2 = .ok (.putfield 131, 3) := by decide +kernel
theorem dX8_degreeOf_5 : decode cX8_degreeOf 5 = .ok (.aload_n 0, 1) := by decide +kernel
theorem dX8_degreeOf_6 : decode cX8_degreeOf 6 = .ok (.bipush 36, 2) := by decide +kernel
theorem dX8_degreeOf_8 : decode cX8_degreeOf 8 = .ok (.bipush 108, 2) := by decide +kernel
theorem dX8_degreeOf_10 : decode cX8_degreeOf 10 = .ok (.invokevirtual 96, 3) := by decide +kernel
theorem dX8_degreeOf_13 : decode cX8_degreeOf 13 = .ok (.iconst 0, 1) := by decide +kernel
theorem dX8_degreeOf_14 : decode cX8_degreeOf 14 = .ok (.istore_n 2, 1) := by decide +kernel
theorem dX8_degreeOf_15 : decode cX8_degreeOf 15 = .ok (.aload_n 0, 1) := by decide +kernel
theorem dX8_degreeOf_16 : decode cX8_degreeOf 16 = .ok (.bipush 108, 2) := by decide +kernel
theorem dX8_degreeOf_18 : decode cX8_degreeOf 18 = .ok (.invokevirtual 137, 3) := by decide +kernel
theorem dX8_degreeOf_21 : decode cX8_degreeOf 21 = .ok (.ifCond .eq 18, 3) := by decide +kernel
theorem dX8_degreeOf_24 : decode cX8_degreeOf 24 = .ok (.aload_n 0, 1) := by decide +kernel
theorem dX8_degreeOf_25 : decode cX8_degreeOf 25 = .ok (.bipush 108, 2) := by decide +kernel
theorem dX8_degreeOf_27 : decode cX8_degreeOf 27 = .ok (.iload_n 1, 1) := by decide +kernel
theorem dX8_degreeOf_28 : decode cX8_degreeOf 28 = .ok (.bipush 108, 2) := by decide +kernel
theorem dX8_degreeOf_30 : decode cX8_degreeOf 30 = .ok (.invokevirtual 99, 3) := by decide +kernel
theorem dX8_degreeOf_33 : decode cX8_degreeOf 33 = .ok (.iinc 2 1, 3) := by decide +kernel
theorem dX8_degreeOf_36 : decode cX8_degreeOf 36 = .ok (.goto (-21), 3) := by decide +kernel
theorem dX8_degreeOf_39 : decode cX8_degreeOf 39 = .ok (.iload_n 2, 1) := by decide +kernel
theorem dX8_degreeOf_40 : decode cX8_degreeOf 40 = .ok (.ireturn, 1) := by decide +kernel
set_option maxRecDepth 20000 in
theorem ggX8_endOf_X8_copy : GoodIn wsX8_endOf wsX8_copy := goodIn_r _ [5, 6, 36, 37, 38, 39, 40, 41, 42, 43, 44, 45, 46, 47, 48, 49, 50, 51, 52, 53, 54, 55] (by decide +kernel) (by decide +kernel)
set_option maxRecDepth 20000 in
theorem gX8_endOf_X8_copy : GoodIn wsX8_endOf (wsV RX8 96 RX8 yX8_copy wsX8_copy) := goodIn_app (goodIn_of _ (by decide +kernel)) ggX8_endOf_X8_copy
set_option maxRecDepth 20000 in
theorem ggX8_endOf_X8_isNothing : GoodIn wsX8_endOf wsX8_isNothing := goodIn_r _ [10, 6, 36, 37, 38, 39, 40, 41, 42, 43, 44, 45, 46, 47, 48, 49, 50, 51, 52, 53, 54, 55] (by decide +kernel) (by decide +kernel)
set_option maxRecDepth 20000 in
theorem gX8_endOf_X8_isNothing : GoodIn wsX8_endOf (wsV RX8 128 RX8 yX8_isNothing wsX8_isNothing) := goodIn_app (goodIn_of _ (by decide +kernel)) ggX8_endOf_X8_isNothing
set_option maxRecDepth 20000 in
theorem ggX8_endOf_X8_product : GoodIn wsX8_endOf wsX8_product := goodIn_r _ [14, 15, 16, 17, 4, 18, 19, 6, 20, 21, 22, 23, 24, 25, 26, 27, 28, 29, 30, 31, 32, 33, 34, 35, 36, 37, 38, 39, 40, 41, 42, 43, 44, 45, 46, 47, 48, 49, 50, 51, 52, 53, 54, 55] (by decide +kernel) (by decide +kernel)
set_option maxRecDepth 20000 in
theorem gX8_endOf_X8_product : GoodIn wsX8_endOf (wsV RX8 99 RX8 yX8_product wsX8_product) := goodIn_app (goodIn_of _ (by decide +kernel)) ggX8_endOf_X8_product
theorem dX8_endOf_0 : decode cX8_endOf 0 = .ok (.aload_n 0, 1) := by decide +kernel
theorem dX8_endOf_1 : decode cX8_endOf 1 = .ok (.iload_n 1, 1) := by decide +kernel
theorem dX8_endOf_2 : decode cX8_endOf 2 = .ok (.bipush 108, 2) := by decide +kernel
theorem dX8_endOf_4 : decode cX8_endOf 4 = .ok (.invokevirtual 96, 3) := by decide +kernel
theorem dX8_endOf_7 : decode cX8_endOf 7 = .ok (.iconst 1, 1) := by decide +kernel
theorem dX8_endOf_8 : decode cX8_endOf 8 = .ok (.istore_n 2, 1) := by decide +kernel
theorem dX8_endOf_9 : decode cX8_endOf 9 = .ok (.iload_n 2, 1) := by decide +kernel
theorem dX8_endOf_10 : decode cX8_endOf 10 = .ok (.bipush 10, 2) := by decide +kernel
theorem dX8_endOf_12 : decode cX8_endOf 12 = .ok (.if_icmp .gt 29, 3) := by decide +kernel
theorem dX8_endOf_15 : decode cX8_endOf 15 = .ok (.aload_n 0, 1) := by decide +kernel
theorem dX8_endOf_16 : decode cX8_endOf 16 = .ok (.bipush 108, 2) := by decide +kernel
theorem dX8_endOf_18 : decode cX8_endOf 18 = .ok (.invokevirtual 128, 3) := by decide +kernel
theorem dX8_endOf_21 : decode cX8_endOf 21 = .ok (.ifCond .eq 5, 3) := by decide +kernel
theorem dX8_endOf_24 : decode cX8_endOf 24 = .ok (.iload_n 2, 1) := by decide +kernel
theorem dX8_endOf_25 : decode cX8_endOf 25 = .ok (.ireturn, 1) := by decide +kernel
theorem dX8_endOf_26 : decode cX8_endOf 26 = .ok (.aload_n 0, 1) := by decide +kernel
theorem dX8_endOf_27 : decode cX8_endOf 27 = .ok (.bipush 108, 2) := by decide +kernel
theorem dX8_endOf_29 : decode cX8_endOf 29 = .ok (.iload_n 1, 1) := by decide +kernel
theorem dX8_endOf_30 : decode cX8_endOf 30 = .ok (.bipush 108, 2) := by decide +kernel
theorem dX8_endOf_32 : decode cX8_endOf 32 = .ok (.invokevirtual 99, 3) := by decide +kernel
theorem dX8_endOf_35 : decode cX8_endOf 35 = .ok (.iinc 2 1, 3) := by decide +kernel
theorem dX8_endOf_38 : decode cX8_endOf 38 = .ok (.goto (-29), 3) := by decide +kernel
theorem dX8_endOf_41 : decode cX8_endOf 41 = .ok (.bipush (-6), 2) := by decide +kernel
theorem dX8_endOf_43 : decode cX8_endOf 43 = .ok (.ireturn, 1) := by decide +kernel
theorem dX8_trace_0 : decode cX8_trace 0 = .ok (.aload_n 0, 1) := by decide +kernel
theorem dX8_trace_1 : decode cX8_trace 1 = .ok (.getfield 27, 3) := by decide +kernel
theorem dX8_trace_4 : decode cX8_trace 4 = .ok (.iload_n 1, 1) := by decide +kernel
theorem dX8_trace_5 : decode cX8_trace 5 = .ok (.iaload, 1) := by decide +kernel
theorem dX8_trace_6 : decode cX8_trace 6 = .ok (.aload_n 0, 1) := by decide +kernel
theorem dX8_trace_7 : decode cX8_trace 7 = .ok (.getfield 27, 3) := by decide +kernel
theorem dX8_trace_10 : decode cX8_trace 10 = .ok (.iload_n 1, 1) := by decide +kernel
theorem dX8_trace_11 : decode cX8_trace 11 = .ok (.iconst 4, 1) := by decide +kernel
theorem dX8_trace_12 : decode cX8_trace 12 = .ok (.iadd, 1) := by decide +kernel
theorem dX8_trace_13 : decode cX8_trace 13 = .ok (.iaload, 1) := by decide +kernel
theorem dX8_trace_14 : decode cX8_trace 14 = .ok (.iadd, 1) := by decide +kernel
theorem dX8_trace_15 : decode cX8_trace 15 = .ok (.aload_n 0, 1) := by decide +kernel
theorem dX8_trace_16 : decode cX8_trace 16 = .ok (.getfield 27, 3) := by decide +kernel
theorem dX8_trace_19 : decode cX8_trace 19 = .ok (.iload_n 1, 1) := by decide +kernel
theorem dX8_trace_20 : decode cX8_trace 20 = .ok (.bipush 8, 2) := by decide +kernel
theorem dX8_trace_22 : decode cX8_trace 22 = .ok (.iadd, 1) := by decide +kernel
theorem dX8_trace_23 : decode cX8_trace 23 = .ok (.iaload, 1) := by decide +kernel
theorem dX8_trace_24 : decode cX8_trace 24 = .ok (.iadd, 1) := by decide +kernel
theorem dX8_trace_25 : decode cX8_trace 25 = .ok (.aload_n 0, 1) := by decide +kernel
theorem dX8_trace_26 : decode cX8_trace 26 = .ok (.getfield 7, 3) := by decide +kernel
theorem dX8_trace_29 : decode cX8_trace 29 = .ok (.bipush 82, 2) := by decide +kernel
theorem dX8_trace_31 : decode cX8_trace 31 = .ok (.iaload, 1) := by decide +kernel
theorem dX8_trace_32 : decode cX8_trace 32 = .ok (.irem, 1) := by decide +kernel
theorem dX8_trace_33 : decode cX8_trace 33 = .ok (.ireturn, 1) := by decide +kernel
set_option maxRecDepth 20000 in
theorem ggX8_of_X8_in : GoodIn wsX8_of wsX8_in := goodIn_r _ [4] (by decide +kernel) (by decide +kernel)
set_option maxRecDepth 20000 in
theorem gX8_of_X8_in : GoodIn wsX8_of (va_wsS RX8 49 yX8_in wsX8_in) := goodIn_app (goodIn_of _ (by decide +kernel)) ggX8_of_X8_in
set_option maxRecDepth 20000 in
theorem ggX8_of_X8_load : GoodIn wsX8_of wsX8_load := goodIn_r _ [8, 9, 10, 11, 12, 13, 3, 14, 15, 16, 17, 18, 19, 20, 21, 22, 23, 24, 25, 26, 27, 28, 29, 30, 31, 32, 33, 34, 35, 36, 37, 38, 101, 102, 103, 104, 105, 106, 107, 108, 109, 110, 111, 112, 113, 114, 115, 116, 117, 118, 119, 120] (by decide +kernel) (by decide +kernel)
set_option maxRecDepth 20000 in
theorem gX8_of_X8_load : GoodIn wsX8_of (wsV RX8 116 RX8 yX8_load wsX8_load) := goodIn_app (goodIn_of _ (by decide +kernel)) ggX8_of_X8_load
set_option maxRecDepth 20000 in
theorem ggX8_of_X8_trace : GoodIn wsX8_of wsX8_trace := goodIn_r _ [42, 9, 10, 101, 102, 103, 104, 105, 106, 107, 108, 109, 110, 111, 112, 113, 114, 115, 116, 117, 118, 119, 120] (by decide +kernel) (by decide +kernel)
set_option maxRecDepth 20000 in
theorem gX8_of_X8_trace : GoodIn wsX8_of (wsV RX8 140 RX8 yX8_trace wsX8_trace) := goodIn_app (goodIn_of _ (by decide +kernel)) ggX8_of_X8_trace
set_option maxRecDepth 20000 in
theorem ggX8_of_X8_determinant : GoodIn wsX8_of wsX8_determinant := goodIn_r _ [22, 10, 9, 23, 24, 25, 3, 26, 27, 28, 29, 30, 101, 102, 103, 104, 105, 106, 107, 108, 109, 110, 111, 112, 113, 114, 115, 116, 117, 118, 119, 120] (by decide +kernel) (by decide +kernel)
set_option maxRecDepth 20000 in
theorem gX8_of_X8_determinant : GoodIn wsX8_of (wsV RX8 72 RX8 yX8_determinant wsX8_determinant) := goodIn_app (goodIn_of _ (by decide +kernel)) ggX8_of_X8_determinant
set_option maxRecDepth 20000 in
theorem ggX8_of_X8_rankOf : GoodIn wsX8_of wsX8_rankOf := goodIn_r _ [46, 47, 10, 9, 35, 36, 37, 3, 38, 48, 49, 50, 51, 52, 53, 54, 55, 56, 31, 32, 33, 34, 23, 24, 25, 26, 101, 102, 103, 104, 105, 106, 107, 108, 109, 110, 111, 112, 113, 114, 115, 116, 117, 118, 119, 120] (by decide +kernel) (by decide +kernel)
set_option maxRecDepth 20000 in
theorem gX8_of_X8_rankOf : GoodIn wsX8_of (wsV RX8 143 RX8 yX8_rankOf wsX8_rankOf) := goodIn_app (goodIn_of _ (by decide +kernel)) ggX8_of_X8_rankOf
set_option maxRecDepth 20000 in
theorem ggX8_of_X8_isOwnSquare : GoodIn wsX8_of wsX8_isOwnSquare := goodIn_r _ [60, 61, 62, 63, 3, 64, 65, 66, 67, 68, 10, 9, 35, 36, 37, 38, 69, 70, 71, 72, 73, 74, 75, 76, 23, 24, 25, 26, 77, 78, 79, 80, 101, 102, 103, 104, 105, 106, 107, 108, 109, 110, 111, 112, 113, 114, 115, 116, 117, 118, 119, 120] (by decide +kernel) (by decide +kernel)
set_option maxRecDepth 20000 in
theorem gX8_of_X8_isOwnSquare : GoodIn wsX8_of (wsV RX8 119 RX8 yX8_isOwnSquare wsX8_isOwnSquare) := goodIn_app (goodIn_of _ (by decide +kernel)) ggX8_of_X8_isOwnSquare
set_option maxRecDepth 20000 in
theorem ggX8_of_X8_orderOf : GoodIn wsX8_of wsX8_orderOf := goodIn_r _ [84, 85, 86, 87, 3, 88, 9, 77, 78, 79, 80, 61, 62, 63, 64, 65, 66, 67, 68, 10, 35, 36, 37, 38, 69, 70, 71, 72, 73, 74, 75, 76, 23, 24, 25, 26, 101, 102, 103, 104, 105, 106, 107, 108, 109, 110, 111, 112, 113, 114, 115, 116, 117, 118, 119, 120] (by decide +kernel) (by decide +kernel)
set_option maxRecDepth 20000 in
theorem gX8_of_X8_orderOf : GoodIn wsX8_of (wsV RX8 146 RX8 yX8_orderOf wsX8_orderOf) := goodIn_app (goodIn_of _ (by decide +kernel)) ggX8_of_X8_orderOf
set_option maxRecDepth 20000 in
theorem ggX8_of_X8_degreeOf : GoodIn wsX8_of wsX8_degreeOf := goodIn_r _ [92, 47, 85, 86, 87, 3, 88, 9, 48, 49, 50, 51, 52, 10, 53, 54, 55, 56, 31, 32, 33, 34, 23, 24, 25, 26, 61, 62, 63, 64, 65, 66, 67, 68, 35, 36, 37, 38, 69, 70, 71, 72, 73, 74, 75, 76, 101, 102, 103, 104, 105, 106, 107, 108, 109, 110, 111, 112, 113, 114, 115, 116, 117, 118, 119, 120] (by decide +kernel) (by decide +kernel)
set_option maxRecDepth 20000 in
theorem gX8_of_X8_degreeOf : GoodIn wsX8_of (wsV RX8 149 RX8 yX8_degreeOf wsX8_degreeOf) := goodIn_app (goodIn_of _ (by decide +kernel)) ggX8_of_X8_degreeOf
set_option maxRecDepth 20000 in
theorem ggX8_of_X8_endOf : GoodIn wsX8_of wsX8_endOf := goodIn_r _ [96, 85, 86, 87, 3, 88, 9, 97, 98, 99, 100, 61, 62, 63, 64, 65, 66, 67, 68, 10, 35, 36, 37, 38, 69, 70, 71, 72, 73, 74, 75, 76, 23, 24, 25, 26, 101, 102, 103, 104, 105, 106, 107, 108, 109, 110, 111, 112, 113, 114, 115, 116, 117, 118, 119, 120] (by decide +kernel) (by decide +kernel)
set_option maxRecDepth 20000 in
theorem gX8_of_X8_endOf : GoodIn wsX8_of (wsV RX8 152 RX8 yX8_endOf wsX8_endOf) := goodIn_app (goodIn_of _ (by decide +kernel)) ggX8_of_X8_endOf
theorem dX8_of_0 : decode cX8_of 0 = .ok (.iload_n 1, 1) := by decide +kernel
theorem dX8_of_1 : decode cX8_of 1 = .ok (.iconst 0, 1) := by decide +kernel
theorem dX8_of_2 : decode cX8_of 2 = .ok (.bipush 9, 2) := by decide +kernel
theorem dX8_of_4 : decode cX8_of 4 = .ok (.invokestatic 49, 3) := by decide +kernel
theorem dX8_of_7 : decode cX8_of 7 = .ok (.ifCond .ne 5, 3) := by decide +kernel
theorem dX8_of_10 : decode cX8_of 10 = .ok (.iconst (-1), 1) := by decide +kernel
theorem dX8_of_11 : decode cX8_of 11 = .ok (.ireturn, 1) := by decide +kernel
theorem dX8_of_12 : decode cX8_of 12 = .ok (.aload_n 0, 1) := by decide +kernel
theorem dX8_of_13 : decode cX8_of 13 = .ok (.iload_n 1, 1) := by decide +kernel
theorem dX8_of_14 : decode cX8_of 14 = .ok (.iconst 0, 1) := by decide +kernel
theorem dX8_of_15 : decode cX8_of 15 = .ok (.invokevirtual 116, 3) := by decide +kernel
theorem dX8_of_18 : decode cX8_of 18 = .ok (.iload_n 2, 1) := by decide +kernel
theorem dX8_of_19 : decode cX8_of 19 = .ok (.tableswitch 109 0 7 #[45, 51, 57, 63, 77, 91, 97, 103], 45) := by decide +kernel
theorem dX8_of_64 : decode cX8_of 64 = .ok (.aload_n 0, 1) := by decide +kernel
theorem dX8_of_65 : decode cX8_of 65 = .ok (.iconst 0, 1) := by decide +kernel
theorem dX8_of_66 : decode cX8_of 66 = .ok (.invokevirtual 140, 3) := by decide +kernel
theorem dX8_of_69 : decode cX8_of 69 = .ok (.ireturn, 1) := by decide +kernel
theorem dX8_of_70 : decode cX8_of 70 = .ok (.aload_n 0, 1) := by decide +kernel
theorem dX8_of_71 : decode cX8_of 71 = .ok (.iconst 0, 1) := by decide +kernel
theorem dX8_of_72 : decode cX8_of 72 = .ok (.invokevirtual 72, 3) := by decide +kernel
theorem dX8_of_75 : decode cX8_of 75 = .ok (.ireturn, 1) := by decide +kernel
