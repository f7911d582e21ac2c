theorem dX8_of_76 : decode cX8_of 76 = .ok (.aload_n 0, 1) := by decide +kernel
theorem dX8_of_77 : decode cX8_of 77 = .ok (.iconst 0, 1) := by decide +kernel
theorem dX8_of_78 : decode cX8_of 78 = .ok (.invokevirtual 143, 3) := by decide +kernel
theorem dX8_of_81 : decode cX8_of 81 = .ok (.ireturn, 1) := by decide +kernel
theorem dX8_of_82 : decode cX8_of 82 = .ok (.aload_n 0, 1) := by decide +kernel
theorem dX8_of_83 : decode cX8_of 83 = .ok (.iconst 0, 1) := by decide +kernel
theorem dX8_of_84 : decode cX8_of 84 = .ok (.invokevirtual 119, 3) := by decide +kernel
theorem dX8_of_87 : decode cX8_of 87 = .ok (.ifCond .eq 7, 3) := by decide +kernel
theorem dX8_of_90 : decode cX8_of 90 = .ok (.iconst 1, 1) := by decide +kernel
theorem dX8_of_91 : decode cX8_of 91 = .ok (.goto 4, 3) := by decide +kernel
theorem dX8_of_94 : decode cX8_of 94 = .ok (.iconst 0, 1) := by decide +kernel
theorem dX8_of_95 : decode cX8_of 95 = .ok (.ireturn, 1) := by decide +kernel
theorem dX8_of_96 : decode cX8_of 96 = .ok (.aload_n 0, 1) := by decide +kernel
theorem dX8_of_97 : decode cX8_of 97 = .ok (.iconst 0, 1) := by decide +kernel
theorem dX8_of_98 : decode cX8_of 98 = .ok (.invokevirtual 72, 3) := by decide +kernel
theorem dX8_of_101 : decode cX8_of 101 = .ok (.ifCond .ne 7, 3) := by decide +kernel
theorem dX8_of_104 : decode cX8_of 104 = .ok (.iconst 0, 1) := by decide +kernel
theorem dX8_of_105 : decode cX8_of 105 = .ok (.goto 4, 3) := by decide +kernel
theorem dX8_of_108 : decode cX8_of 108 = .ok (.iconst 1, 1) := by decide +kernel
theorem dX8_of_109 : decode cX8_of 109 = .ok (.ireturn, 1) := by decide +kernel
theorem dX8_of_110 : decode cX8_of 110 = .ok (.aload_n 0, 1) := by decide +kernel
theorem dX8_of_111 : decode cX8_of 111 = .ok (.iconst 0, 1) := by decide +kernel
theorem dX8_of_112 : decode cX8_of 112 = .ok (.invokevirtual 146, 3) := by decide +kernel
theorem dX8_of_115 : decode cX8_of 115 = .ok (.ireturn, 1) := by decide +kernel
theorem dX8_of_116 : decode cX8_of 116 = .ok (.aload_n 0, 1) := by decide +kernel
theorem dX8_of_117 : decode cX8_of 117 = .ok (.iconst 0, 1) := by decide +kernel
theorem dX8_of_118 : decode cX8_of 118 = .ok (.invokevirtual 149, 3) := by decide +kernel
theorem dX8_of_121 : decode cX8_of 121 = .ok (.ireturn, 1) := by decide +kernel
theorem dX8_of_122 : decode cX8_of 122 = .ok (.aload_n 0, 1) := by decide +kernel
theorem dX8_of_123 : decode cX8_of 123 = .ok (.iconst 0, 1) := by decide +kernel
theorem dX8_of_124 : decode cX8_of 124 = .ok (.invokevirtual 152, 3) := by decide +kernel
theorem dX8_of_127 : decode cX8_of 127 = .ok (.ireturn, 1) := by decide +kernel
theorem dX8_of_128 : decode cX8_of 128 = .ok (.bipush (-2), 2) := by decide +kernel
theorem dX8_of_130 : decode cX8_of 130 = .ok (.ireturn, 1) := by decide +kernel
set_option maxRecDepth 20000 in
theorem ggX8_registersThat_X8_load : GoodIn wsX8_registersThat wsX8_load := goodIn_r _ [5, 6, 7, 8, 9, 10, 4, 11, 12, 13, 14, 15, 16, 17, 18, 19, 20, 21, 22, 23, 24, 25, 26, 27, 28, 29, 30, 31, 32, 33, 34, 35, 64, 65, 66, 67, 68, 69, 70, 71, 72, 73, 74, 75, 76, 77, 78, 79, 80, 81, 82, 83] (by decide +kernel) (by decide +kernel)
set_option maxRecDepth 20000 in
theorem gX8_registersThat_X8_load : GoodIn wsX8_registersThat (wsV RX8 116 RX8 yX8_load wsX8_load) := goodIn_app (goodIn_of _ (by decide +kernel)) ggX8_registersThat_X8_load
set_option maxRecDepth 20000 in
theorem ggX8_registersThat_X8_isOwnSquare : GoodIn wsX8_registersThat wsX8_isOwnSquare := goodIn_r _ [39, 40, 41, 42, 4, 43, 44, 45, 46, 47, 7, 6, 32, 33, 34, 35, 48, 49, 50, 51, 52, 53, 54, 55, 20, 21, 22, 23, 56, 57, 58, 59, 64, 65, 66, 67, 68, 69, 70, 71, 72, 73, 74, 75, 76, 77, 78, 79, 80, 81, 82, 83] (by decide +kernel) (by decide +kernel)
set_option maxRecDepth 20000 in
theorem gX8_registersThat_X8_isOwnSquare : GoodIn wsX8_registersThat (wsV RX8 119 RX8 yX8_isOwnSquare wsX8_isOwnSquare) := goodIn_app (goodIn_of _ (by decide +kernel)) ggX8_registersThat_X8_isOwnSquare
set_option maxRecDepth 20000 in
theorem ggX8_registersThat_X8_isNothing : GoodIn wsX8_registersThat wsX8_isNothing := goodIn_r _ [63, 6, 64, 65, 66, 67, 68, 69, 70, 71, 72, 73, 74, 75, 76, 77, 78, 79, 80, 81, 82, 83] (by decide +kernel) (by decide +kernel)
set_option maxRecDepth 20000 in
theorem gX8_registersThat_X8_isNothing : GoodIn wsX8_registersThat (wsV RX8 128 RX8 yX8_isNothing wsX8_isNothing) := goodIn_app (goodIn_of _ (by decide +kernel)) ggX8_registersThat_X8_isNothing
theorem dX8_registersThat_0 : decode cX8_registersThat 0 = .ok (.iconst 0, 1) := by decide +kernel
theorem dX8_registersThat_1 : decode cX8_registersThat 1 = .ok (.istore_n 2, 1) := by decide +kernel
theorem dX8_registersThat_2 : decode cX8_registersThat 2 = .ok (.iconst 0, 1) := by decide +kernel
theorem dX8_registersThat_3 : decode cX8_registersThat 3 = .ok (.istore_n 3, 1) := by decide +kernel
theorem dX8_registersThat_4 : decode cX8_registersThat 4 = .ok (.iload_n 3, 1) := by decide +kernel
theorem dX8_registersThat_5 : decode cX8_registersThat 5 = .ok (.bipush 8, 2) := by decide +kernel
theorem dX8_registersThat_7 : decode cX8_registersThat 7 = .ok (.if_icmp .ge 57, 3) := by decide +kernel
theorem dX8_registersThat_10 : decode cX8_registersThat 10 = .ok (.aload_n 0, 1) := by decide +kernel
theorem dX8_registersThat_11 : decode cX8_registersThat 11 = .ok (.iload_n 3, 1) := by decide +kernel
theorem dX8_registersThat_12 : decode cX8_registersThat 12 = .ok (.iconst 0, 1) := by decide +kernel
theorem dX8_registersThat_13 : decode cX8_registersThat 13 = .ok (.invokevirtual 116, 3) := by decide +kernel
theorem dX8_registersThat_16 : decode cX8_registersThat 16 = .ok (.iload_n 1, 1) := by decide +kernel
theorem dX8_registersThat_17 : decode cX8_registersThat 17 = .ok (.ifCond .eq 11, 3) := by decide +kernel
theorem dX8_registersThat_20 : decode cX8_registersThat 20 = .ok (.aload_n 0, 1) := by decide +kernel
theorem dX8_registersThat_21 : decode cX8_registersThat 21 = .ok (.iconst 0, 1) := by decide +kernel
theorem dX8_registersThat_22 : decode cX8_registersThat 22 = .ok (.invokevirtual 119, 3) := by decide +kernel
theorem dX8_registersThat_25 : decode cX8_registersThat 25 = .ok (.goto 16, 3) := by decide +kernel
theorem dX8_registersThat_28 : decode cX8_registersThat 28 = .ok (.aload_n 0, 1) := by decide +kernel
theorem dX8_registersThat_29 : decode cX8_registersThat 29 = .ok (.iconst 0, 1) := by decide +kernel
theorem dX8_registersThat_30 : decode cX8_registersThat 30 = .ok (.invokevirtual 128, 3) := by decide +kernel
theorem dX8_registersThat_33 : decode cX8_registersThat 33 = .ok (.ifCond .ne 7, 3) := by decide +kernel
theorem dX8_registersThat_36 : decode cX8_registersThat 36 = .ok (.iconst 1, 1) := by decide +kernel
theorem dX8_registersThat_37 : decode cX8_registersThat 37 = .ok (.goto 4, 3) := by decide +kernel
theorem dX8_registersThat_40 : decode cX8_registersThat 40 = .ok (.iconst 0, 1) := by decide +kernel
theorem dX8_registersThat_41 : decode cX8_registersThat 41 = .ok (.istore 4, 2) := by decide +kernel
theorem dX8_registersThat_43 : decode cX8_registersThat 43 = .ok (.iload_n 2, 1) := by decide +kernel
theorem dX8_registersThat_44 : decode cX8_registersThat 44 = .ok (.iload 4, 2) := by decide +kernel
theorem dX8_registersThat_46 : decode cX8_registersThat 46 = .ok (.ifCond .eq 9, 3) := by decide +kernel
theorem dX8_registersThat_49 : decode cX8_registersThat 49 = .ok (.iconst 1, 1) := by decide +kernel
theorem dX8_registersThat_50 : decode cX8_registersThat 50 = .ok (.iload_n 3, 1) := by decide +kernel
theorem dX8_registersThat_51 : decode cX8_registersThat 51 = .ok (.ishl, 1) := by decide +kernel
theorem dX8_registersThat_52 : decode cX8_registersThat 52 = .ok (.goto 4, 3) := by decide +kernel
theorem dX8_registersThat_55 : decode cX8_registersThat 55 = .ok (.iconst 0, 1) := by decide +kernel
theorem dX8_registersThat_56 : decode cX8_registersThat 56 = .ok (.ior, 1) := by decide +kernel
theorem dX8_registersThat_57 : decode cX8_registersThat 57 = .ok (.istore_n 2, 1) := by decide +kernel
theorem dX8_registersThat_58 : decode cX8_registersThat 58 = .ok (.iinc 3 1, 3) := by decide +kernel
theorem dX8_registersThat_61 : decode cX8_registersThat 61 = .ok (.goto (-57), 3) := by decide +kernel
theorem dX8_registersThat_64 : decode cX8_registersThat 64 = .ok (.iload_n 2, 1) := by decide +kernel
theorem dX8_registersThat_65 : decode cX8_registersThat 65 = .ok (.ireturn, 1) := by decide +kernel
set_option maxRecDepth 20000 in
theorem ggX8_count_X8_registersThat : GoodIn wsX8_count wsX8_registersThat := goodIn_r _ [8, 9, 10, 11, 7, 12, 13, 1, 14, 15, 16, 17, 18, 19, 20, 21, 22, 23, 24, 25, 26, 27, 28, 29, 30, 31, 32, 33, 34, 35, 36, 37, 38, 39, 40, 41, 42, 43, 44, 45, 46, 47, 48, 49, 50, 51, 52, 53, 54, 55, 56, 57, 58, 59, 60, 61, 62, 63, 64, 65, 66, 67, 68, 69, 70, 71, 72, 73, 74, 75, 76, 77, 78, 79, 80, 81, 82, 83, 84, 85, 86, 87, 88, 89] (by decide +kernel) (by decide +kernel)
set_option maxRecDepth 20000 in
theorem gX8_count_X8_registersThat : GoodIn wsX8_count (wsV RX8 155 RX8 yX8_registersThat wsX8_registersThat) := goodIn_app (goodIn_of _ (by decide +kernel)) ggX8_count_X8_registersThat
theorem dX8_count_0 : decode cX8_count 0 = .ok (.iload_n 1, 1) := by decide +kernel
theorem dX8_count_1 : decode cX8_count 1 = .ok (.tableswitch 77 0 5 #[39, 47, 55, 61, 67, 72], 39) := by decide +kernel
theorem dX8_count_40 : decode cX8_count 40 = .ok (.aload_n 0, 1) := by decide +kernel
theorem dX8_count_41 : decode cX8_count 41 = .ok (.getfield 7, 3) := by decide +kernel
theorem dX8_count_44 : decode cX8_count 44 = .ok (.bipush 81, 2) := by decide +kernel
theorem dX8_count_46 : decode cX8_count 46 = .ok (.iaload, 1) := by decide +kernel
theorem dX8_count_47 : decode cX8_count 47 = .ok (.ireturn, 1) := by decide +kernel
theorem dX8_count_48 : decode cX8_count 48 = .ok (.aload_n 0, 1) := by decide +kernel
theorem dX8_count_49 : decode cX8_count 49 = .ok (.getfield 7, 3) := by decide +kernel
theorem dX8_count_52 : decode cX8_count 52 = .ok (.bipush 82, 2) := by decide +kernel
theorem dX8_count_54 : decode cX8_count 54 = .ok (.iaload, 1) := by decide +kernel
theorem dX8_count_55 : decode cX8_count 55 = .ok (.ireturn, 1) := by decide +kernel
theorem dX8_count_56 : decode cX8_count 56 = .ok (.aload_n 0, 1) := by decide +kernel
theorem dX8_count_57 : decode cX8_count 57 = .ok (.iconst 0, 1) := by decide +kernel
theorem dX8_count_58 : decode cX8_count 58 = .ok (.invokevirtual 155, 3) := by decide +kernel
theorem dX8_count_61 : decode cX8_count 61 = .ok (.ireturn, 1) := by decide +kernel
theorem dX8_count_62 : decode cX8_count 62 = .ok (.aload_n 0, 1) := by decide +kernel
theorem dX8_count_63 : decode cX8_count 63 = .ok (.iconst 1, 1) := by decide +kernel
theorem dX8_count_64 : decode cX8_count 64 = .ok (.invokevirtual 155, 3) := by decide +kernel
theorem dX8_count_67 : decode cX8_count 67 = .ok (.ireturn, 1) := by decide +kernel
theorem dX8_count_68 : decode cX8_count 68 = .ok (.aload_n 0, 1) := by decide +kernel
theorem dX8_count_69 : decode cX8_count 69 = .ok (.getfield 159, 3) := by decide +kernel
theorem dX8_count_72 : decode cX8_count 72 = .ok (.ireturn, 1) := by decide +kernel
theorem dX8_count_73 : decode cX8_count 73 = .ok (.aload_n 0, 1) := by decide +kernel
theorem dX8_count_74 : decode cX8_count 74 = .ok (.getfield 53, 3) := by decide +kernel
theorem dX8_count_77 : decode cX8_count 77 = .ok (.ireturn, 1) := by decide +kernel
theorem dX8_count_78 : decode cX8_count 78 = .ok (.bipush (-2), 2) := by decide +kernel
theorem dX8_count_80 : decode cX8_count 80 = .ok (.ireturn, 1) := by decide +kernel
set_option maxRecDepth 20000 in
theorem ggX8_areSame_X8_isRegister : GoodIn wsX8_areSame wsX8_isRegister := goodIn_r _ [4, 5, 6, 3, 7] (by decide +kernel) (by decide +kernel)
set_option maxRecDepth 20000 in
theorem gX8_areSame_X8_isRegister : GoodIn wsX8_areSame (va_wsS RX8 109 yX8_isRegister wsX8_isRegister) := goodIn_app (goodIn_of _ (by decide +kernel)) ggX8_areSame_X8_isRegister
set_option maxRecDepth 20000 in
theorem ggX8_areSame_X8_load : GoodIn wsX8_areSame wsX8_load := goodIn_r _ [11, 12, 13, 14, 15, 16, 3, 17, 18, 19, 20, 21, 22, 23, 24, 25, 26, 27, 28, 29, 30, 31, 32, 33, 34, 35, 36, 37, 38, 39, 40, 41, 46, 47, 48, 49, 50, 51, 52, 53, 54, 55, 56, 57, 58, 59, 60, 61, 62, 63, 64, 65] (by decide +kernel) (by decide +kernel)
set_option maxRecDepth 20000 in
theorem gX8_areSame_X8_load : GoodIn wsX8_areSame (wsV RX8 116 RX8 yX8_load wsX8_load) := goodIn_app (goodIn_of _ (by decide +kernel)) ggX8_areSame_X8_load
set_option maxRecDepth 20000 in
theorem ggX8_areSame_X8_areAlike : GoodIn wsX8_areSame wsX8_areAlike := goodIn_r _ [45, 12, 46, 47, 48, 49, 50, 51, 52, 53, 54, 55, 56, 57, 58, 59, 60, 61, 62, 63, 64, 65] (by decide +kernel) (by decide +kernel)
set_option maxRecDepth 20000 in
theorem gX8_areSame_X8_areAlike : GoodIn wsX8_areSame (wsV RX8 102 RX8 yX8_areAlike wsX8_areAlike) := goodIn_app (goodIn_of _ (by decide +kernel)) ggX8_areSame_X8_areAlike
theorem dX8_areSame_0 : decode cX8_areSame 0 = .ok (.iload_n 1, 1) := by decide +kernel
theorem dX8_areSame_1 : decode cX8_areSame 1 = .ok (.invokestatic 109, 3) := by decide +kernel
theorem dX8_areSame_4 : decode cX8_areSame 4 = .ok (.ifCond .eq 10, 3) := by decide +kernel
theorem dX8_areSame_7 : decode cX8_areSame 7 = .ok (.iload_n 2, 1) := by decide +kernel
theorem dX8_areSame_8 : decode cX8_areSame 8 = .ok (.invokestatic 109, 3) := by decide +kernel
theorem dX8_areSame_11 : decode cX8_areSame 11 = .ok (.ifCond .ne 5, 3) := by decide +kernel
theorem dX8_areSame_14 : decode cX8_areSame 14 = .ok (.iconst (-1), 1) := by decide +kernel
theorem dX8_areSame_15 : decode cX8_areSame 15 = .ok (.ireturn, 1) := by decide +kernel
theorem dX8_areSame_16 : decode cX8_areSame 16 = .ok (.aload_n 0, 1) := by decide +kernel
theorem dX8_areSame_17 : decode cX8_areSame 17 = .ok (.iload_n 1, 1) := by decide +kernel
theorem dX8_areSame_18 : decode cX8_areSame 18 = .ok (.iconst 0, 1) := by decide +kernel
theorem dX8_areSame_19 : decode cX8_areSame 19 = .ok (.invokevirtual 116, 3) := by decide +kernel
theorem dX8_areSame_22 : decode cX8_areSame 22 = .ok (.aload_n 0, 1) := by decide +kernel
theorem dX8_areSame_23 : decode cX8_areSame 23 = .ok (.iload_n 2, 1) := by decide +kernel
theorem dX8_areSame_24 : decode cX8_areSame 24 = .ok (.bipush 9, 2) := by decide +kernel
theorem dX8_areSame_26 : decode cX8_areSame 26 = .ok (.invokevirtual 116, 3) := by decide +kernel
theorem dX8_areSame_29 : decode cX8_areSame 29 = .ok (.aload_n 0, 1) := by decide +kernel
theorem dX8_areSame_30 : decode cX8_areSame 30 = .ok (.iconst 0, 1) := by decide +kernel
theorem dX8_areSame_31 : decode cX8_areSame 31 = .ok (.bipush 9, 2) := by decide +kernel
theorem dX8_areSame_33 : decode cX8_areSame 33 = .ok (.invokevirtual 102, 3) := by decide +kernel
theorem dX8_areSame_36 : decode cX8_areSame 36 = .ok (.ifCond .eq 7, 3) := by decide +kernel
theorem dX8_areSame_39 : decode cX8_areSame 39 = .ok (.iconst 1, 1) := by decide +kernel
theorem dX8_areSame_40 : decode cX8_areSame 40 = .ok (.goto 4, 3) := by decide +kernel
theorem dX8_areSame_43 : decode cX8_areSame 43 = .ok (.iconst 0, 1) := by decide +kernel
theorem dX8_areSame_44 : decode cX8_areSame 44 = .ok (.ireturn, 1) := by decide +kernel
set_option maxRecDepth 20000 in
theorem ggX8_power_X8_isRegister : GoodIn wsX8_power wsX8_isRegister := goodIn_r _ [5, 6, 7, 4, 8] (by decide +kernel) (by decide +kernel)
set_option maxRecDepth 20000 in
theorem gX8_power_X8_isRegister : GoodIn wsX8_power (va_wsS RX8 109 yX8_isRegister wsX8_isRegister) := goodIn_app (goodIn_of _ (by decide +kernel)) ggX8_power_X8_isRegister
set_option maxRecDepth 20000 in
theorem ggX8_power_X8_isCell : GoodIn wsX8_power wsX8_isCell := goodIn_r _ [12, 13, 6, 7, 4, 8, 66, 67, 68, 69, 70, 71, 72, 73, 74, 75, 76, 77, 78, 79, 80, 81, 82, 83, 84, 85] (by decide +kernel) (by decide +kernel)
set_option maxRecDepth 20000 in
theorem gX8_power_X8_isCell : GoodIn wsX8_power (wsV RX8 113 RX8 yX8_isCell wsX8_isCell) := goodIn_app (goodIn_of _ (by decide +kernel)) ggX8_power_X8_isCell
set_option maxRecDepth 20000 in
theorem ggX8_power_X8_in : GoodIn wsX8_power wsX8_in := goodIn_r _ [8] (by decide +kernel) (by decide +kernel)
set_option maxRecDepth 20000 in
theorem gX8_power_X8_in : GoodIn wsX8_power (va_wsS RX8 49 yX8_in wsX8_in) := goodIn_app (goodIn_of _ (by decide +kernel)) ggX8_power_X8_in
set_option maxRecDepth 20000 in
theorem ggX8_power_X8_load : GoodIn wsX8_power wsX8_load := goodIn_r _ [17, 1, 13, 18, 19, 20, 4, 21, 22, 23, 24, 25, 26, 27, 28, 29, 30, 31, 32, 33, 34, 35, 36, 37, 38, 39, 40, 41, 42, 43, 44, 45, 66, 67, 68, 69, 70, 71, 72, 73, 74, 75, 76, 77, 78, 79, 80, 81, 82, 83, 84, 85] (by decide +kernel) (by decide +kernel)
set_option maxRecDepth 20000 in
theorem gX8_power_X8_load : GoodIn wsX8_power (wsV RX8 116 RX8 yX8_load wsX8_load) := goodIn_app (goodIn_of _ (by decide +kernel)) ggX8_power_X8_load
set_option maxRecDepth 20000 in
theorem ggX8_power_X8_copy : GoodIn wsX8_power wsX8_copy := goodIn_r _ [49, 1, 66, 67, 68, 69, 70, 71, 72, 73, 74, 75, 76, 77, 78, 79, 80, 81, 82, 83, 84, 85] (by decide +kernel) (by decide +kernel)
set_option maxRecDepth 20000 in
theorem gX8_power_X8_copy : GoodIn wsX8_power (wsV RX8 96 RX8 yX8_copy wsX8_copy) := goodIn_app (goodIn_of _ (by decide +kernel)) ggX8_power_X8_copy
set_option maxRecDepth 20000 in
theorem ggX8_power_X8_product : GoodIn wsX8_power wsX8_product := goodIn_r _ [53, 54, 55, 56, 4, 57, 13, 1, 42, 43, 44, 45, 58, 59, 60, 61, 62, 63, 64, 65, 30, 31, 32, 33, 66, 67, 68, 69, 70, 71, 72, 73, 74, 75, 76, 77, 78, 79, 80, 81, 82, 83, 84, 85] (by decide +kernel) (by decide +kernel)
set_option maxRecDepth 20000 in
theorem gX8_power_X8_product : GoodIn wsX8_power (wsV RX8 99 RX8 yX8_product wsX8_product) := goodIn_app (goodIn_of _ (by decide +kernel)) ggX8_power_X8_product
theorem dX8_power_0 : decode cX8_power 0 = .ok (.iload_n 1, 1) := by decide +kernel
theorem dX8_power_1 : decode cX8_power 1 = .ok (.invokestatic 109, 3) := by decide +kernel
theorem dX8_power_4 : decode cX8_power 4 = .ok (.ifCond .eq 13, 3) := by decide +kernel
theorem dX8_power_7 : decode cX8_power 7 = .ok (.aload_n 0, 1) := by decide +kernel
theorem dX8_power_8 : decode cX8_power 8 = .ok (.iload_n 3, 1) := by decide +kernel
theorem dX8_power_9 : decode cX8_power 9 = .ok (.iload 4, 2) := by decide +kernel
theorem dX8_power_11 : decode cX8_power 11 = .ok (.invokevirtual 113, 3) := by decide +kernel
theorem dX8_power_14 : decode cX8_power 14 = .ok (.ifCond .ne 5, 3) := by decide +kernel
theorem dX8_power_17 : decode cX8_power 17 = .ok (.iconst (-1), 1) := by decide +kernel
theorem dX8_power_18 : decode cX8_power 18 = .ok (.ireturn, 1) := by decide +kernel
theorem dX8_power_19 : decode cX8_power 19 = .ok (.iload_n 2, 1) := by decide +kernel
theorem dX8_power_20 : decode cX8_power 20 = .ok (.iconst 0, 1) := by decide +kernel
theorem dX8_power_21 : decode cX8_power 21 = .ok (.sipush 2000, 3) := by decide +kernel
theorem dX8_power_24 : decode cX8_power 24 = .ok (.invokestatic 49, 3) := by decide +kernel
theorem dX8_power_27 : decode cX8_power 27 = .ok (.ifCond .ne 6, 3) := by decide +kernel
theorem dX8_power_30 : decode cX8_power 30 = .ok (.bipush (-2), 2) := by decide +kernel
theorem dX8_power_32 : decode cX8_power 32 = .ok (.ireturn, 1) := by decide +kernel
theorem dX8_power_33 : decode cX8_power 33 = .ok (.aload_n 0, 1) := by decide +kernel
theorem dX8_power_34 : decode cX8_power 34 = .ok (.iload_n 1, 1) := by decide +kernel
theorem dX8_power_35 : decode cX8_power 35 = .ok (.iconst 0, 1) := by decide +kernel
theorem dX8_power_36 : decode cX8_power 36 = .ok (.invokevirtual 116, 3) := by decide +kernel
theorem dX8_power_39 : decode cX8_power 39 = .ok (.aload_n 0, 1) := by decide +kernel
theorem dX8_power_40 : decode cX8_power 40 = .ok (.bipush 36, 2) := by decide +kernel
theorem dX8_power_42 : decode cX8_power 42 = .ok (.bipush 108, 2) := by decide +kernel
theorem dX8_power_44 : decode cX8_power 44 = .ok (.invokevirtual 96, 3) := by decide +kernel
theorem dX8_power_47 : decode cX8_power 47 = .ok (.iconst 0, 1) := by decide +kernel
theorem dX8_power_48 : decode cX8_power 48 = .ok (.istore 5, 2) := by decide +kernel
theorem dX8_power_50 : decode cX8_power 50 = .ok (.iload 5, 2) := by decide +kernel
theorem dX8_power_52 : decode cX8_power 52 = .ok (.iload_n 2, 1) := by decide +kernel
theorem dX8_power_53 : decode cX8_power 53 = .ok (.if_icmp .ge 18, 3) := by decide +kernel
theorem dX8_power_56 : decode cX8_power 56 = .ok (.aload_n 0, 1) := by decide +kernel
theorem dX8_power_57 : decode cX8_power 57 = .ok (.bipush 108, 2) := by decide +kernel
theorem dX8_power_59 : decode cX8_power 59 = .ok (.iconst 0, 1) := by decide +kernel
theorem dX8_power_60 : decode cX8_power 60 = .ok (.bipush 108, 2) := by decide +kernel
theorem dX8_power_62 : decode cX8_power 62 = .ok (.invokevirtual 99, 3) := by decide +kernel
theorem dX8_power_65 : decode cX8_power 65 = .ok (.iinc 5 1, 3) := by decide +kernel
theorem dX8_power_68 : decode cX8_power 68 = .ok (.goto (-18), 3) := by decide +kernel
theorem dX8_power_71 : decode cX8_power 71 = .ok (.aload_n 0, 1) := by decide +kernel
theorem dX8_power_72 : decode cX8_power 72 = .ok (.getfield 27, 3) := by decide +kernel
theorem dX8_power_75 : decode cX8_power 75 = .ok (.bipush 108, 2) := by decide +kernel
theorem dX8_power_77 : decode cX8_power 77 = .ok (.iconst 3, 1) := by decide +kernel
theorem dX8_power_78 : decode cX8_power 78 = .ok (.iload_n 3, 1) := by decide +kernel
theorem dX8_power_79 : decode cX8_power 79 = .ok (.imul, 1) := by decide +kernel
theorem dX8_power_80 : decode cX8_power 80 = .ok (.iadd, 1) := by decide +kernel
theorem dX8_power_81 : decode cX8_power 81 = .ok (.iload 4, 2) := by decide +kernel
theorem dX8_power_83 : decode cX8_power 83 = .ok (.iadd, 1) := by decide +kernel
theorem dX8_power_84 : decode cX8_power 84 = .ok (.iaload, 1) := by decide +kernel
theorem dX8_power_85 : decode cX8_power 85 = .ok (.ireturn, 1) := by decide +kernel
set_option maxRecDepth 20000 in
theorem ggX8_rule_X8_isRegister : GoodIn wsX8_rule wsX8_isRegister := goodIn_r _ [4, 5, 6, 3, 7] (by decide +kernel) (by decide +kernel)
set_option maxRecDepth 20000 in
theorem gX8_rule_X8_isRegister : GoodIn wsX8_rule (va_wsS RX8 109 yX8_isRegister wsX8_isRegister) := goodIn_app (goodIn_of _ (by decide +kernel)) ggX8_rule_X8_isRegister
set_option maxRecDepth 20000 in
theorem ggX8_rule_X8_in : GoodIn wsX8_rule wsX8_in := goodIn_r _ [7] (by decide +kernel) (by decide +kernel)
set_option maxRecDepth 20000 in
theorem gX8_rule_X8_in : GoodIn wsX8_rule (va_wsS RX8 49 yX8_in wsX8_in) := goodIn_app (goodIn_of _ (by decide +kernel)) ggX8_rule_X8_in
set_option maxRecDepth 20000 in
theorem ggX8_rule_X8_load : GoodIn wsX8_rule wsX8_load := goodIn_r _ [11, 12, 13, 14, 15, 16, 3, 17, 18, 19, 20, 21, 22, 23, 24, 25, 26, 27, 28, 29, 30, 31, 32, 33, 34, 35, 36, 37, 38, 39, 40, 41, 62, 63, 64, 65, 66, 67, 68, 69, 70, 71, 72, 73, 74, 75, 76, 77, 78, 79, 80, 81] (by decide +kernel) (by decide +kernel)
set_option maxRecDepth 20000 in
theorem gX8_rule_X8_load : GoodIn wsX8_rule (wsV RX8 116 RX8 yX8_load wsX8_load) := goodIn_app (goodIn_of _ (by decide +kernel)) ggX8_rule_X8_load
set_option maxRecDepth 20000 in
theorem ggX8_rule_X8_operator : GoodIn wsX8_rule wsX8_operator := goodIn_r _ [45, 46, 47, 48, 3, 49, 13, 12, 38, 39, 40, 41, 50, 51, 52, 53, 62, 63, 64, 65, 66, 67, 68, 69, 70, 71, 72, 73, 74, 75, 76, 77, 78, 79, 80, 81] (by decide +kernel) (by decide +kernel)
set_option maxRecDepth 20000 in
theorem gX8_rule_X8_operator : GoodIn wsX8_rule (wsV RX8 106 RX8 yX8_operator wsX8_operator) := goodIn_app (goodIn_of _ (by decide +kernel)) ggX8_rule_X8_operator
set_option maxRecDepth 20000 in
theorem ggX8_rule_X8_trace : GoodIn wsX8_rule wsX8_trace := goodIn_r _ [57, 12, 13, 62, 63, 64, 65, 66, 67, 68, 69, 70, 71, 72, 73, 74, 75, 76, 77, 78, 79, 80, 81] (by decide +kernel) (by decide +kernel)
set_option maxRecDepth 20000 in
theorem gX8_rule_X8_trace : GoodIn wsX8_rule (wsV RX8 140 RX8 yX8_trace wsX8_trace) := goodIn_app (goodIn_of _ (by decide +kernel)) ggX8_rule_X8_trace
set_option maxRecDepth 20000 in
theorem ggX8_rule_X8_areAlike : GoodIn wsX8_rule wsX8_areAlike := goodIn_r _ [61, 12, 62, 63, 64, 65, 66, 67, 68, 69, 70, 71, 72, 73, 74, 75, 76, 77, 78, 79, 80, 81] (by decide +kernel) (by decide +kernel)
set_option maxRecDepth 20000 in
theorem gX8_rule_X8_areAlike : GoodIn wsX8_rule (wsV RX8 102 RX8 yX8_areAlike wsX8_areAlike) := goodIn_app (goodIn_of _ (by decide +kernel)) ggX8_rule_X8_areAlike
theorem dX8_rule_0 : decode cX8_rule 0 = .ok (.iload_n 1, 1) := by decide +kernel
theorem dX8_rule_1 : decode cX8_rule 1 = .ok (.invokestatic 109, 3) := by decide +kernel
theorem dX8_rule_4 : decode cX8_rule 4 = .ok (.ifCond .eq 17, 3) := by decide +kernel
theorem dX8_rule_7 : decode cX8_rule 7 = .ok (.iload_n 2, 1) := by decide +kernel
theorem dX8_rule_8 : decode cX8_rule 8 = .ok (.invokestatic 109, 3) := by decide +kernel
theorem dX8_rule_11 : decode cX8_rule 11 = .ok (.ifCond .eq 10, 3) := by decide +kernel
theorem dX8_rule_14 : decode cX8_rule 14 = .ok (.iload_n 3, 1) := by decide +kernel
theorem dX8_rule_15 : decode cX8_rule 15 = .ok (.invokestatic 109, 3) := by decide +kernel
theorem dX8_rule_18 : decode cX8_rule 18 = .ok (.ifCond .ne 5, 3) := by decide +kernel
theorem dX8_rule_21 : decode cX8_rule 21 = .ok (.iconst (-1), 1) := by decide +kernel
theorem dX8_rule_22 : decode cX8_rule 22 = .ok (.ireturn, 1) := by decide +kernel
theorem dX8_rule_23 : decode cX8_rule 23 = .ok (.iload 4, 2) := by decide +kernel
theorem dX8_rule_25 : decode cX8_rule 25 = .ok (.iconst 0, 1) := by decide +kernel
theorem dX8_rule_26 : decode cX8_rule 26 = .ok (.iconst 1, 1) := by decide +kernel
theorem dX8_rule_27 : decode cX8_rule 27 = .ok (.invokestatic 49, 3) := by decide +kernel
theorem dX8_rule_30 : decode cX8_rule 30 = .ok (.ifCond .ne 6, 3) := by decide +kernel
theorem dX8_rule_33 : decode cX8_rule 33 = .ok (.bipush (-2), 2) := by decide +kernel
theorem dX8_rule_35 : decode cX8_rule 35 = .ok (.ireturn, 1) := by decide +kernel
theorem dX8_rule_36 : decode cX8_rule 36 = .ok (.aload_n 0, 1) := by decide +kernel
theorem dX8_rule_37 : decode cX8_rule 37 = .ok (.iload_n 1, 1) := by decide +kernel
theorem dX8_rule_38 : decode cX8_rule 38 = .ok (.iconst 0, 1) := by decide +kernel
theorem dX8_rule_39 : decode cX8_rule 39 = .ok (.invokevirtual 116, 3) := by decide +kernel
theorem dX8_rule_42 : decode cX8_rule 42 = .ok (.aload_n 0, 1) := by decide +kernel
theorem dX8_rule_43 : decode cX8_rule 43 = .ok (.iload_n 2, 1) := by decide +kernel
theorem dX8_rule_44 : decode cX8_rule 44 = .ok (.bipush 9, 2) := by decide +kernel
theorem dX8_rule_46 : decode cX8_rule 46 = .ok (.invokevirtual 116, 3) := by decide +kernel
theorem dX8_rule_49 : decode cX8_rule 49 = .ok (.aload_n 0, 1) := by decide +kernel
theorem dX8_rule_50 : decode cX8_rule 50 = .ok (.iload_n 3, 1) := by decide +kernel
theorem dX8_rule_51 : decode cX8_rule 51 = .ok (.bipush 18, 2) := by decide +kernel
theorem dX8_rule_53 : decode cX8_rule 53 = .ok (.invokevirtual 116, 3) := by decide +kernel
theorem dX8_rule_56 : decode cX8_rule 56 = .ok (.aload_n 0, 1) := by decide +kernel
theorem dX8_rule_57 : decode cX8_rule 57 = .ok (.iconst 0, 1) := by decide +kernel
theorem dX8_rule_58 : decode cX8_rule 58 = .ok (.bipush 9, 2) := by decide +kernel
theorem dX8_rule_60 : decode cX8_rule 60 = .ok (.bipush 90, 2) := by decide +kernel
theorem dX8_rule_62 : decode cX8_rule 62 = .ok (.invokevirtual 106, 3) := by decide +kernel
theorem dX8_rule_65 : decode cX8_rule 65 = .ok (.aload_n 0, 1) := by decide +kernel
theorem dX8_rule_66 : decode cX8_rule 66 = .ok (.bipush 90, 2) := by decide +kernel
theorem dX8_rule_68 : decode cX8_rule 68 = .ok (.bipush 18, 2) := by decide +kernel
theorem dX8_rule_70 : decode cX8_rule 70 = .ok (.bipush 81, 2) := by decide +kernel
theorem dX8_rule_72 : decode cX8_rule 72 = .ok (.invokevirtual 106, 3) := by decide +kernel
theorem dX8_rule_75 : decode cX8_rule 75 = .ok (.aload_n 0, 1) := by decide +kernel
theorem dX8_rule_76 : decode cX8_rule 76 = .ok (.iconst 0, 1) := by decide +kernel
theorem dX8_rule_77 : decode cX8_rule 77 = .ok (.bipush 18, 2) := by decide +kernel
theorem dX8_rule_79 : decode cX8_rule 79 = .ok (.bipush 99, 2) := by decide +kernel
theorem dX8_rule_81 : decode cX8_rule 81 = .ok (.invokevirtual 106, 3) := by decide +kernel
theorem dX8_rule_84 : decode cX8_rule 84 = .ok (.aload_n 0, 1) := by decide +kernel
theorem dX8_rule_85 : decode cX8_rule 85 = .ok (.bipush 9, 2) := by decide +kernel
theorem dX8_rule_87 : decode cX8_rule 87 = .ok (.bipush 99, 2) := by decide +kernel
theorem dX8_rule_89 : decode cX8_rule 89 = .ok (.bipush 99, 2) := by decide +kernel
theorem dX8_rule_91 : decode cX8_rule 91 = .ok (.invokevirtual 106, 3) := by decide +kernel
theorem dX8_rule_94 : decode cX8_rule 94 = .ok (.aload_n 0, 1) := by decide +kernel
theorem dX8_rule_95 : decode cX8_rule 95 = .ok (.iconst 0, 1) := by decide +kernel
theorem dX8_rule_96 : decode cX8_rule 96 = .ok (.bipush 99, 2) := by decide +kernel
theorem dX8_rule_98 : decode cX8_rule 98 = .ok (.bipush 99, 2) := by decide +kernel
theorem dX8_rule_100 : decode cX8_rule 100 = .ok (.invokevirtual 106, 3) := by decide +kernel
theorem dX8_rule_103 : decode cX8_rule 103 = .ok (.iload 4, 2) := by decide +kernel
theorem dX8_rule_105 : decode cX8_rule 105 = .ok (.iconst 1, 1) := by decide +kernel
theorem dX8_rule_106 : decode cX8_rule 106 = .ok (.if_icmp .ne 12, 3) := by decide +kernel
theorem dX8_rule_109 : decode cX8_rule 109 = .ok (.aload_n 0, 1) := by decide +kernel
theorem dX8_rule_110 : decode cX8_rule 110 = .ok (.bipush 81, 2) := by decide +kernel
theorem dX8_rule_112 : decode cX8_rule 112 = .ok (.invokevirtual 140, 3) := by decide +kernel
theorem dX8_rule_115 : decode cX8_rule 115 = .ok (.goto 19, 3) := by decide +kernel
theorem dX8_rule_118 : decode cX8_rule 118 = .ok (.aload_n 0, 1) := by decide +kernel
theorem dX8_rule_119 : decode cX8_rule 119 = .ok (.bipush 81, 2) := by decide +kernel
theorem dX8_rule_121 : decode cX8_rule 121 = .ok (.bipush 99, 2) := by decide +kernel
theorem dX8_rule_123 : decode cX8_rule 123 = .ok (.invokevirtual 102, 3) := by decide +kernel
theorem dX8_rule_126 : decode cX8_rule 126 = .ok (.ifCond .eq 7, 3) := by decide +kernel
theorem dX8_rule_129 : decode cX8_rule 129 = .ok (.iconst 1, 1) := by decide +kernel
theorem dX8_rule_130 : decode cX8_rule 130 = .ok (.goto 4, 3) := by decide +kernel
theorem dX8_rule_133 : decode cX8_rule 133 = .ok (.iconst 0, 1) := by decide +kernel
theorem dX8_rule_134 : decode cX8_rule 134 = .ok (.ireturn, 1) := by decide +kernel
set_option maxRecDepth 20000 in
theorem ggX8_partSize_X8_isRegister : GoodIn wsX8_partSize wsX8_isRegister := goodIn_r _ [7, 8, 9, 6, 10] (by decide +kernel) (by decide +kernel)
set_option maxRecDepth 20000 in
theorem gX8_partSize_X8_isRegister : GoodIn wsX8_partSize (va_wsS RX8 109 yX8_isRegister wsX8_isRegister) := goodIn_app (goodIn_of _ (by decide +kernel)) ggX8_partSize_X8_isRegister
set_option maxRecDepth 20000 in
theorem ggX8_partSize_X8_in : GoodIn wsX8_partSize wsX8_in := goodIn_r _ [10] (by decide +kernel) (by decide +kernel)
set_option maxRecDepth 20000 in
theorem gX8_partSize_X8_in : GoodIn wsX8_partSize (va_wsS RX8 49 yX8_in wsX8_in) := goodIn_app (goodIn_of _ (by decide +kernel)) ggX8_partSize_X8_in
set_option maxRecDepth 20000 in
theorem ggX8_partSize_X8_load : GoodIn wsX8_partSize wsX8_load := goodIn_r _ [14, 3, 2, 15, 16, 17, 6, 18, 19, 20, 21, 22, 23, 24, 25, 26, 27, 28, 29, 30, 31, 32, 33, 34, 35, 36, 37, 38, 39, 40, 41, 42, 88, 89, 90, 91, 92, 93, 94, 95, 96, 97, 98, 99, 100, 101, 102, 103, 104, 105, 106, 107] (by decide +kernel) (by decide +kernel)
set_option maxRecDepth 20000 in
theorem gX8_partSize_X8_load : GoodIn wsX8_partSize (wsV RX8 116 RX8 yX8_load wsX8_load) := goodIn_app (goodIn_of _ (by decide +kernel)) ggX8_partSize_X8_load
set_option maxRecDepth 20000 in
theorem ggX8_partSize_X8_isOwnSquare : GoodIn wsX8_partSize wsX8_isOwnSquare := goodIn_r _ [46, 47, 48, 49, 6, 50, 51, 52, 53, 54, 2, 3, 39, 40, 41, 42, 55, 56, 57, 58, 59, 60, 61, 62, 27, 28, 29, 30, 63, 64, 65, 66, 88, 89, 90, 91, 92, 93, 94, 95, 96, 97, 98, 99, 100, 101, 102, 103, 104, 105, 106, 107] (by decide +kernel) (by decide +kernel)
set_option maxRecDepth 20000 in
theorem gX8_partSize_X8_isOwnSquare : GoodIn wsX8_partSize (wsV RX8 119 RX8 yX8_isOwnSquare wsX8_isOwnSquare) := goodIn_app (goodIn_of _ (by decide +kernel)) ggX8_partSize_X8_isOwnSquare
set_option maxRecDepth 20000 in
theorem ggX8_partSize_X8_blank : GoodIn wsX8_partSize wsX8_blank := goodIn_r _ [42, 3, 88, 89, 90, 91, 92, 93, 94, 95, 96, 97, 98, 99, 100, 101, 102, 103, 104, 105, 106, 107] (by decide +kernel) (by decide +kernel)
set_option maxRecDepth 20000 in
theorem gX8_partSize_X8_blank : GoodIn wsX8_partSize (wsV RX8 60 RX8 yX8_blank wsX8_blank) := goodIn_app (goodIn_of _ (by decide +kernel)) ggX8_partSize_X8_blank
set_option maxRecDepth 20000 in
theorem ggX8_partSize_X8_part : GoodIn wsX8_partSize wsX8_part := goodIn_r _ [70, 59, 60, 61, 6, 62, 3, 27, 28, 29, 30, 2, 71, 72, 73, 74, 51, 52, 53, 54, 39, 40, 41, 42, 75, 76, 77, 78, 88, 89, 90, 91, 92, 93, 94, 95, 96, 97, 98, 99, 100, 101, 102, 103, 104, 105, 106, 107] (by decide +kernel) (by decide +kernel)
set_option maxRecDepth 20000 in
theorem gX8_partSize_X8_part : GoodIn wsX8_partSize (wsV RX8 122 RX8 yX8_part wsX8_part) := goodIn_app (goodIn_of _ (by decide +kernel)) ggX8_partSize_X8_part
set_option maxRecDepth 20000 in
theorem ggX8_partSize_X8_isNew : GoodIn wsX8_partSize wsX8_isNew := goodIn_r _ [82, 1, 83, 3, 2, 84, 85, 86, 6, 87, 35, 36, 37, 38, 27, 28, 29, 30, 88, 89, 90, 91, 92, 93, 94, 95, 96, 97, 98, 99, 100, 101, 102, 103, 104, 105, 106, 107] (by decide +kernel) (by decide +kernel)
set_option maxRecDepth 20000 in
theorem gX8_partSize_X8_isNew : GoodIn wsX8_partSize (wsV RX8 137 RX8 yX8_isNew wsX8_isNew) := goodIn_app (goodIn_of _ (by decide +kernel)) ggX8_partSize_X8_isNew
theorem dX8_partSize_0 : decode cX8_partSize 0 = .ok (.iload_n 1, 1) := by decide +kernel
theorem dX8_partSize_1 : decode cX8_partSize 1 = .ok (.invokestatic 109, 3) := by decide +kernel
theorem dX8_partSize_4 : decode cX8_partSize 4 = .ok (.ifCond .ne 5, 3) := by decide +kernel
theorem dX8_partSize_7 : decode cX8_partSize 7 = .ok (.iconst (-1), 1) := by decide +kernel
theorem dX8_partSize_8 : decode cX8_partSize 8 = .ok (.ireturn, 1) := by decide +kernel
theorem dX8_partSize_9 : decode cX8_partSize 9 = .ok (.iload_n 2, 1) := by decide +kernel
theorem dX8_partSize_10 : decode cX8_partSize 10 = .ok (.iconst 0, 1) := by decide +kernel
theorem dX8_partSize_11 : decode cX8_partSize 11 = .ok (.iconst 2, 1) := by decide +kernel
theorem dX8_partSize_12 : decode cX8_partSize 12 = .ok (.invokestatic 49, 3) := by decide +kernel
theorem dX8_partSize_15 : decode cX8_partSize 15 = .ok (.ifCond .ne 6, 3) := by decide +kernel
theorem dX8_partSize_18 : decode cX8_partSize 18 = .ok (.bipush (-2), 2) := by decide +kernel
theorem dX8_partSize_20 : decode cX8_partSize 20 = .ok (.ireturn, 1) := by decide +kernel
theorem dX8_partSize_21 : decode cX8_partSize 21 = .ok (.aload_n 0, 1) := by decide +kernel
theorem dX8_partSize_22 : decode cX8_partSize 22 = .ok (.iload_n 1, 1) := by decide +kernel
theorem dX8_partSize_23 : decode cX8_partSize 23 = .ok (.bipush 90, 2) := by decide +kernel
theorem dX8_partSize_25 : decode cX8_partSize 25 = .ok (.invokevirtual 116, 3) := by decide +kernel
theorem dX8_partSize_28 : decode cX8_partSize 28 = .ok (.aload_n 0, 1) := by decide +kernel
theorem dX8_partSize_29 : decode cX8_partSize 29 = .ok (.bipush 90, 2) := by decide +kernel
theorem dX8_partSize_31 : decode cX8_partSize 31 = .ok (.invokevirtual 119, 3) := by decide +kernel
theorem dX8_partSize_34 : decode cX8_partSize 34 = .ok (.ifCond .ne 6, 3) := by decide +kernel
theorem dX8_partSize_37 : decode cX8_partSize 37 = .ok (.bipush (-5), 2) := by decide +kernel
theorem dX8_partSize_39 : decode cX8_partSize 39 = .ok (.ireturn, 1) := by decide +kernel
theorem dX8_partSize_40 : decode cX8_partSize 40 = .ok (.aload_n 0, 1) := by decide +kernel
theorem dX8_partSize_41 : decode cX8_partSize 41 = .ok (.iconst 0, 1) := by decide +kernel
theorem dX8_partSize_42 : decode cX8_partSize 42 = .ok (.putfield 131, 3) := by decide +kernel
theorem dX8_partSize_45 : decode cX8_partSize 45 = .ok (.iconst 0, 1) := by decide +kernel
theorem dX8_partSize_46 : decode cX8_partSize 46 = .ok (.istore_n 3, 1) := by decide +kernel
theorem dX8_partSize_47 : decode cX8_partSize 47 = .ok (.iconst 0, 1) := by decide +kernel
theorem dX8_partSize_48 : decode cX8_partSize 48 = .ok (.istore 4, 2) := by decide +kernel
theorem dX8_partSize_50 : decode cX8_partSize 50 = .ok (.iload 4, 2) := by decide +kernel
theorem dX8_partSize_52 : decode cX8_partSize 52 = .ok (.aload_n 0, 1) := by decide +kernel
theorem dX8_partSize_53 : decode cX8_partSize 53 = .ok (.getfield 7, 3) := by decide +kernel
theorem dX8_partSize_56 : decode cX8_partSize 56 = .ok (.bipush 81, 2) := by decide +kernel
theorem dX8_partSize_58 : decode cX8_partSize 58 = .ok (.iaload, 1) := by decide +kernel
theorem dX8_partSize_59 : decode cX8_partSize 59 = .ok (.if_icmp .ge 91, 3) := by decide +kernel
theorem dX8_partSize_62 : decode cX8_partSize 62 = .ok (.iload 4, 2) := by decide +kernel
theorem dX8_partSize_64 : decode cX8_partSize 64 = .ok (.istore 5, 2) := by decide +kernel
theorem dX8_partSize_66 : decode cX8_partSize 66 = .ok (.iload 5, 2) := by decide +kernel
theorem dX8_partSize_68 : decode cX8_partSize 68 = .ok (.aload_n 0, 1) := by decide +kernel
theorem dX8_partSize_69 : decode cX8_partSize 69 = .ok (.getfield 7, 3) := by decide +kernel
theorem dX8_partSize_72 : decode cX8_partSize 72 = .ok (.bipush 81, 2) := by decide +kernel
theorem dX8_partSize_74 : decode cX8_partSize 74 = .ok (.iaload, 1) := by decide +kernel
theorem dX8_partSize_75 : decode cX8_partSize 75 = .ok (.if_icmp .ge 69, 3) := by decide +kernel
theorem dX8_partSize_78 : decode cX8_partSize 78 = .ok (.aload_n 0, 1) := by decide +kernel
theorem dX8_partSize_79 : decode cX8_partSize 79 = .ok (.bipush 9, 2) := by decide +kernel
theorem dX8_partSize_81 : decode cX8_partSize 81 = .ok (.invokevirtual 60, 3) := by decide +kernel
theorem dX8_partSize_84 : decode cX8_partSize 84 = .ok (.aload_n 0, 1) := by decide +kernel
theorem dX8_partSize_85 : decode cX8_partSize 85 = .ok (.getfield 27, 3) := by decide +kernel
theorem dX8_partSize_88 : decode cX8_partSize 88 = .ok (.bipush 9, 2) := by decide +kernel
theorem dX8_partSize_90 : decode cX8_partSize 90 = .ok (.iconst 3, 1) := by decide +kernel
theorem dX8_partSize_91 : decode cX8_partSize 91 = .ok (.iload 4, 2) := by decide +kernel
theorem dX8_partSize_93 : decode cX8_partSize 93 = .ok (.imul, 1) := by decide +kernel
theorem dX8_partSize_94 : decode cX8_partSize 94 = .ok (.iadd, 1) := by decide +kernel
theorem dX8_partSize_95 : decode cX8_partSize 95 = .ok (.iload 5, 2) := by decide +kernel
theorem dX8_partSize_97 : decode cX8_partSize 97 = .ok (.iadd, 1) := by decide +kernel
theorem dX8_partSize_98 : decode cX8_partSize 98 = .ok (.iconst 1, 1) := by decide +kernel
theorem dX8_partSize_99 : decode cX8_partSize 99 = .ok (.iastore, 1) := by decide +kernel
theorem dX8_partSize_100 : decode cX8_partSize 100 = .ok (.aload_n 0, 1) := by decide +kernel
theorem dX8_partSize_101 : decode cX8_partSize 101 = .ok (.getfield 27, 3) := by decide +kernel
theorem dX8_partSize_104 : decode cX8_partSize 104 = .ok (.bipush 9, 2) := by decide +kernel
theorem dX8_partSize_106 : decode cX8_partSize 106 = .ok (.iconst 3, 1) := by decide +kernel
theorem dX8_partSize_107 : decode cX8_partSize 107 = .ok (.iload 5, 2) := by decide +kernel
theorem dX8_partSize_109 : decode cX8_partSize 109 = .ok (.imul, 1) := by decide +kernel
theorem dX8_partSize_110 : decode cX8_partSize 110 = .ok (.iadd, 1) := by decide +kernel
theorem dX8_partSize_111 : decode cX8_partSize 111 = .ok (.iload 4, 2) := by decide +kernel
theorem dX8_partSize_113 : decode cX8_partSize 113 = .ok (.iadd, 1) := by decide +kernel
theorem dX8_partSize_114 : decode cX8_partSize 114 = .ok (.iconst 1, 1) := by decide +kernel
theorem dX8_partSize_115 : decode cX8_partSize 115 = .ok (.iastore, 1) := by decide +kernel
theorem dX8_partSize_116 : decode cX8_partSize 116 = .ok (.aload_n 0, 1) := by decide +kernel
theorem dX8_partSize_117 : decode cX8_partSize 117 = .ok (.iload_n 2, 1) := by decide +kernel
theorem dX8_partSize_118 : decode cX8_partSize 118 = .ok (.invokevirtual 122, 3) := by decide +kernel
theorem dX8_partSize_121 : decode cX8_partSize 121 = .ok (.iload_n 3, 1) := by decide +kernel
theorem dX8_partSize_122 : decode cX8_partSize 122 = .ok (.aload_n 0, 1) := by decide +kernel
theorem dX8_partSize_123 : decode cX8_partSize 123 = .ok (.bipush 81, 2) := by decide +kernel
theorem dX8_partSize_125 : decode cX8_partSize 125 = .ok (.invokevirtual 137, 3) := by decide +kernel
theorem dX8_partSize_128 : decode cX8_partSize 128 = .ok (.ifCond .eq 7, 3) := by decide +kernel
theorem dX8_partSize_131 : decode cX8_partSize 131 = .ok (.iconst 1, 1) := by decide +kernel
theorem dX8_partSize_132 : decode cX8_partSize 132 = .ok (.goto 4, 3) := by decide +kernel
theorem dX8_partSize_135 : decode cX8_partSize 135 = .ok (.iconst 0, 1) := by decide +kernel
theorem dX8_partSize_136 : decode cX8_partSize 136 = .ok (.iadd, 1) := by decide +kernel
theorem dX8_partSize_137 : decode cX8_partSize 137 = .ok (.istore_n 3, 1) := by decide +kernel
theorem dX8_partSize_138 : decode cX8_partSize 138 = .ok (.iinc 5 1, 3) := by decide +kernel
theorem dX8_partSize_141 : decode cX8_partSize 141 = .ok (.goto (-75), 3) := by decide +kernel
theorem dX8_partSize_144 : decode cX8_partSize 144 = .ok (.iinc 4 1, 3) := by decide +kernel
theorem dX8_partSize_147 : decode cX8_partSize 147 = .ok (.goto (-97), 3) := by decide +kernel
theorem dX8_partSize_150 : decode cX8_partSize 150 = .ok (.iload_n 3, 1) := by decide +kernel
theorem dX8_partSize_151 : decode cX8_partSize 151 = .ok (.ireturn, 1) := by decide +kernel
set_option maxRecDepth 20000 in
theorem ggX8_isOfKind_X8_isOwnSquare : GoodIn wsX8_isOfKind wsX8_isOwnSquare := goodIn_r _ [5, 6, 7, 8, 4, 9, 10, 11, 12, 13, 14, 15, 16, 17, 18, 19, 20, 21, 22, 23, 24, 25, 26, 27, 28, 29, 30, 31, 32, 33, 34, 35, 56, 57, 58, 59, 60, 61, 62, 63, 64, 65, 66, 67, 68, 69, 70, 71, 72, 73, 74, 75] (by decide +kernel) (by decide +kernel)
set_option maxRecDepth 20000 in
theorem gX8_isOfKind_X8_isOwnSquare : GoodIn wsX8_isOfKind (wsV RX8 119 RX8 yX8_isOwnSquare wsX8_isOwnSquare) := goodIn_app (goodIn_of _ (by decide +kernel)) ggX8_isOfKind_X8_isOwnSquare
set_option maxRecDepth 20000 in
theorem ggX8_isOfKind_X8_determinant : GoodIn wsX8_isOfKind wsX8_determinant := goodIn_r _ [39, 14, 15, 28, 29, 30, 4, 31, 40, 41, 42, 43, 56, 57, 58, 59, 60, 61, 62, 63, 64, 65, 66, 67, 68, 69, 70, 71, 72, 73, 74, 75] (by decide +kernel) (by decide +kernel)
set_option maxRecDepth 20000 in
theorem gX8_isOfKind_X8_determinant : GoodIn wsX8_isOfKind (wsV RX8 72 RX8 yX8_determinant wsX8_determinant) := goodIn_app (goodIn_of _ (by decide +kernel)) ggX8_isOfKind_X8_determinant
set_option maxRecDepth 20000 in
theorem ggX8_isOfKind_X8_endOf : GoodIn wsX8_isOfKind wsX8_endOf := goodIn_r _ [47, 48, 49, 50, 4, 51, 15, 52, 53, 54, 55, 6, 7, 8, 9, 10, 11, 12, 13, 14, 16, 17, 18, 19, 20, 21, 22, 23, 24, 25, 26, 27, 28, 29, 30, 31, 56, 57, 58, 59, 60, 61, 62, 63, 64, 65, 66, 67, 68, 69, 70, 71, 72, 73, 74, 75] (by decide +kernel) (by decide +kernel)
set_option maxRecDepth 20000 in
theorem gX8_isOfKind_X8_endOf : GoodIn wsX8_isOfKind (wsV RX8 152 RX8 yX8_endOf wsX8_endOf) := goodIn_app (goodIn_of _ (by decide +kernel)) ggX8_isOfKind_X8_endOf
set_option maxRecDepth 20000 in
theorem ggX8_isOfKind_X8_product : GoodIn wsX8_isOfKind wsX8_product := goodIn_r _ [9, 10, 11, 12, 4, 13, 14, 15, 16, 17, 18, 19, 20, 21, 22, 23, 24, 25, 26, 27, 28, 29, 30, 31, 56, 57, 58, 59, 60, 61, 62, 63, 64, 65, 66, 67, 68, 69, 70, 71, 72, 73, 74, 75] (by decide +kernel) (by decide +kernel)
set_option maxRecDepth 20000 in
theorem gX8_isOfKind_X8_product : GoodIn wsX8_isOfKind (wsV RX8 99 RX8 yX8_product wsX8_product) := goodIn_app (goodIn_of _ (by decide +kernel)) ggX8_isOfKind_X8_product
set_option maxRecDepth 20000 in
theorem ggX8_isOfKind_X8_areAlike : GoodIn wsX8_isOfKind wsX8_areAlike := goodIn_r _ [35, 15, 56, 57, 58, 59, 60, 61, 62, 63, 64, 65, 66, 67, 68, 69, 70, 71, 72, 73, 74, 75] (by decide +kernel) (by decide +kernel)
set_option maxRecDepth 20000 in
theorem gX8_isOfKind_X8_areAlike : GoodIn wsX8_isOfKind (wsV RX8 102 RX8 yX8_areAlike wsX8_areAlike) := goodIn_app (goodIn_of _ (by decide +kernel)) ggX8_isOfKind_X8_areAlike
theorem dX8_isOfKind_0 : decode cX8_isOfKind 0 = .ok (.iload_n 2, 1) := by decide +kernel
theorem dX8_isOfKind_1 : decode cX8_isOfKind 1 = .ok (.tableswitch 63 0 2 #[27, 33, 47], 27) := by decide +kernel
theorem dX8_isOfKind_28 : decode cX8_isOfKind 28 = .ok (.aload_n 0, 1) := by decide +kernel
theorem dX8_isOfKind_29 : decode cX8_isOfKind 29 = .ok (.iload_n 1, 1) := by decide +kernel
theorem dX8_isOfKind_30 : decode cX8_isOfKind 30 = .ok (.invokevirtual 119, 3) := by decide +kernel
theorem dX8_isOfKind_33 : decode cX8_isOfKind 33 = .ok (.ireturn, 1) := by decide +kernel
theorem dX8_isOfKind_34 : decode cX8_isOfKind 34 = .ok (.aload_n 0, 1) := by decide +kernel
theorem dX8_isOfKind_35 : decode cX8_isOfKind 35 = .ok (.iload_n 1, 1) := by decide +kernel
theorem dX8_isOfKind_36 : decode cX8_isOfKind 36 = .ok (.invokevirtual 72, 3) := by decide +kernel
theorem dX8_isOfKind_39 : decode cX8_isOfKind 39 = .ok (.ifCond .eq 7, 3) := by decide +kernel
theorem dX8_isOfKind_42 : decode cX8_isOfKind 42 = .ok (.iconst 1, 1) := by decide +kernel
theorem dX8_isOfKind_43 : decode cX8_isOfKind 43 = .ok (.goto 4, 3) := by decide +kernel
theorem dX8_isOfKind_46 : decode cX8_isOfKind 46 = .ok (.iconst 0, 1) := by decide +kernel
theorem dX8_isOfKind_47 : decode cX8_isOfKind 47 = .ok (.ireturn, 1) := by decide +kernel
theorem dX8_isOfKind_48 : decode cX8_isOfKind 48 = .ok (.aload_n 0, 1) := by decide +kernel
theorem dX8_isOfKind_49 : decode cX8_isOfKind 49 = .ok (.iload_n 1, 1) := by decide +kernel
theorem dX8_isOfKind_50 : decode cX8_isOfKind 50 = .ok (.invokevirtual 152, 3) := by decide +kernel
theorem dX8_isOfKind_53 : decode cX8_isOfKind 53 = .ok (.bipush (-6), 2) := by decide +kernel
theorem dX8_isOfKind_55 : decode cX8_isOfKind 55 = .ok (.if_icmp .eq 7, 3) := by decide +kernel
theorem dX8_isOfKind_58 : decode cX8_isOfKind 58 = .ok (.iconst 1, 1) := by decide +kernel
theorem dX8_isOfKind_59 : decode cX8_isOfKind 59 = .ok (.goto 4, 3) := by decide +kernel
theorem dX8_isOfKind_62 : decode cX8_isOfKind 62 = .ok (.iconst 0, 1) := by decide +kernel
theorem dX8_isOfKind_63 : decode cX8_isOfKind 63 = .ok (.ireturn, 1) := by decide +kernel
theorem dX8_isOfKind_64 : decode cX8_isOfKind 64 = .ok (.aload_n 0, 1) := by decide +kernel
theorem dX8_isOfKind_65 : decode cX8_isOfKind 65 = .ok (.iload_n 1, 1) := by decide +kernel
theorem dX8_isOfKind_66 : decode cX8_isOfKind 66 = .ok (.iload_n 1, 1) := by decide +kernel
theorem dX8_isOfKind_67 : decode cX8_isOfKind 67 = .ok (.bipush 81, 2) := by decide +kernel
theorem dX8_isOfKind_69 : decode cX8_isOfKind 69 = .ok (.invokevirtual 99, 3) := by decide +kernel
theorem dX8_isOfKind_72 : decode cX8_isOfKind 72 = .ok (.aload_n 0, 1) := by decide +kernel
theorem dX8_isOfKind_73 : decode cX8_isOfKind 73 = .ok (.bipush 81, 2) := by decide +kernel
theorem dX8_isOfKind_75 : decode cX8_isOfKind 75 = .ok (.bipush 36, 2) := by decide +kernel
theorem dX8_isOfKind_77 : decode cX8_isOfKind 77 = .ok (.invokevirtual 102, 3) := by decide +kernel
theorem dX8_isOfKind_80 : decode cX8_isOfKind 80 = .ok (.ireturn, 1) := by decide +kernel
set_option maxRecDepth 20000 in
theorem ggX8_howMany_X8_in : GoodIn wsX8_howMany wsX8_in := goodIn_r _ [6] (by decide +kernel) (by decide +kernel)
set_option maxRecDepth 20000 in
theorem gX8_howMany_X8_in : GoodIn wsX8_howMany (va_wsS RX8 49 yX8_in wsX8_in) := goodIn_app (goodIn_of _ (by decide +kernel)) ggX8_howMany_X8_in
set_option maxRecDepth 20000 in
theorem ggX8_howMany_X8_layBase : GoodIn wsX8_howMany wsX8_layBase := goodIn_r _ [10, 2, 1, 11, 12, 13, 5, 14, 15, 16, 17, 18, 19, 20, 21, 22, 23, 24, 25, 26, 27, 28, 29, 30, 31, 32, 33, 34, 75, 76, 77, 78, 79, 80, 81, 82, 83, 84, 85, 86, 87, 88, 89, 90, 91, 92, 93, 94] (by decide +kernel) (by decide +kernel)
set_option maxRecDepth 20000 in
theorem gX8_howMany_X8_layBase : GoodIn wsX8_howMany (wsV RX8 81 RX8 yX8_layBase wsX8_layBase) := goodIn_app (goodIn_of _ (by decide +kernel)) ggX8_howMany_X8_layBase
set_option maxRecDepth 20000 in
theorem ggX8_howMany_X8_blank : GoodIn wsX8_howMany wsX8_blank := goodIn_r _ [34, 2, 75, 76, 77, 78, 79, 80, 81, 82, 83, 84, 85, 86, 87, 88, 89, 90, 91, 92, 93, 94] (by decide +kernel) (by decide +kernel)
set_option maxRecDepth 20000 in
theorem gX8_howMany_X8_blank : GoodIn wsX8_howMany (wsV RX8 60 RX8 yX8_blank wsX8_blank) := goodIn_app (goodIn_of _ (by decide +kernel)) ggX8_howMany_X8_blank
set_option maxRecDepth 20000 in
theorem ggX8_howMany_X8_isOfKind : GoodIn wsX8_howMany wsX8_isOfKind := goodIn_r _ [38, 39, 40, 41, 5, 42, 43, 44, 45, 46, 47, 48, 49, 50, 1, 2, 31, 32, 33, 34, 51, 52, 53, 54, 55, 56, 57, 58, 19, 20, 21, 22, 59, 60, 61, 62, 15, 16, 17, 18, 23, 24, 25, 26, 63, 64, 65, 66, 67, 68, 69, 70, 71, 72, 73, 74, 75, 76, 77, 78, 79, 80, 81, 82, 83, 84, 85, 86, 87, 88, 89, 90, 91, 92, 93, 94] (by decide +kernel) (by decide +kernel)
set_option maxRecDepth 20000 in
theorem gX8_howMany_X8_isOfKind : GoodIn wsX8_howMany (wsV RX8 162 RX8 yX8_isOfKind wsX8_isOfKind) := goodIn_app (goodIn_of _ (by decide +kernel)) ggX8_howMany_X8_isOfKind
theorem dX8_howMany_0 : decode cX8_howMany 0 = .ok (.iload_n 1, 1) := by decide +kernel
theorem dX8_howMany_1 : decode cX8_howMany 1 = .ok (.iconst 0, 1) := by decide +kernel
theorem dX8_howMany_2 : decode cX8_howMany 2 = .ok (.iconst 3, 1) := by decide +kernel
theorem dX8_howMany_3 : decode cX8_howMany 3 = .ok (.invokestatic 49, 3) := by decide +kernel
theorem dX8_howMany_6 : decode cX8_howMany 6 = .ok (.ifCond .ne 6, 3) := by decide +kernel
theorem dX8_howMany_9 : decode cX8_howMany 9 = .ok (.bipush (-2), 2) := by decide +kernel
theorem dX8_howMany_11 : decode cX8_howMany 11 = .ok (.ireturn, 1) := by decide +kernel
theorem dX8_howMany_12 : decode cX8_howMany 12 = .ok (.aload_n 0, 1) := by decide +kernel
theorem dX8_howMany_13 : decode cX8_howMany 13 = .ok (.getfield 7, 3) := by decide +kernel
theorem dX8_howMany_16 : decode cX8_howMany 16 = .ok (.bipush 81, 2) := by decide +kernel
theorem dX8_howMany_18 : decode cX8_howMany 18 = .ok (.iaload, 1) := by decide +kernel
theorem dX8_howMany_19 : decode cX8_howMany 19 = .ok (.iconst 3, 1) := by decide +kernel
theorem dX8_howMany_20 : decode cX8_howMany 20 = .ok (.if_icmp .ne 6, 3) := by decide +kernel
theorem dX8_howMany_23 : decode cX8_howMany 23 = .ok (.bipush (-5), 2) := by decide +kernel
theorem dX8_howMany_25 : decode cX8_howMany 25 = .ok (.ireturn, 1) := by decide +kernel
theorem dX8_howMany_26 : decode cX8_howMany 26 = .ok (.aload_n 0, 1) := by decide +kernel
theorem dX8_howMany_27 : decode cX8_howMany 27 = .ok (.invokevirtual 81, 3) := by decide +kernel
theorem dX8_howMany_30 : decode cX8_howMany 30 = .ok (.aload_n 0, 1) := by decide +kernel
theorem dX8_howMany_31 : decode cX8_howMany 31 = .ok (.getfield 7, 3) := by decide +kernel
theorem dX8_howMany_34 : decode cX8_howMany 34 = .ok (.bipush 82, 2) := by decide +kernel
theorem dX8_howMany_36 : decode cX8_howMany 36 = .ok (.iaload, 1) := by decide +kernel
theorem dX8_howMany_37 : decode cX8_howMany 37 = .ok (.istore_n 2, 1) := by decide +kernel
theorem dX8_howMany_38 : decode cX8_howMany 38 = .ok (.iconst 0, 1) := by decide +kernel
theorem dX8_howMany_39 : decode cX8_howMany 39 = .ok (.istore_n 3, 1) := by decide +kernel
theorem dX8_howMany_40 : decode cX8_howMany 40 = .ok (.iconst 0, 1) := by decide +kernel
theorem dX8_howMany_41 : decode cX8_howMany 41 = .ok (.istore 4, 2) := by decide +kernel
theorem dX8_howMany_43 : decode cX8_howMany 43 = .ok (.iload 4, 2) := by decide +kernel
theorem dX8_howMany_45 : decode cX8_howMany 45 = .ok (.iload_n 2, 1) := by decide +kernel
theorem dX8_howMany_46 : decode cX8_howMany 46 = .ok (.iload_n 2, 1) := by decide +kernel
theorem dX8_howMany_47 : decode cX8_howMany 47 = .ok (.imul, 1) := by decide +kernel
theorem dX8_howMany_48 : decode cX8_howMany 48 = .ok (.iload_n 2, 1) := by decide +kernel
theorem dX8_howMany_49 : decode cX8_howMany 49 = .ok (.imul, 1) := by decide +kernel
theorem dX8_howMany_50 : decode cX8_howMany 50 = .ok (.if_icmp .ge 77, 3) := by decide +kernel
theorem dX8_howMany_53 : decode cX8_howMany 53 = .ok (.aload_n 0, 1) := by decide +kernel
theorem dX8_howMany_54 : decode cX8_howMany 54 = .ok (.iconst 0, 1) := by decide +kernel
theorem dX8_howMany_55 : decode cX8_howMany 55 = .ok (.invokevirtual 60, 3) := by decide +kernel
theorem dX8_howMany_58 : decode cX8_howMany 58 = .ok (.aload_n 0, 1) := by decide +kernel
theorem dX8_howMany_59 : decode cX8_howMany 59 = .ok (.getfield 27, 3) := by decide +kernel
theorem dX8_howMany_62 : decode cX8_howMany 62 = .ok (.iconst 0, 1) := by decide +kernel
theorem dX8_howMany_63 : decode cX8_howMany 63 = .ok (.iload 4, 2) := by decide +kernel
theorem dX8_howMany_65 : decode cX8_howMany 65 = .ok (.iload_n 2, 1) := by decide +kernel
theorem dX8_howMany_66 : decode cX8_howMany 66 = .ok (.irem, 1) := by decide +kernel
theorem dX8_howMany_67 : decode cX8_howMany 67 = .ok (.iastore, 1) := by decide +kernel
theorem dX8_howMany_68 : decode cX8_howMany 68 = .ok (.aload_n 0, 1) := by decide +kernel
theorem dX8_howMany_69 : decode cX8_howMany 69 = .ok (.getfield 27, 3) := by decide +kernel
theorem dX8_howMany_72 : decode cX8_howMany 72 = .ok (.iconst 1, 1) := by decide +kernel
theorem dX8_howMany_73 : decode cX8_howMany 73 = .ok (.iload 4, 2) := by decide +kernel
theorem dX8_howMany_75 : decode cX8_howMany 75 = .ok (.iload_n 2, 1) := by decide +kernel
theorem dX8_howMany_76 : decode cX8_howMany 76 = .ok (.idiv, 1) := by decide +kernel
theorem dX8_howMany_77 : decode cX8_howMany 77 = .ok (.iload_n 2, 1) := by decide +kernel
theorem dX8_howMany_78 : decode cX8_howMany 78 = .ok (.irem, 1) := by decide +kernel
theorem dX8_howMany_79 : decode cX8_howMany 79 = .ok (.iastore, 1) := by decide +kernel
theorem dX8_howMany_80 : decode cX8_howMany 80 = .ok (.aload_n 0, 1) := by decide +kernel
theorem dX8_howMany_81 : decode cX8_howMany 81 = .ok (.getfield 27, 3) := by decide +kernel
theorem dX8_howMany_84 : decode cX8_howMany 84 = .ok (.iconst 3, 1) := by decide +kernel
theorem dX8_howMany_85 : decode cX8_howMany 85 = .ok (.iload 4, 2) := by decide +kernel
theorem dX8_howMany_87 : decode cX8_howMany 87 = .ok (.iload_n 2, 1) := by decide +kernel
theorem dX8_howMany_88 : decode cX8_howMany 88 = .ok (.idiv, 1) := by decide +kernel
theorem dX8_howMany_89 : decode cX8_howMany 89 = .ok (.iload_n 2, 1) := by decide +kernel
theorem dX8_howMany_90 : decode cX8_howMany 90 = .ok (.irem, 1) := by decide +kernel
theorem dX8_howMany_91 : decode cX8_howMany 91 = .ok (.iastore, 1) := by decide +kernel
theorem dX8_howMany_92 : decode cX8_howMany 92 = .ok (.aload_n 0, 1) := by decide +kernel
theorem dX8_howMany_93 : decode cX8_howMany 93 = .ok (.getfield 27, 3) := by decide +kernel
theorem dX8_howMany_96 : decode cX8_howMany 96 = .ok (.iconst 4, 1) := by decide +kernel
theorem dX8_howMany_97 : decode cX8_howMany 97 = .ok (.iload 4, 2) := by decide +kernel
theorem dX8_howMany_99 : decode cX8_howMany 99 = .ok (.iload_n 2, 1) := by decide +kernel
theorem dX8_howMany_100 : decode cX8_howMany 100 = .ok (.idiv, 1) := by decide +kernel
theorem dX8_howMany_101 : decode cX8_howMany 101 = .ok (.iload_n 2, 1) := by decide +kernel
theorem dX8_howMany_102 : decode cX8_howMany 102 = .ok (.idiv, 1) := by decide +kernel
theorem dX8_howMany_103 : decode cX8_howMany 103 = .ok (.iastore, 1) := by decide +kernel
theorem dX8_howMany_104 : decode cX8_howMany 104 = .ok (.iload_n 3, 1) := by decide +kernel
theorem dX8_howMany_105 : decode cX8_howMany 105 = .ok (.aload_n 0, 1) := by decide +kernel
theorem dX8_howMany_106 : decode cX8_howMany 106 = .ok (.iconst 0, 1) := by decide +kernel
theorem dX8_howMany_107 : decode cX8_howMany 107 = .ok (.iload_n 1, 1) := by decide +kernel
theorem dX8_howMany_108 : decode cX8_howMany 108 = .ok (.invokevirtual 162, 3) := by decide +kernel
theorem dX8_howMany_111 : decode cX8_howMany 111 = .ok (.ifCond .eq 7, 3) := by decide +kernel
theorem dX8_howMany_114 : decode cX8_howMany 114 = .ok (.iconst 1, 1) := by decide +kernel
theorem dX8_howMany_115 : decode cX8_howMany 115 = .ok (.goto 4, 3) := by decide +kernel
theorem dX8_howMany_118 : decode cX8_howMany 118 = .ok (.iconst 0, 1) := by decide +kernel
theorem dX8_howMany_119 : decode cX8_howMany 119 = .ok (.iadd, 1) := by decide +kernel
theorem dX8_howMany_120 : decode cX8_howMany 120 = .ok (.istore_n 3, 1) := by decide +kernel
theorem dX8_howMany_121 : decode cX8_howMany 121 = .ok (.iinc 4 1, 3) := by decide +kernel
theorem dX8_howMany_124 : decode cX8_howMany 124 = .ok (.goto (-81), 3) := by decide +kernel
theorem dX8_howMany_127 : decode cX8_howMany 127 = .ok (.iload_n 3, 1) := by decide +kernel
theorem dX8_howMany_128 : decode cX8_howMany 128 = .ok (.ireturn, 1) := by decide +kernel
set_option maxRecDepth 20000 in
theorem ggX8_put_X8_in : GoodIn wsX8_put wsX8_in := goodIn_r _ [7] (by decide +kernel) (by decide +kernel)
set_option maxRecDepth 20000 in
theorem gX8_put_X8_in : GoodIn wsX8_put (va_wsS RX8 49 yX8_in wsX8_in) := goodIn_app (goodIn_of _ (by decide +kernel)) ggX8_put_X8_in
theorem dX8_put_0 : decode cX8_put 0 = .ok (.iconst 0, 1) := by decide +kernel
theorem dX8_put_1 : decode cX8_put 1 = .ok (.istore_n 3, 1) := by decide +kernel
theorem dX8_put_2 : decode cX8_put 2 = .ok (.lload_n 1, 1) := by decide +kernel
theorem dX8_put_3 : decode cX8_put 3 = .ok (.lstore 4, 2) := by decide +kernel
theorem dX8_put_5 : decode cX8_put 5 = .ok (.iconst 1, 1) := by decide +kernel
theorem dX8_put_6 : decode cX8_put 6 = .ok (.istore 6, 2) := by decide +kernel
theorem dX8_put_8 : decode cX8_put 8 = .ok (.lload 4, 2) := by decide +kernel
theorem dX8_put_10 : decode cX8_put 10 = .ok (.lconst 0, 1) := by decide +kernel
theorem dX8_put_11 : decode cX8_put 11 = .ok (.lcmp, 1) := by decide +kernel
theorem dX8_put_12 : decode cX8_put 12 = .ok (.ifCond .eq 37, 3) := by decide +kernel
theorem dX8_put_15 : decode cX8_put 15 = .ok (.iload 6, 2) := by decide +kernel
theorem dX8_put_17 : decode cX8_put 17 = .ok (.ifCond .eq 32, 3) := by decide +kernel
theorem dX8_put_20 : decode cX8_put 20 = .ok (.lload 4, 2) := by decide +kernel
theorem dX8_put_22 : decode cX8_put 22 = .ok (.ldc2_w 165, 3) := by decide +kernel
theorem dX8_put_25 : decode cX8_put 25 = .ok (.land, 1) := by decide +kernel
theorem dX8_put_26 : decode cX8_put 26 = .ok (.l2i, 1) := by decide +kernel
theorem dX8_put_27 : decode cX8_put 27 = .ok (.bipush 33, 2) := by decide +kernel
theorem dX8_put_29 : decode cX8_put 29 = .ok (.bipush 126, 2) := by decide +kernel
theorem dX8_put_31 : decode cX8_put 31 = .ok (.invokestatic 49, 3) := by decide +kernel
theorem dX8_put_34 : decode cX8_put 34 = .ok (.istore 6, 2) := by decide +kernel
theorem dX8_put_36 : decode cX8_put 36 = .ok (.lload 4, 2) := by decide +kernel
theorem dX8_put_38 : decode cX8_put 38 = .ok (.bipush 8, 2) := by decide +kernel
theorem dX8_put_40 : decode cX8_put 40 = .ok (.lushr, 1) := by decide +kernel
theorem dX8_put_41 : decode cX8_put 41 = .ok (.lstore 4, 2) := by decide +kernel
theorem dX8_put_43 : decode cX8_put 43 = .ok (.iinc 3 1, 3) := by decide +kernel
theorem dX8_put_46 : decode cX8_put 46 = .ok (.goto (-38), 3) := by decide +kernel
theorem dX8_put_49 : decode cX8_put 49 = .ok (.iload_n 3, 1) := by decide +kernel
theorem dX8_put_50 : decode cX8_put 50 = .ok (.ifCond .eq 8, 3) := by decide +kernel
theorem dX8_put_53 : decode cX8_put 53 = .ok (.iload 6, 2) := by decide +kernel
theorem dX8_put_55 : decode cX8_put 55 = .ok (.ifCond .ne 6, 3) := by decide +kernel
theorem dX8_put_58 : decode cX8_put 58 = .ok (.bipush (-2), 2) := by decide +kernel
theorem dX8_put_60 : decode cX8_put 60 = .ok (.ireturn, 1) := by decide +kernel
theorem dX8_put_61 : decode cX8_put 61 = .ok (.aload_n 0, 1) := by decide +kernel
theorem dX8_put_62 : decode cX8_put 62 = .ok (.getfield 159, 3) := by decide +kernel
theorem dX8_put_65 : decode cX8_put 65 = .ok (.iload_n 3, 1) := by decide +kernel
theorem dX8_put_66 : decode cX8_put 66 = .ok (.iadd, 1) := by decide +kernel
theorem dX8_put_67 : decode cX8_put 67 = .ok (.bipush 60, 2) := by decide +kernel
theorem dX8_put_69 : decode cX8_put 69 = .ok (.if_icmp .le 6, 3) := by decide +kernel
theorem dX8_put_72 : decode cX8_put 72 = .ok (.bipush (-4), 2) := by decide +kernel
theorem dX8_put_74 : decode cX8_put 74 = .ok (.ireturn, 1) := by decide +kernel
theorem dX8_put_75 : decode cX8_put 75 = .ok (.iload_n 3, 1) := by decide +kernel
theorem dX8_put_76 : decode cX8_put 76 = .ok (.iconst 1, 1) := by decide +kernel
theorem dX8_put_77 : decode cX8_put 77 = .ok (.isub, 1) := by decide +kernel
theorem dX8_put_78 : decode cX8_put 78 = .ok (.istore 7, 2) := by decide +kernel
theorem dX8_put_80 : decode cX8_put 80 = .ok (.iload 7, 2) := by decide +kernel
theorem dX8_put_82 : decode cX8_put 82 = .ok (.ifCond .lt 41, 3) := by decide +kernel
theorem dX8_put_85 : decode cX8_put 85 = .ok (.aload_n 0, 1) := by decide +kernel
theorem dX8_put_86 : decode cX8_put 86 = .ok (.getfield 23, 3) := by decide +kernel
theorem dX8_put_89 : decode cX8_put 89 = .ok (.aload_n 0, 1) := by decide +kernel
theorem dX8_put_90 : decode cX8_put 90 = .ok (.getfield 159, 3) := by decide +kernel
theorem dX8_put_93 : decode cX8_put 93 = .ok (.lload_n 1, 1) := by decide +kernel
theorem dX8_put_94 : decode cX8_put 94 = .ok (.bipush 8, 2) := by decide +kernel
theorem dX8_put_96 : decode cX8_put 96 = .ok (.iload 7, 2) := by decide +kernel
theorem dX8_put_98 : decode cX8_put 98 = .ok (.imul, 1) := by decide +kernel
theorem dX8_put_99 : decode cX8_put 99 = .ok (.lushr, 1) := by decide +kernel
theorem dX8_put_100 : decode cX8_put 100 = .ok (.ldc2_w 165, 3) := by decide +kernel
theorem dX8_put_103 : decode cX8_put 103 = .ok (.land, 1) := by decide +kernel
theorem dX8_put_104 : decode cX8_put 104 = .ok (.l2i, 1) := by decide +kernel
theorem dX8_put_105 : decode cX8_put 105 = .ok (.i2c, 1) := by decide +kernel
theorem dX8_put_106 : decode cX8_put 106 = .ok (.castore, 1) := by decide +kernel
theorem dX8_put_107 : decode cX8_put 107 = .ok (.aload_n 0, 1) := by decide +kernel
theorem dX8_put_108 : decode cX8_put 108 = .ok (.dup, 1) := by decide +kernel
theorem dX8_put_109 : decode cX8_put 109 = .ok (.getfield 159, 3) := by decide +kernel
theorem dX8_put_112 : decode cX8_put 112 = .ok (.iconst 1, 1) := by decide +kernel
theorem dX8_put_113 : decode cX8_put 113 = .ok (.iadd, 1) := by decide +kernel
theorem dX8_put_114 : decode cX8_put 114 = .ok (.putfield 159, 3) := by decide +kernel
theorem dX8_put_117 : decode cX8_put 117 = .ok (.iinc 7 (-1), 3) := by decide +kernel
theorem dX8_put_120 : decode cX8_put 120 = .ok (.goto (-40), 3) := by decide +kernel
theorem dX8_put_123 : decode cX8_put 123 = .ok (.aload_n 0, 1) := by decide +kernel
theorem dX8_put_124 : decode cX8_put 124 = .ok (.getfield 159, 3) := by decide +kernel
theorem dX8_put_127 : decode cX8_put 127 = .ok (.ireturn, 1) := by decide +kernel
theorem dX8_wipe_0 : decode cX8_wipe 0 = .ok (.aload_n 0, 1) := by decide +kernel
theorem dX8_wipe_1 : decode cX8_wipe 1 = .ok (.getfield 159, 3) := by decide +kernel
theorem dX8_wipe_4 : decode cX8_wipe 4 = .ok (.istore_n 1, 1) := by decide +kernel
theorem dX8_wipe_5 : decode cX8_wipe 5 = .ok (.aload_n 0, 1) := by decide +kernel
theorem dX8_wipe_6 : decode cX8_wipe 6 = .ok (.iconst 0, 1) := by decide +kernel
theorem dX8_wipe_7 : decode cX8_wipe 7 = .ok (.putfield 159, 3) := by decide +kernel
theorem dX8_wipe_10 : decode cX8_wipe 10 = .ok (.iload_n 1, 1) := by decide +kernel
theorem dX8_wipe_11 : decode cX8_wipe 11 = .ok (.ireturn, 1) := by decide +kernel
theorem dX8_isOne_0 : decode cX8_isOne 0 = .ok (.iload_n 0, 1) := by decide +kernel
theorem dX8_isOne_1 : decode cX8_isOne 1 = .ok (.bipush 65, 2) := by decide +kernel
theorem dX8_isOne_3 : decode cX8_isOne 3 = .ok (.if_icmp .lt 9, 3) := by decide +kernel
theorem dX8_isOne_6 : decode cX8_isOne 6 = .ok (.iload_n 0, 1) := by decide +kernel
theorem dX8_isOne_7 : decode cX8_isOne 7 = .ok (.bipush 72, 2) := by decide +kernel
theorem dX8_isOne_9 : decode cX8_isOne 9 = .ok (.if_icmp .le 9, 3) := by decide +kernel
theorem dX8_isOne_12 : decode cX8_isOne 12 = .ok (.iload_n 0, 1) := by decide +kernel
theorem dX8_isOne_13 : decode cX8_isOne 13 = .ok (.bipush 105, 2) := by decide +kernel
theorem dX8_isOne_15 : decode cX8_isOne 15 = .ok (.if_icmp .ne 7, 3) := by decide +kernel
theorem dX8_isOne_18 : decode cX8_isOne 18 = .ok (.iconst 1, 1) := by decide +kernel
theorem dX8_isOne_19 : decode cX8_isOne 19 = .ok (.goto 4, 3) := by decide +kernel
theorem dX8_isOne_22 : decode cX8_isOne 22 = .ok (.iconst 0, 1) := by decide +kernel
theorem dX8_isOne_23 : decode cX8_isOne 23 = .ok (.ireturn, 1) := by decide +kernel
theorem dX8_isLetter_0 : decode cX8_isLetter 0 = .ok (.iload_n 0, 1) := by decide +kernel
theorem dX8_isLetter_1 : decode cX8_isLetter 1 = .ok (.bipush 112, 2) := by decide +kernel
theorem dX8_isLetter_3 : decode cX8_isLetter 3 = .ok (.if_icmp .eq 21, 3) := by decide +kernel
theorem dX8_isLetter_6 : decode cX8_isLetter 6 = .ok (.iload_n 0, 1) := by decide +kernel
theorem dX8_isLetter_7 : decode cX8_isLetter 7 = .ok (.bipush 117, 2) := by decide +kernel
theorem dX8_isLetter_9 : decode cX8_isLetter 9 = .ok (.if_icmp .eq 15, 3) := by decide +kernel
theorem dX8_isLetter_12 : decode cX8_isLetter 12 = .ok (.iload_n 0, 1) := by decide +kernel
theorem dX8_isLetter_13 : decode cX8_isLetter 13 = .ok (.bipush 116, 2) := by decide +kernel
theorem dX8_isLetter_15 : decode cX8_isLetter 15 = .ok (.if_icmp .eq 9, 3) := by decide +kernel
theorem dX8_isLetter_18 : decode cX8_isLetter 18 = .ok (.iload_n 0, 1) := by decide +kernel
theorem dX8_isLetter_19 : decode cX8_isLetter 19 = .ok (.bipush 118, 2) := by decide +kernel
theorem dX8_isLetter_21 : decode cX8_isLetter 21 = .ok (.if_icmp .ne 7, 3) := by decide +kernel
theorem dX8_isLetter_24 : decode cX8_isLetter 24 = .ok (.iconst 1, 1) := by decide +kernel
theorem dX8_isLetter_25 : decode cX8_isLetter 25 = .ok (.goto 4, 3) := by decide +kernel
theorem dX8_isLetter_28 : decode cX8_isLetter 28 = .ok (.iconst 0, 1) := by decide +kernel
theorem dX8_isLetter_29 : decode cX8_isLetter 29 = .ok (.ireturn, 1) := by decide +kernel
theorem dX8_sumsOf_0 : decode cX8_sumsOf 0 = .ok (.iload_n 1, 1) := by decide +kernel
theorem dX8_sumsOf_1 : decode cX8_sumsOf 1 = .ok (.bipush 116, 2) := by decide +kernel
theorem dX8_sumsOf_3 : decode cX8_sumsOf 3 = .ok (.if_icmp .ne 7, 3) := by decide +kernel
theorem dX8_sumsOf_6 : decode cX8_sumsOf 6 = .ok (.iconst 3, 1) := by decide +kernel
theorem dX8_sumsOf_7 : decode cX8_sumsOf 7 = .ok (.goto 20, 3) := by decide +kernel
theorem dX8_sumsOf_10 : decode cX8_sumsOf 10 = .ok (.iload_n 1, 1) := by decide +kernel
theorem dX8_sumsOf_11 : decode cX8_sumsOf 11 = .ok (.bipush 112, 2) := by decide +kernel
theorem dX8_sumsOf_13 : decode cX8_sumsOf 13 = .ok (.if_icmp .eq 9, 3) := by decide +kernel
theorem dX8_sumsOf_16 : decode cX8_sumsOf 16 = .ok (.iload_n 1, 1) := by decide +kernel
theorem dX8_sumsOf_17 : decode cX8_sumsOf 17 = .ok (.bipush 117, 2) := by decide +kernel
theorem dX8_sumsOf_19 : decode cX8_sumsOf 19 = .ok (.if_icmp .ne 7, 3) := by decide +kernel
theorem dX8_sumsOf_22 : decode cX8_sumsOf 22 = .ok (.iconst 2, 1) := by decide +kernel
theorem dX8_sumsOf_23 : decode cX8_sumsOf 23 = .ok (.goto 4, 3) := by decide +kernel
theorem dX8_sumsOf_26 : decode cX8_sumsOf 26 = .ok (.iconst 1, 1) := by decide +kernel
theorem dX8_sumsOf_27 : decode cX8_sumsOf 27 = .ok (.ireturn, 1) := by decide +kernel
theorem dX8_pileOf_0 : decode cX8_pileOf 0 = .ok (.sipush 144, 3) := by decide +kernel
theorem dX8_pileOf_3 : decode cX8_pileOf 3 = .ok (.bipush 27, 2) := by decide +kernel
theorem dX8_pileOf_5 : decode cX8_pileOf 5 = .ok (.iload_n 1, 1) := by decide +kernel
theorem dX8_pileOf_6 : decode cX8_pileOf 6 = .ok (.imul, 1) := by decide +kernel
theorem dX8_pileOf_7 : decode cX8_pileOf 7 = .ok (.iadd, 1) := by decide +kernel
theorem dX8_pileOf_8 : decode cX8_pileOf 8 = .ok (.bipush 9, 2) := by decide +kernel
theorem dX8_pileOf_10 : decode cX8_pileOf 10 = .ok (.iload_n 2, 1) := by decide +kernel
theorem dX8_pileOf_11 : decode cX8_pileOf 11 = .ok (.imul, 1) := by decide +kernel
theorem dX8_pileOf_12 : decode cX8_pileOf 12 = .ok (.iadd, 1) := by decide +kernel
theorem dX8_pileOf_13 : decode cX8_pileOf 13 = .ok (.ireturn, 1) := by decide +kernel
set_option maxRecDepth 20000 in
theorem ggX8_opens_X8_pileOf : GoodIn wsX8_opens wsX8_pileOf := goodIn_r _ [10] (by decide +kernel) (by decide +kernel)
set_option maxRecDepth 20000 in
theorem gX8_opens_X8_pileOf : GoodIn wsX8_opens (wsV RX8 170 RX8 yX8_pileOf wsX8_pileOf) := goodIn_app (goodIn_of _ (by decide +kernel)) ggX8_opens_X8_pileOf
set_option maxRecDepth 20000 in
theorem ggX8_opens_X8_blank : GoodIn wsX8_opens wsX8_blank := goodIn_r _ [14, 15, 16, 17, 18, 19, 20, 21, 22, 23, 24, 25, 26, 27, 28, 29, 30, 31, 32, 33, 34, 35] (by decide +kernel) (by decide +kernel)
set_option maxRecDepth 20000 in
theorem gX8_opens_X8_blank : GoodIn wsX8_opens (wsV RX8 60 RX8 yX8_blank wsX8_blank) := goodIn_app (goodIn_of _ (by decide +kernel)) ggX8_opens_X8_blank
theorem dX8_opens_0 : decode cX8_opens 0 = .ok (.aload_n 0, 1) := by decide +kernel
theorem dX8_opens_1 : decode cX8_opens 1 = .ok (.dup, 1) := by decide +kernel
theorem dX8_opens_2 : decode cX8_opens 2 = .ok (.getfield 167, 3) := by decide +kernel
theorem dX8_opens_5 : decode cX8_opens 5 = .ok (.iconst 1, 1) := by decide +kernel
theorem dX8_opens_6 : decode cX8_opens 6 = .ok (.iadd, 1) := by decide +kernel
theorem dX8_opens_7 : decode cX8_opens 7 = .ok (.putfield 167, 3) := by decide +kernel
theorem dX8_opens_10 : decode cX8_opens 10 = .ok (.aload_n 0, 1) := by decide +kernel
theorem dX8_opens_11 : decode cX8_opens 11 = .ok (.getfield 33, 3) := by decide +kernel
theorem dX8_opens_14 : decode cX8_opens 14 = .ok (.aload_n 0, 1) := by decide +kernel
theorem dX8_opens_15 : decode cX8_opens 15 = .ok (.getfield 167, 3) := by decide +kernel
theorem dX8_opens_18 : decode cX8_opens 18 = .ok (.iload_n 1, 1) := by decide +kernel
theorem dX8_opens_19 : decode cX8_opens 19 = .ok (.iastore, 1) := by decide +kernel
theorem dX8_opens_20 : decode cX8_opens 20 = .ok (.aload_n 0, 1) := by decide +kernel
theorem dX8_opens_21 : decode cX8_opens 21 = .ok (.getfield 42, 3) := by decide +kernel
theorem dX8_opens_24 : decode cX8_opens 24 = .ok (.aload_n 0, 1) := by decide +kernel
theorem dX8_opens_25 : decode cX8_opens 25 = .ok (.getfield 167, 3) := by decide +kernel
theorem dX8_opens_28 : decode cX8_opens 28 = .ok (.iload_n 2, 1) := by decide +kernel
theorem dX8_opens_29 : decode cX8_opens 29 = .ok (.iastore, 1) := by decide +kernel
theorem dX8_opens_30 : decode cX8_opens 30 = .ok (.aload_n 0, 1) := by decide +kernel
theorem dX8_opens_31 : decode cX8_opens 31 = .ok (.getfield 36, 3) := by decide +kernel
theorem dX8_opens_34 : decode cX8_opens 34 = .ok (.aload_n 0, 1) := by decide +kernel
theorem dX8_opens_35 : decode cX8_opens 35 = .ok (.getfield 167, 3) := by decide +kernel
theorem dX8_opens_38 : decode cX8_opens 38 = .ok (.iconst 0, 1) := by decide +kernel
theorem dX8_opens_39 : decode cX8_opens 39 = .ok (.iastore, 1) := by decide +kernel
theorem dX8_opens_40 : decode cX8_opens 40 = .ok (.aload_n 0, 1) := by decide +kernel
theorem dX8_opens_41 : decode cX8_opens 41 = .ok (.getfield 39, 3) := by decide +kernel
theorem dX8_opens_44 : decode cX8_opens 44 = .ok (.aload_n 0, 1) := by decide +kernel
theorem dX8_opens_45 : decode cX8_opens 45 = .ok (.getfield 167, 3) := by decide +kernel
theorem dX8_opens_48 : decode cX8_opens 48 = .ok (.iconst 1, 1) := by decide +kernel
theorem dX8_opens_49 : decode cX8_opens 49 = .ok (.iastore, 1) := by decide +kernel
theorem dX8_opens_50 : decode cX8_opens 50 = .ok (.aload_n 0, 1) := by decide +kernel
theorem dX8_opens_51 : decode cX8_opens 51 = .ok (.aload_n 0, 1) := by decide +kernel
theorem dX8_opens_52 : decode cX8_opens 52 = .ok (.aload_n 0, 1) := by decide +kernel
theorem dX8_opens_53 : decode cX8_opens 53 = .ok (.getfield 167, 3) := by decide +kernel
theorem dX8_opens_56 : decode cX8_opens 56 = .ok (.iconst 0, 1) := by decide +kernel
theorem dX8_opens_57 : decode cX8_opens 57 = .ok (.invokevirtual 170, 3) := by decide +kernel
theorem dX8_opens_60 : decode cX8_opens 60 = .ok (.invokevirtual 60, 3) := by decide +kernel
theorem dX8_opens_63 : decode cX8_opens 63 = .ok (.return_, 1) := by decide +kernel
set_option maxRecDepth 20000 in
theorem ggX8_counts_X8_pileOf : GoodIn wsX8_counts wsX8_pileOf := goodIn_r _ [10] (by decide +kernel) (by decide +kernel)
set_option maxRecDepth 20000 in
theorem gX8_counts_X8_pileOf : GoodIn wsX8_counts (wsV RX8 170 RX8 yX8_pileOf wsX8_pileOf) := goodIn_app (goodIn_of _ (by decide +kernel)) ggX8_counts_X8_pileOf
set_option maxRecDepth 20000 in
theorem ggX8_counts_X8_add : GoodIn wsX8_counts wsX8_add := goodIn_r _ [14, 15, 16, 17, 18, 9, 19, 20, 21, 22, 23, 24, 25, 26, 27, 28, 29, 30, 31, 32, 33, 34, 35, 36, 37, 38, 39, 40] (by decide +kernel) (by decide +kernel)
set_option maxRecDepth 20000 in
theorem gX8_counts_X8_add : GoodIn wsX8_counts (wsV RX8 92 RX8 yX8_add wsX8_add) := goodIn_app (goodIn_of _ (by decide +kernel)) ggX8_counts_X8_add
theorem dX8_counts_0 : decode cX8_counts 0 = .ok (.aload_n 0, 1) := by decide +kernel
theorem dX8_counts_1 : decode cX8_counts 1 = .ok (.aload_n 0, 1) := by decide +kernel
theorem dX8_counts_2 : decode cX8_counts 2 = .ok (.getfield 167, 3) := by decide +kernel
theorem dX8_counts_5 : decode cX8_counts 5 = .ok (.aload_n 0, 1) := by decide +kernel
theorem dX8_counts_6 : decode cX8_counts 6 = .ok (.getfield 36, 3) := by decide +kernel
theorem dX8_counts_9 : decode cX8_counts 9 = .ok (.aload_n 0, 1) := by decide +kernel
theorem dX8_counts_10 : decode cX8_counts 10 = .ok (.getfield 167, 3) := by decide +kernel
theorem dX8_counts_13 : decode cX8_counts 13 = .ok (.iaload, 1) := by decide +kernel
theorem dX8_counts_14 : decode cX8_counts 14 = .ok (.invokevirtual 170, 3) := by decide +kernel
theorem dX8_counts_17 : decode cX8_counts 17 = .ok (.istore_n 2, 1) := by decide +kernel
theorem dX8_counts_18 : decode cX8_counts 18 = .ok (.aload_n 0, 1) := by decide +kernel
theorem dX8_counts_19 : decode cX8_counts 19 = .ok (.getfield 174, 3) := by decide +kernel
theorem dX8_counts_22 : decode cX8_counts 22 = .ok (.ifCond .eq 20, 3) := by decide +kernel
theorem dX8_counts_25 : decode cX8_counts 25 = .ok (.aload_n 0, 1) := by decide +kernel
theorem dX8_counts_26 : decode cX8_counts 26 = .ok (.iload_n 2, 1) := by decide +kernel
theorem dX8_counts_27 : decode cX8_counts 27 = .ok (.iconst 1, 1) := by decide +kernel
theorem dX8_counts_28 : decode cX8_counts 28 = .ok (.iload_n 1, 1) := by decide +kernel
theorem dX8_counts_29 : decode cX8_counts 29 = .ok (.aload_n 0, 1) := by decide +kernel
theorem dX8_counts_30 : decode cX8_counts 30 = .ok (.getfield 39, 3) := by decide +kernel
theorem dX8_counts_33 : decode cX8_counts 33 = .ok (.aload_n 0, 1) := by decide +kernel
theorem dX8_counts_34 : decode cX8_counts 34 = .ok (.getfield 167, 3) := by decide +kernel
theorem dX8_counts_37 : decode cX8_counts 37 = .ok (.iaload, 1) := by decide +kernel
theorem dX8_counts_38 : decode cX8_counts 38 = .ok (.iload_n 2, 1) := by decide +kernel
theorem dX8_counts_39 : decode cX8_counts 39 = .ok (.invokevirtual 92, 3) := by decide +kernel
theorem dX8_counts_42 : decode cX8_counts 42 = .ok (.aload_n 0, 1) := by decide +kernel
theorem dX8_counts_43 : decode cX8_counts 43 = .ok (.iconst 4, 1) := by decide +kernel
theorem dX8_counts_44 : decode cX8_counts 44 = .ok (.putfield 178, 3) := by decide +kernel
theorem dX8_counts_47 : decode cX8_counts 47 = .ok (.return_, 1) := by decide +kernel
set_option maxRecDepth 20000 in
theorem ggX8_closes_X8_pileOf : GoodIn wsX8_closes wsX8_pileOf := goodIn_r _ [11] (by decide +kernel) (by decide +kernel)
set_option maxRecDepth 20000 in
theorem gX8_closes_X8_pileOf : GoodIn wsX8_closes (wsV RX8 170 RX8 yX8_pileOf wsX8_pileOf) := goodIn_app (goodIn_of _ (by decide +kernel)) ggX8_closes_X8_pileOf
set_option maxRecDepth 20000 in
theorem ggX8_closes_X8_product : GoodIn wsX8_closes wsX8_product := goodIn_r _ [15, 16, 17, 18, 10, 19, 20, 21, 22, 23, 24, 25, 26, 27, 28, 29, 30, 31, 32, 33, 34, 35, 36, 37, 76, 77, 78, 79, 80, 81, 82, 83, 84, 85, 86, 87, 88, 89, 90, 91, 92, 93, 94, 95] (by decide +kernel) (by decide +kernel)
set_option maxRecDepth 20000 in
theorem gX8_closes_X8_product : GoodIn wsX8_closes (wsV RX8 99 RX8 yX8_product wsX8_product) := goodIn_app (goodIn_of _ (by decide +kernel)) ggX8_closes_X8_product
set_option maxRecDepth 20000 in
theorem ggX8_closes_X8_operator : GoodIn wsX8_closes wsX8_operator := goodIn_r _ [41, 16, 17, 18, 10, 19, 20, 21, 22, 23, 24, 25, 42, 43, 44, 45, 76, 77, 78, 79, 80, 81, 82, 83, 84, 85, 86, 87, 88, 89, 90, 91, 92, 93, 94, 95] (by decide +kernel) (by decide +kernel)
set_option maxRecDepth 20000 in
theorem gX8_closes_X8_operator : GoodIn wsX8_closes (wsV RX8 106 RX8 yX8_operator wsX8_operator) := goodIn_app (goodIn_of _ (by decide +kernel)) ggX8_closes_X8_operator
set_option maxRecDepth 20000 in
theorem ggX8_closes_X8_triple : GoodIn wsX8_closes wsX8_triple := goodIn_r _ [49, 16, 17, 18, 10, 19, 20, 21, 22, 23, 24, 25, 26, 27, 28, 29, 30, 31, 32, 33, 34, 35, 36, 37, 76, 77, 78, 79, 80, 81, 82, 83, 84, 85, 86, 87, 88, 89, 90, 91, 92, 93, 94, 95] (by decide +kernel) (by decide +kernel)
set_option maxRecDepth 20000 in
theorem gX8_closes_X8_triple : GoodIn wsX8_closes (wsV RX8 181 RX8 yX8_triple wsX8_triple) := goodIn_app (goodIn_of _ (by decide +kernel)) ggX8_closes_X8_triple
set_option maxRecDepth 20000 in
theorem ggX8_closes_X8_inverse : GoodIn wsX8_closes wsX8_inverse := goodIn_r _ [53, 54, 55, 56, 10, 57, 20, 21, 34, 35, 36, 37, 58, 59, 60, 61, 62, 63, 64, 65, 66, 67, 68, 69, 22, 23, 24, 25, 16, 17, 18, 19, 42, 43, 44, 45, 76, 77, 78, 79, 80, 81, 82, 83, 84, 85, 86, 87, 88, 89, 90, 91, 92, 93, 94, 95] (by decide +kernel) (by decide +kernel)
set_option maxRecDepth 20000 in
theorem gX8_closes_X8_inverse : GoodIn wsX8_closes (wsV RX8 185 RX8 yX8_inverse wsX8_inverse) := goodIn_app (goodIn_of _ (by decide +kernel)) ggX8_closes_X8_inverse
set_option maxRecDepth 20000 in
theorem ggX8_closes_X8_copy : GoodIn wsX8_closes wsX8_copy := goodIn_r _ [45, 21, 76, 77, 78, 79, 80, 81, 82, 83, 84, 85, 86, 87, 88, 89, 90, 91, 92, 93, 94, 95] (by decide +kernel) (by decide +kernel)
set_option maxRecDepth 20000 in
theorem gX8_closes_X8_copy : GoodIn wsX8_closes (wsV RX8 96 RX8 yX8_copy wsX8_copy) := goodIn_app (goodIn_of _ (by decide +kernel)) ggX8_closes_X8_copy
set_option maxRecDepth 20000 in
theorem ggX8_closes_X8_counts : GoodIn wsX8_closes wsX8_counts := goodIn_r _ [73, 1, 2, 3, 74, 75, 7, 8, 9, 10, 11, 30, 31, 32, 33, 21, 34, 35, 36, 37, 20, 76, 77, 78, 79, 80, 81, 82, 83, 84, 85, 86, 87, 88, 89, 90, 91, 92, 93, 94, 95] (by decide +kernel) (by decide +kernel)
set_option maxRecDepth 20000 in
theorem gX8_closes_X8_counts : GoodIn wsX8_closes (wsV RX8 191 RX8 yX8_counts wsX8_counts) := goodIn_app (goodIn_of _ (by decide +kernel)) ggX8_closes_X8_counts
theorem dX8_closes_0 : decode cX8_closes 0 = .ok (.aload_n 0, 1) := by decide +kernel
theorem dX8_closes_1 : decode cX8_closes 1 = .ok (.getfield 167, 3) := by decide +kernel
theorem dX8_closes_4 : decode cX8_closes 4 = .ok (.istore_n 1, 1) := by decide +kernel
theorem dX8_closes_5 : decode cX8_closes 5 = .ok (.aload_n 0, 1) := by decide +kernel
theorem dX8_closes_6 : decode cX8_closes 6 = .ok (.iload_n 1, 1) := by decide +kernel
theorem dX8_closes_7 : decode cX8_closes 7 = .ok (.aload_n 0, 1) := by decide +kernel
theorem dX8_closes_8 : decode cX8_closes 8 = .ok (.getfield 36, 3) := by decide +kernel
theorem dX8_closes_11 : decode cX8_closes 11 = .ok (.iload_n 1, 1) := by decide +kernel
theorem dX8_closes_12 : decode cX8_closes 12 = .ok (.iaload, 1) := by decide +kernel
theorem dX8_closes_13 : decode cX8_closes 13 = .ok (.invokevirtual 170, 3) := by decide +kernel
theorem dX8_closes_16 : decode cX8_closes 16 = .ok (.istore_n 2, 1) := by decide +kernel
theorem dX8_closes_17 : decode cX8_closes 17 = .ok (.aload_n 0, 1) := by decide +kernel
theorem dX8_closes_18 : decode cX8_closes 18 = .ok (.dup, 1) := by decide +kernel
theorem dX8_closes_19 : decode cX8_closes 19 = .ok (.getfield 167, 3) := by decide +kernel
theorem dX8_closes_22 : decode cX8_closes 22 = .ok (.iconst 1, 1) := by decide +kernel
theorem dX8_closes_23 : decode cX8_closes 23 = .ok (.isub, 1) := by decide +kernel
theorem dX8_closes_24 : decode cX8_closes 24 = .ok (.putfield 167, 3) := by decide +kernel
theorem dX8_closes_27 : decode cX8_closes 27 = .ok (.aload_n 0, 1) := by decide +kernel
theorem dX8_closes_28 : decode cX8_closes 28 = .ok (.getfield 174, 3) := by decide +kernel
theorem dX8_closes_31 : decode cX8_closes 31 = .ok (.ifCond .eq 141, 3) := by decide +kernel
theorem dX8_closes_34 : decode cX8_closes 34 = .ok (.aload_n 0, 1) := by decide +kernel
theorem dX8_closes_35 : decode cX8_closes 35 = .ok (.getfield 33, 3) := by decide +kernel
theorem dX8_closes_38 : decode cX8_closes 38 = .ok (.iload_n 1, 1) := by decide +kernel
theorem dX8_closes_39 : decode cX8_closes 39 = .ok (.iaload, 1) := by decide +kernel
theorem dX8_closes_40 : decode cX8_closes 40 = .ok (.bipush 112, 2) := by decide +kernel
theorem dX8_closes_42 : decode cX8_closes 42 = .ok (.if_icmp .ne 20, 3) := by decide +kernel
theorem dX8_closes_45 : decode cX8_closes 45 = .ok (.aload_n 0, 1) := by decide +kernel
theorem dX8_closes_46 : decode cX8_closes 46 = .ok (.aload_n 0, 1) := by decide +kernel
theorem dX8_closes_47 : decode cX8_closes 47 = .ok (.iload_n 1, 1) := by decide +kernel
theorem dX8_closes_48 : decode cX8_closes 48 = .ok (.iconst 0, 1) := by decide +kernel
theorem dX8_closes_49 : decode cX8_closes 49 = .ok (.invokevirtual 170, 3) := by decide +kernel
theorem dX8_closes_52 : decode cX8_closes 52 = .ok (.iload_n 2, 1) := by decide +kernel
theorem dX8_closes_53 : decode cX8_closes 53 = .ok (.sipush 135, 3) := by decide +kernel
theorem dX8_closes_56 : decode cX8_closes 56 = .ok (.invokevirtual 99, 3) := by decide +kernel
theorem dX8_closes_59 : decode cX8_closes 59 = .ok (.goto 113, 3) := by decide +kernel
theorem dX8_closes_62 : decode cX8_closes 62 = .ok (.aload_n 0, 1) := by decide +kernel
theorem dX8_closes_63 : decode cX8_closes 63 = .ok (.getfield 33, 3) := by decide +kernel
theorem dX8_closes_66 : decode cX8_closes 66 = .ok (.iload_n 1, 1) := by decide +kernel
theorem dX8_closes_67 : decode cX8_closes 67 = .ok (.iaload, 1) := by decide +kernel
theorem dX8_closes_68 : decode cX8_closes 68 = .ok (.bipush 117, 2) := by decide +kernel
theorem dX8_closes_70 : decode cX8_closes 70 = .ok (.if_icmp .ne 20, 3) := by decide +kernel
theorem dX8_closes_73 : decode cX8_closes 73 = .ok (.aload_n 0, 1) := by decide +kernel
theorem dX8_closes_74 : decode cX8_closes 74 = .ok (.aload_n 0, 1) := by decide +kernel
theorem dX8_closes_75 : decode cX8_closes 75 = .ok (.iload_n 1, 1) := by decide +kernel
theorem dX8_closes_76 : decode cX8_closes 76 = .ok (.iconst 0, 1) := by decide +kernel
theorem dX8_closes_77 : decode cX8_closes 77 = .ok (.invokevirtual 170, 3) := by decide +kernel
theorem dX8_closes_80 : decode cX8_closes 80 = .ok (.iload_n 2, 1) := by decide +kernel
theorem dX8_closes_81 : decode cX8_closes 81 = .ok (.sipush 135, 3) := by decide +kernel
theorem dX8_closes_84 : decode cX8_closes 84 = .ok (.invokevirtual 106, 3) := by decide +kernel
theorem dX8_closes_87 : decode cX8_closes 87 = .ok (.goto 85, 3) := by decide +kernel
theorem dX8_closes_90 : decode cX8_closes 90 = .ok (.aload_n 0, 1) := by decide +kernel
theorem dX8_closes_91 : decode cX8_closes 91 = .ok (.getfield 33, 3) := by decide +kernel
theorem dX8_closes_94 : decode cX8_closes 94 = .ok (.iload_n 1, 1) := by decide +kernel
theorem dX8_closes_95 : decode cX8_closes 95 = .ok (.iaload, 1) := by decide +kernel
theorem dX8_closes_96 : decode cX8_closes 96 = .ok (.bipush 116, 2) := by decide +kernel
theorem dX8_closes_98 : decode cX8_closes 98 = .ok (.if_icmp .ne 26, 3) := by decide +kernel
theorem dX8_closes_101 : decode cX8_closes 101 = .ok (.aload_n 0, 1) := by decide +kernel
theorem dX8_closes_102 : decode cX8_closes 102 = .ok (.aload_n 0, 1) := by decide +kernel
theorem dX8_closes_103 : decode cX8_closes 103 = .ok (.iload_n 1, 1) := by decide +kernel
theorem dX8_closes_104 : decode cX8_closes 104 = .ok (.iconst 0, 1) := by decide +kernel
theorem dX8_closes_105 : decode cX8_closes 105 = .ok (.invokevirtual 170, 3) := by decide +kernel
theorem dX8_closes_108 : decode cX8_closes 108 = .ok (.aload_n 0, 1) := by decide +kernel
theorem dX8_closes_109 : decode cX8_closes 109 = .ok (.iload_n 1, 1) := by decide +kernel
theorem dX8_closes_110 : decode cX8_closes 110 = .ok (.iconst 1, 1) := by decide +kernel
theorem dX8_closes_111 : decode cX8_closes 111 = .ok (.invokevirtual 170, 3) := by decide +kernel
theorem dX8_closes_114 : decode cX8_closes 114 = .ok (.iload_n 2, 1) := by decide +kernel
theorem dX8_closes_115 : decode cX8_closes 115 = .ok (.sipush 135, 3) := by decide +kernel
theorem dX8_closes_118 : decode cX8_closes 118 = .ok (.invokevirtual 181, 3) := by decide +kernel
theorem dX8_closes_121 : decode cX8_closes 121 = .ok (.goto 51, 3) := by decide +kernel
theorem dX8_closes_124 : decode cX8_closes 124 = .ok (.aload_n 0, 1) := by decide +kernel
theorem dX8_closes_125 : decode cX8_closes 125 = .ok (.getfield 33, 3) := by decide +kernel
theorem dX8_closes_128 : decode cX8_closes 128 = .ok (.iload_n 1, 1) := by decide +kernel
theorem dX8_closes_129 : decode cX8_closes 129 = .ok (.iaload, 1) := by decide +kernel
theorem dX8_closes_130 : decode cX8_closes 130 = .ok (.bipush 118, 2) := by decide +kernel
theorem dX8_closes_132 : decode cX8_closes 132 = .ok (.if_icmp .ne 32, 3) := by decide +kernel
theorem dX8_closes_135 : decode cX8_closes 135 = .ok (.aload_n 0, 1) := by decide +kernel
theorem dX8_closes_136 : decode cX8_closes 136 = .ok (.iload_n 2, 1) := by decide +kernel
theorem dX8_closes_137 : decode cX8_closes 137 = .ok (.sipush 135, 3) := by decide +kernel
theorem dX8_closes_140 : decode cX8_closes 140 = .ok (.invokevirtual 185, 3) := by decide +kernel
theorem dX8_closes_143 : decode cX8_closes 143 = .ok (.ifCond .ne 29, 3) := by decide +kernel
theorem dX8_closes_146 : decode cX8_closes 146 = .ok (.aload_n 0, 1) := by decide +kernel
theorem dX8_closes_147 : decode cX8_closes 147 = .ok (.aload_n 0, 1) := by decide +kernel
theorem dX8_closes_148 : decode cX8_closes 148 = .ok (.getfield 42, 3) := by decide +kernel
theorem dX8_closes_151 : decode cX8_closes 151 = .ok (.iload_n 1, 1) := by decide +kernel
theorem dX8_closes_152 : decode cX8_closes 152 = .ok (.iaload, 1) := by decide +kernel
theorem dX8_closes_153 : decode cX8_closes 153 = .ok (.putfield 188, 3) := by decide +kernel
theorem dX8_closes_156 : decode cX8_closes 156 = .ok (.aload_n 0, 1) := by decide +kernel
theorem dX8_closes_157 : decode cX8_closes 157 = .ok (.iconst 0, 1) := by decide +kernel
theorem dX8_closes_158 : decode cX8_closes 158 = .ok (.putfield 174, 3) := by decide +kernel
theorem dX8_closes_161 : decode cX8_closes 161 = .ok (.goto 11, 3) := by decide +kernel
theorem dX8_closes_164 : decode cX8_closes 164 = .ok (.aload_n 0, 1) := by decide +kernel
theorem dX8_closes_165 : decode cX8_closes 165 = .ok (.iload_n 2, 1) := by decide +kernel
theorem dX8_closes_166 : decode cX8_closes 166 = .ok (.sipush 135, 3) := by decide +kernel
theorem dX8_closes_169 : decode cX8_closes 169 = .ok (.invokevirtual 96, 3) := by decide +kernel
theorem dX8_closes_172 : decode cX8_closes 172 = .ok (.aload_n 0, 1) := by decide +kernel
theorem dX8_closes_173 : decode cX8_closes 173 = .ok (.sipush 135, 3) := by decide +kernel
theorem dX8_closes_176 : decode cX8_closes 176 = .ok (.invokevirtual 191, 3) := by decide +kernel
theorem dX8_closes_179 : decode cX8_closes 179 = .ok (.return_, 1) := by decide +kernel
set_option maxRecDepth 20000 in
theorem ggX8_factor_X8_isOne : GoodIn wsX8_factor wsX8_isOne := goodIn_r _ [5] (by decide +kernel) (by decide +kernel)
set_option maxRecDepth 20000 in
theorem gX8_factor_X8_isOne : GoodIn wsX8_factor (va_wsS RX8 194 yX8_isOne wsX8_isOne) := goodIn_app (goodIn_of _ (by decide +kernel)) ggX8_factor_X8_isOne
set_option maxRecDepth 20000 in
theorem ggX8_factor_X8_load : GoodIn wsX8_factor wsX8_load := goodIn_r _ [9, 10, 11, 12, 13, 14, 4, 15, 16, 17, 18, 19, 20, 21, 22, 23, 24, 25, 26, 27, 28, 29, 30, 31, 32, 33, 34, 35, 36, 37, 38, 39, 65, 66, 67, 68, 69, 70, 71, 72, 73, 74, 75, 76, 77, 78, 79, 80, 81, 82, 83, 84] (by decide +kernel) (by decide +kernel)
set_option maxRecDepth 20000 in
theorem gX8_factor_X8_load : GoodIn wsX8_factor (wsV RX8 116 RX8 yX8_load wsX8_load) := goodIn_app (goodIn_of _ (by decide +kernel)) ggX8_factor_X8_load
set_option maxRecDepth 20000 in
theorem ggX8_factor_X8_counts : GoodIn wsX8_factor wsX8_counts := goodIn_r _ [43, 44, 45, 46, 47, 1, 48, 49, 50, 4, 51, 52, 53, 54, 55, 10, 24, 25, 26, 27, 11, 65, 66, 67, 68, 69, 70, 71, 72, 73, 74, 75, 76, 77, 78, 79, 80, 81, 82, 83, 84] (by decide +kernel) (by decide +kernel)
set_option maxRecDepth 20000 in
theorem gX8_factor_X8_counts : GoodIn wsX8_factor (wsV RX8 191 RX8 yX8_counts wsX8_counts) := goodIn_app (goodIn_of _ (by decide +kernel)) ggX8_factor_X8_counts
set_option maxRecDepth 20000 in
theorem ggX8_factor_X8_isLetter : GoodIn wsX8_factor wsX8_isLetter := goodIn_r _ [58] (by decide +kernel) (by decide +kernel)
set_option maxRecDepth 20000 in
theorem gX8_factor_X8_isLetter : GoodIn wsX8_factor (va_wsS RX8 197 yX8_isLetter wsX8_isLetter) := goodIn_app (goodIn_of _ (by decide +kernel)) ggX8_factor_X8_isLetter
set_option maxRecDepth 20000 in
theorem ggX8_factor_X8_opens : GoodIn wsX8_factor wsX8_opens := goodIn_r _ [62, 44, 63, 64, 45, 47, 48, 49, 50, 4, 51, 36, 37, 38, 39, 10, 65, 66, 67, 68, 69, 70, 71, 72, 73, 74, 75, 76, 77, 78, 79, 80, 81, 82, 83, 84] (by decide +kernel) (by decide +kernel)
set_option maxRecDepth 20000 in
theorem gX8_factor_X8_opens : GoodIn wsX8_factor (wsV RX8 200 RX8 yX8_opens wsX8_opens) := goodIn_app (goodIn_of _ (by decide +kernel)) ggX8_factor_X8_opens
theorem dX8_factor_0 : decode cX8_factor 0 = .ok (.iload_n 1, 1) := by decide +kernel
theorem dX8_factor_1 : decode cX8_factor 1 = .ok (.invokestatic 194, 3) := by decide +kernel
theorem dX8_factor_4 : decode cX8_factor 4 = .ok (.ifCond .eq 34, 3) := by decide +kernel
theorem dX8_factor_7 : decode cX8_factor 7 = .ok (.aload_n 0, 1) := by decide +kernel
theorem dX8_factor_8 : decode cX8_factor 8 = .ok (.iload_n 1, 1) := by decide +kernel
theorem dX8_factor_9 : decode cX8_factor 9 = .ok (.bipush 105, 2) := by decide +kernel
theorem dX8_factor_11 : decode cX8_factor 11 = .ok (.if_icmp .ne 8, 3) := by decide +kernel
theorem dX8_factor_14 : decode cX8_factor 14 = .ok (.bipush 9, 2) := by decide +kernel
theorem dX8_factor_16 : decode cX8_factor 16 = .ok (.goto 7, 3) := by decide +kernel
theorem dX8_factor_19 : decode cX8_factor 19 = .ok (.iload_n 1, 1) := by decide +kernel
theorem dX8_factor_20 : decode cX8_factor 20 = .ok (.bipush 65, 2) := by decide +kernel
theorem dX8_factor_22 : decode cX8_factor 22 = .ok (.isub, 1) := by decide +kernel
theorem dX8_factor_23 : decode cX8_factor 23 = .ok (.sipush 135, 3) := by decide +kernel
theorem dX8_factor_26 : decode cX8_factor 26 = .ok (.invokevirtual 116, 3) := by decide +kernel
theorem dX8_factor_29 : decode cX8_factor 29 = .ok (.aload_n 0, 1) := by decide +kernel
theorem dX8_factor_30 : decode cX8_factor 30 = .ok (.sipush 135, 3) := by decide +kernel
theorem dX8_factor_33 : decode cX8_factor 33 = .ok (.invokevirtual 191, 3) := by decide +kernel
theorem dX8_factor_36 : decode cX8_factor 36 = .ok (.iconst 1, 1) := by decide +kernel
theorem dX8_factor_37 : decode cX8_factor 37 = .ok (.ireturn, 1) := by decide +kernel
theorem dX8_factor_38 : decode cX8_factor 38 = .ok (.iload_n 1, 1) := by decide +kernel
theorem dX8_factor_39 : decode cX8_factor 39 = .ok (.bipush 40, 2) := by decide +kernel
theorem dX8_factor_41 : decode cX8_factor 41 = .ok (.if_icmp .eq 10, 3) := by decide +kernel
theorem dX8_factor_44 : decode cX8_factor 44 = .ok (.iload_n 1, 1) := by decide +kernel
theorem dX8_factor_45 : decode cX8_factor 45 = .ok (.invokestatic 197, 3) := by decide +kernel
theorem dX8_factor_48 : decode cX8_factor 48 = .ok (.ifCond .eq 26, 3) := by decide +kernel
theorem dX8_factor_51 : decode cX8_factor 51 = .ok (.aload_n 0, 1) := by decide +kernel
theorem dX8_factor_52 : decode cX8_factor 52 = .ok (.iload_n 1, 1) := by decide +kernel
theorem dX8_factor_53 : decode cX8_factor 53 = .ok (.iload_n 2, 1) := by decide +kernel
theorem dX8_factor_54 : decode cX8_factor 54 = .ok (.invokevirtual 200, 3) := by decide +kernel
theorem dX8_factor_57 : decode cX8_factor 57 = .ok (.aload_n 0, 1) := by decide +kernel
theorem dX8_factor_58 : decode cX8_factor 58 = .ok (.iload_n 1, 1) := by decide +kernel
theorem dX8_factor_59 : decode cX8_factor 59 = .ok (.bipush 40, 2) := by decide +kernel
theorem dX8_factor_61 : decode cX8_factor 61 = .ok (.if_icmp .ne 7, 3) := by decide +kernel
theorem dX8_factor_64 : decode cX8_factor 64 = .ok (.iconst 0, 1) := by decide +kernel
theorem dX8_factor_65 : decode cX8_factor 65 = .ok (.goto 4, 3) := by decide +kernel
theorem dX8_factor_68 : decode cX8_factor 68 = .ok (.iconst 3, 1) := by decide +kernel
theorem dX8_factor_69 : decode cX8_factor 69 = .ok (.putfield 178, 3) := by decide +kernel
theorem dX8_factor_72 : decode cX8_factor 72 = .ok (.iconst 1, 1) := by decide +kernel
theorem dX8_factor_73 : decode cX8_factor 73 = .ok (.ireturn, 1) := by decide +kernel
theorem dX8_factor_74 : decode cX8_factor 74 = .ok (.iconst 0, 1) := by decide +kernel
theorem dX8_factor_75 : decode cX8_factor 75 = .ok (.ireturn, 1) := by decide +kernel
set_option maxRecDepth 20000 in
theorem ggX8_behind_X8_sumsOf : GoodIn wsX8_behind wsX8_sumsOf := goodIn_r _ [13] (by decide +kernel) (by decide +kernel)
set_option maxRecDepth 20000 in
theorem gX8_behind_X8_sumsOf : GoodIn wsX8_behind (wsV RX8 203 RX8 yX8_sumsOf wsX8_sumsOf) := goodIn_app (goodIn_of _ (by decide +kernel)) ggX8_behind_X8_sumsOf
set_option maxRecDepth 20000 in
theorem ggX8_behind_X8_pileOf : GoodIn wsX8_behind wsX8_pileOf := goodIn_r _ [17] (by decide +kernel) (by decide +kernel)
set_option maxRecDepth 20000 in
theorem gX8_behind_X8_pileOf : GoodIn wsX8_behind (wsV RX8 170 RX8 yX8_pileOf wsX8_pileOf) := goodIn_app (goodIn_of _ (by decide +kernel)) ggX8_behind_X8_pileOf
set_option maxRecDepth 20000 in
theorem ggX8_behind_X8_blank : GoodIn wsX8_behind wsX8_blank := goodIn_r _ [21, 22, 90, 91, 92, 93, 94, 95, 96, 97, 98, 99, 100, 101, 102, 103, 104, 105, 106, 107, 108, 109] (by decide +kernel) (by decide +kernel)
set_option maxRecDepth 20000 in
theorem gX8_behind_X8_blank : GoodIn wsX8_behind (wsV RX8 60 RX8 yX8_blank wsX8_blank) := goodIn_app (goodIn_of _ (by decide +kernel)) ggX8_behind_X8_blank
set_option maxRecDepth 20000 in
theorem ggX8_behind_X8_closes : GoodIn wsX8_behind wsX8_closes := goodIn_r _ [26, 1, 2, 27, 3, 28, 29, 14, 15, 16, 12, 17, 30, 31, 32, 33, 34, 35, 36, 37, 38, 22, 18, 19, 20, 21, 39, 40, 41, 42, 43, 44, 45, 46, 47, 48, 49, 50, 51, 52, 53, 54, 55, 56, 57, 58, 59, 60, 61, 62, 63, 64, 65, 66, 67, 68, 69, 70, 71, 72, 73, 74, 75, 76, 77, 78, 79, 80, 81, 82, 83, 84, 85, 86, 4, 5, 90, 91, 92, 93, 94, 95, 96, 97, 98, 99, 100, 101, 102, 103, 104, 105, 106, 107, 108, 109] (by decide +kernel) (by decide +kernel)
set_option maxRecDepth 20000 in
theorem gX8_behind_X8_closes : GoodIn wsX8_behind (wsV RX8 206 RX8 yX8_closes wsX8_closes) := goodIn_app (goodIn_of _ (by decide +kernel)) ggX8_behind_X8_closes
