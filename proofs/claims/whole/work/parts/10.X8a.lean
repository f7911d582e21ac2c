set_option maxRecDepth 20000 in
theorem ggX8_init_X8_clear : GoodIn wsX8_init wsX8_clear := goodIn_r _ [22, 5, 23, 24, 25, 26, 27, 28, 29, 30, 31, 32, 33, 34, 35, 36, 37, 38, 39, 40, 41, 42] (by decide +kernel) (by decide +kernel)
set_option maxRecDepth 20000 in
theorem gX8_init_X8_clear : GoodIn wsX8_init (wsV RX8 45 RX8 yX8_clear wsX8_clear) := goodIn_app (goodIn_of _ (by decide +kernel)) ggX8_init_X8_clear
theorem dX8_init_0 : decode cX8_init 0 = .ok (.aload_n 0, 1) := by decide +kernel
theorem dX8_init_1 : decode cX8_init 1 = .ok (.invokespecial 1, 3) := by decide +kernel
theorem dX8_init_4 : decode cX8_init 4 = .ok (.aload_n 0, 1) := by decide +kernel
theorem dX8_init_5 : decode cX8_init 5 = .ok (.bipush 83, 2) := by decide +kernel
theorem dX8_init_7 : decode cX8_init 7 = .ok (.newarray .int, 2) := by decide +kernel
theorem dX8_init_9 : decode cX8_init 9 = .ok (.putfield 7, 3) := by decide +kernel
theorem dX8_init_12 : decode cX8_init 12 = .ok (.aload_n 0, 1) := by decide +kernel
theorem dX8_init_13 : decode cX8_init 13 = .ok (.sipush 498, 3) := by decide +kernel
theorem dX8_init_16 : decode cX8_init 16 = .ok (.newarray .int, 2) := by decide +kernel
theorem dX8_init_18 : decode cX8_init 18 = .ok (.putfield 13, 3) := by decide +kernel
theorem dX8_init_21 : decode cX8_init 21 = .ok (.aload_n 0, 1) := by decide +kernel
theorem dX8_init_22 : decode cX8_init 22 = .ok (.sipush 166, 3) := by decide +kernel
theorem dX8_init_25 : decode cX8_init 25 = .ok (.newarray .int, 2) := by decide +kernel
theorem dX8_init_27 : decode cX8_init 27 = .ok (.putfield 16, 3) := by decide +kernel
theorem dX8_init_30 : decode cX8_init 30 = .ok (.aload_n 0, 1) := by decide +kernel
theorem dX8_init_31 : decode cX8_init 31 = .ok (.iconst 2, 1) := by decide +kernel
theorem dX8_init_32 : decode cX8_init 32 = .ok (.newarray .boolean, 2) := by decide +kernel
theorem dX8_init_34 : decode cX8_init 34 = .ok (.putfield 19, 3) := by decide +kernel
theorem dX8_init_37 : decode cX8_init 37 = .ok (.aload_n 0, 1) := by decide +kernel
theorem dX8_init_38 : decode cX8_init 38 = .ok (.bipush 60, 2) := by decide +kernel
theorem dX8_init_40 : decode cX8_init 40 = .ok (.newarray .char, 2) := by decide +kernel
theorem dX8_init_42 : decode cX8_init 42 = .ok (.putfield 23, 3) := by decide +kernel
theorem dX8_init_45 : decode cX8_init 45 = .ok (.aload_n 0, 1) := by decide +kernel
theorem dX8_init_46 : decode cX8_init 46 = .ok (.sipush 1926, 3) := by decide +kernel
theorem dX8_init_49 : decode cX8_init 49 = .ok (.newarray .int, 2) := by decide +kernel
theorem dX8_init_51 : decode cX8_init 51 = .ok (.putfield 27, 3) := by decide +kernel
theorem dX8_init_54 : decode cX8_init 54 = .ok (.aload_n 0, 1) := by decide +kernel
theorem dX8_init_55 : decode cX8_init 55 = .ok (.bipush 90, 2) := by decide +kernel
theorem dX8_init_57 : decode cX8_init 57 = .ok (.newarray .int, 2) := by decide +kernel
theorem dX8_init_59 : decode cX8_init 59 = .ok (.putfield 30, 3) := by decide +kernel
theorem dX8_init_62 : decode cX8_init 62 = .ok (.aload_n 0, 1) := by decide +kernel
theorem dX8_init_63 : decode cX8_init 63 = .ok (.bipush 64, 2) := by decide +kernel
theorem dX8_init_65 : decode cX8_init 65 = .ok (.newarray .int, 2) := by decide +kernel
theorem dX8_init_67 : decode cX8_init 67 = .ok (.putfield 33, 3) := by decide +kernel
theorem dX8_init_70 : decode cX8_init 70 = .ok (.aload_n 0, 1) := by decide +kernel
theorem dX8_init_71 : decode cX8_init 71 = .ok (.bipush 64, 2) := by decide +kernel
theorem dX8_init_73 : decode cX8_init 73 = .ok (.newarray .int, 2) := by decide +kernel
theorem dX8_init_75 : decode cX8_init 75 = .ok (.putfield 36, 3) := by decide +kernel
theorem dX8_init_78 : decode cX8_init 78 = .ok (.aload_n 0, 1) := by decide +kernel
theorem dX8_init_79 : decode cX8_init 79 = .ok (.bipush 64, 2) := by decide +kernel
theorem dX8_init_81 : decode cX8_init 81 = .ok (.newarray .int, 2) := by decide +kernel
theorem dX8_init_83 : decode cX8_init 83 = .ok (.putfield 39, 3) := by decide +kernel
theorem dX8_init_86 : decode cX8_init 86 = .ok (.aload_n 0, 1) := by decide +kernel
theorem dX8_init_87 : decode cX8_init 87 = .ok (.bipush 64, 2) := by decide +kernel
theorem dX8_init_89 : decode cX8_init 89 = .ok (.newarray .int, 2) := by decide +kernel
theorem dX8_init_91 : decode cX8_init 91 = .ok (.putfield 42, 3) := by decide +kernel
theorem dX8_init_94 : decode cX8_init 94 = .ok (.aload_n 0, 1) := by decide +kernel
theorem dX8_init_95 : decode cX8_init 95 = .ok (.iconst 2, 1) := by decide +kernel
theorem dX8_init_96 : decode cX8_init 96 = .ok (.iconst 5, 1) := by decide +kernel
theorem dX8_init_97 : decode cX8_init 97 = .ok (.invokevirtual 45, 3) := by decide +kernel
theorem dX8_init_100 : decode cX8_init 100 = .ok (.return_, 1) := by decide +kernel
theorem dX8_in_0 : decode cX8_in 0 = .ok (.iload_n 0, 1) := by decide +kernel
theorem dX8_in_1 : decode cX8_in 1 = .ok (.iload_n 1, 1) := by decide +kernel
theorem dX8_in_2 : decode cX8_in 2 = .ok (.if_icmp .lt 12, 3) := by decide +kernel
theorem dX8_in_5 : decode cX8_in 5 = .ok (.iload_n 0, 1) := by decide +kernel
theorem dX8_in_6 : decode cX8_in 6 = .ok (.iload_n 2, 1) := by decide +kernel
theorem dX8_in_7 : decode cX8_in 7 = .ok (.if_icmp .gt 7, 3) := by decide +kernel
theorem dX8_in_10 : decode cX8_in 10 = .ok (.iconst 1, 1) := by decide +kernel
theorem dX8_in_11 : decode cX8_in 11 = .ok (.goto 4, 3) := by decide +kernel
theorem dX8_in_14 : decode cX8_in 14 = .ok (.iconst 0, 1) := by decide +kernel
theorem dX8_in_15 : decode cX8_in 15 = .ok (.ireturn, 1) := by decide +kernel
set_option maxRecDepth 20000 in
theorem ggX8_isRegister_X8_in : GoodIn wsX8_isRegister wsX8_in := goodIn_r _ [4] (by decide +kernel) (by decide +kernel)
set_option maxRecDepth 20000 in
theorem gX8_isRegister_X8_in : GoodIn wsX8_isRegister (va_wsS RX8 49 yX8_in wsX8_in) := goodIn_app (goodIn_of _ (by decide +kernel)) ggX8_isRegister_X8_in
theorem dX8_isRegister_0 : decode cX8_isRegister 0 = .ok (.iload_n 0, 1) := by decide +kernel
theorem dX8_isRegister_1 : decode cX8_isRegister 1 = .ok (.iconst 0, 1) := by decide +kernel
theorem dX8_isRegister_2 : decode cX8_isRegister 2 = .ok (.bipush 7, 2) := by decide +kernel
theorem dX8_isRegister_4 : decode cX8_isRegister 4 = .ok (.invokestatic 49, 3) := by decide +kernel
theorem dX8_isRegister_7 : decode cX8_isRegister 7 = .ok (.ireturn, 1) := by decide +kernel
theorem dX8_clear_0 : decode cX8_clear 0 = .ok (.iconst 0, 1) := by decide +kernel
theorem dX8_clear_1 : decode cX8_clear 1 = .ok (.istore_n 3, 1) := by decide +kernel
theorem dX8_clear_2 : decode cX8_clear 2 = .ok (.iload_n 3, 1) := by decide +kernel
theorem dX8_clear_3 : decode cX8_clear 3 = .ok (.bipush 83, 2) := by decide +kernel
theorem dX8_clear_5 : decode cX8_clear 5 = .ok (.if_icmp .ge 16, 3) := by decide +kernel
theorem dX8_clear_8 : decode cX8_clear 8 = .ok (.aload_n 0, 1) := by decide +kernel
theorem dX8_clear_9 : decode cX8_clear 9 = .ok (.getfield 7, 3) := by decide +kernel
theorem dX8_clear_12 : decode cX8_clear 12 = .ok (.iload_n 3, 1) := by decide +kernel
theorem dX8_clear_13 : decode cX8_clear 13 = .ok (.iconst 0, 1) := by decide +kernel
theorem dX8_clear_14 : decode cX8_clear 14 = .ok (.iastore, 1) := by decide +kernel
theorem dX8_clear_15 : decode cX8_clear 15 = .ok (.iinc 3 1, 3) := by decide +kernel
theorem dX8_clear_18 : decode cX8_clear 18 = .ok (.goto (-16), 3) := by decide +kernel
theorem dX8_clear_21 : decode cX8_clear 21 = .ok (.aload_n 0, 1) := by decide +kernel
theorem dX8_clear_22 : decode cX8_clear 22 = .ok (.getfield 7, 3) := by decide +kernel
theorem dX8_clear_25 : decode cX8_clear 25 = .ok (.bipush 81, 2) := by decide +kernel
theorem dX8_clear_27 : decode cX8_clear 27 = .ok (.iload_n 1, 1) := by decide +kernel
theorem dX8_clear_28 : decode cX8_clear 28 = .ok (.iastore, 1) := by decide +kernel
theorem dX8_clear_29 : decode cX8_clear 29 = .ok (.aload_n 0, 1) := by decide +kernel
theorem dX8_clear_30 : decode cX8_clear 30 = .ok (.getfield 7, 3) := by decide +kernel
theorem dX8_clear_33 : decode cX8_clear 33 = .ok (.bipush 82, 2) := by decide +kernel
theorem dX8_clear_35 : decode cX8_clear 35 = .ok (.iload_n 2, 1) := by decide +kernel
theorem dX8_clear_36 : decode cX8_clear 36 = .ok (.iastore, 1) := by decide +kernel
theorem dX8_clear_37 : decode cX8_clear 37 = .ok (.iconst 0, 1) := by decide +kernel
theorem dX8_clear_38 : decode cX8_clear 38 = .ok (.istore_n 3, 1) := by decide +kernel
theorem dX8_clear_39 : decode cX8_clear 39 = .ok (.iload_n 3, 1) := by decide +kernel
theorem dX8_clear_40 : decode cX8_clear 40 = .ok (.iload_n 1, 1) := by decide +kernel
theorem dX8_clear_41 : decode cX8_clear 41 = .ok (.if_icmp .ge 21, 3) := by decide +kernel
theorem dX8_clear_44 : decode cX8_clear 44 = .ok (.aload_n 0, 1) := by decide +kernel
theorem dX8_clear_45 : decode cX8_clear 45 = .ok (.getfield 7, 3) := by decide +kernel
theorem dX8_clear_48 : decode cX8_clear 48 = .ok (.bipush 72, 2) := by decide +kernel
theorem dX8_clear_50 : decode cX8_clear 50 = .ok (.iconst 4, 1) := by decide +kernel
theorem dX8_clear_51 : decode cX8_clear 51 = .ok (.iload_n 3, 1) := by decide +kernel
theorem dX8_clear_52 : decode cX8_clear 52 = .ok (.imul, 1) := by decide +kernel
theorem dX8_clear_53 : decode cX8_clear 53 = .ok (.iadd, 1) := by decide +kernel
theorem dX8_clear_54 : decode cX8_clear 54 = .ok (.iconst 1, 1) := by decide +kernel
theorem dX8_clear_55 : decode cX8_clear 55 = .ok (.iastore, 1) := by decide +kernel
theorem dX8_clear_56 : decode cX8_clear 56 = .ok (.iinc 3 1, 3) := by decide +kernel
theorem dX8_clear_59 : decode cX8_clear 59 = .ok (.goto (-20), 3) := by decide +kernel
theorem dX8_clear_62 : decode cX8_clear 62 = .ok (.return_, 1) := by decide +kernel
theorem dX8_record_0 : decode cX8_record 0 = .ok (.aload_n 0, 1) := by decide +kernel
theorem dX8_record_1 : decode cX8_record 1 = .ok (.getfield 53, 3) := by decide +kernel
theorem dX8_record_4 : decode cX8_record 4 = .ok (.bipush 6, 2) := by decide +kernel
theorem dX8_record_6 : decode cX8_record 6 = .ok (.if_icmp .ne 43, 3) := by decide +kernel
theorem dX8_record_9 : decode cX8_record 9 = .ok (.iconst 0, 1) := by decide +kernel
theorem dX8_record_10 : decode cX8_record 10 = .ok (.istore_n 1, 1) := by decide +kernel
theorem dX8_record_11 : decode cX8_record 11 = .ok (.iload_n 1, 1) := by decide +kernel
theorem dX8_record_12 : decode cX8_record 12 = .ok (.sipush 415, 3) := by decide +kernel
theorem dX8_record_15 : decode cX8_record 15 = .ok (.if_icmp .ge 24, 3) := by decide +kernel
theorem dX8_record_18 : decode cX8_record 18 = .ok (.aload_n 0, 1) := by decide +kernel
theorem dX8_record_19 : decode cX8_record 19 = .ok (.getfield 13, 3) := by decide +kernel
theorem dX8_record_22 : decode cX8_record 22 = .ok (.iload_n 1, 1) := by decide +kernel
theorem dX8_record_23 : decode cX8_record 23 = .ok (.aload_n 0, 1) := by decide +kernel
theorem dX8_record_24 : decode cX8_record 24 = .ok (.getfield 13, 3) := by decide +kernel
theorem dX8_record_27 : decode cX8_record 27 = .ok (.iload_n 1, 1) := by decide +kernel
theorem dX8_record_28 : decode cX8_record 28 = .ok (.bipush 83, 2) := by decide +kernel
theorem dX8_record_30 : decode cX8_record 30 = .ok (.iadd, 1) := by decide +kernel
theorem dX8_record_31 : decode cX8_record 31 = .ok (.iaload, 1) := by decide +kernel
theorem dX8_record_32 : decode cX8_record 32 = .ok (.iastore, 1) := by decide +kernel
theorem dX8_record_33 : decode cX8_record 33 = .ok (.iinc 1 1, 3) := by decide +kernel
theorem dX8_record_36 : decode cX8_record 36 = .ok (.goto (-25), 3) := by decide +kernel
theorem dX8_record_39 : decode cX8_record 39 = .ok (.aload_n 0, 1) := by decide +kernel
theorem dX8_record_40 : decode cX8_record 40 = .ok (.dup, 1) := by decide +kernel
theorem dX8_record_41 : decode cX8_record 41 = .ok (.getfield 53, 3) := by decide +kernel
theorem dX8_record_44 : decode cX8_record 44 = .ok (.iconst 1, 1) := by decide +kernel
theorem dX8_record_45 : decode cX8_record 45 = .ok (.isub, 1) := by decide +kernel
theorem dX8_record_46 : decode cX8_record 46 = .ok (.putfield 53, 3) := by decide +kernel
theorem dX8_record_49 : decode cX8_record 49 = .ok (.iconst 0, 1) := by decide +kernel
theorem dX8_record_50 : decode cX8_record 50 = .ok (.istore_n 1, 1) := by decide +kernel
theorem dX8_record_51 : decode cX8_record 51 = .ok (.iload_n 1, 1) := by decide +kernel
theorem dX8_record_52 : decode cX8_record 52 = .ok (.bipush 83, 2) := by decide +kernel
theorem dX8_record_54 : decode cX8_record 54 = .ok (.if_icmp .ge 29, 3) := by decide +kernel
theorem dX8_record_57 : decode cX8_record 57 = .ok (.aload_n 0, 1) := by decide +kernel
theorem dX8_record_58 : decode cX8_record 58 = .ok (.getfield 13, 3) := by decide +kernel
theorem dX8_record_61 : decode cX8_record 61 = .ok (.aload_n 0, 1) := by decide +kernel
theorem dX8_record_62 : decode cX8_record 62 = .ok (.getfield 53, 3) := by decide +kernel
theorem dX8_record_65 : decode cX8_record 65 = .ok (.bipush 83, 2) := by decide +kernel
theorem dX8_record_67 : decode cX8_record 67 = .ok (.imul, 1) := by decide +kernel
theorem dX8_record_68 : decode cX8_record 68 = .ok (.iload_n 1, 1) := by decide +kernel
theorem dX8_record_69 : decode cX8_record 69 = .ok (.iadd, 1) := by decide +kernel
theorem dX8_record_70 : decode cX8_record 70 = .ok (.aload_n 0, 1) := by decide +kernel
theorem dX8_record_71 : decode cX8_record 71 = .ok (.getfield 7, 3) := by decide +kernel
theorem dX8_record_74 : decode cX8_record 74 = .ok (.iload_n 1, 1) := by decide +kernel
theorem dX8_record_75 : decode cX8_record 75 = .ok (.iaload, 1) := by decide +kernel
theorem dX8_record_76 : decode cX8_record 76 = .ok (.iastore, 1) := by decide +kernel
theorem dX8_record_77 : decode cX8_record 77 = .ok (.iinc 1 1, 3) := by decide +kernel
theorem dX8_record_80 : decode cX8_record 80 = .ok (.goto (-29), 3) := by decide +kernel
theorem dX8_record_83 : decode cX8_record 83 = .ok (.aload_n 0, 1) := by decide +kernel
theorem dX8_record_84 : decode cX8_record 84 = .ok (.dup, 1) := by decide +kernel
theorem dX8_record_85 : decode cX8_record 85 = .ok (.getfield 53, 3) := by decide +kernel
theorem dX8_record_88 : decode cX8_record 88 = .ok (.iconst 1, 1) := by decide +kernel
theorem dX8_record_89 : decode cX8_record 89 = .ok (.iadd, 1) := by decide +kernel
theorem dX8_record_90 : decode cX8_record 90 = .ok (.putfield 53, 3) := by decide +kernel
theorem dX8_record_93 : decode cX8_record 93 = .ok (.return_, 1) := by decide +kernel
theorem dX8_undo_0 : decode cX8_undo 0 = .ok (.aload_n 0, 1) := by decide +kernel
theorem dX8_undo_1 : decode cX8_undo 1 = .ok (.getfield 53, 3) := by decide +kernel
theorem dX8_undo_4 : decode cX8_undo 4 = .ok (.ifCond .ne 6, 3) := by decide +kernel
theorem dX8_undo_7 : decode cX8_undo 7 = .ok (.bipush (-5), 2) := by decide +kernel
theorem dX8_undo_9 : decode cX8_undo 9 = .ok (.ireturn, 1) := by decide +kernel
theorem dX8_undo_10 : decode cX8_undo 10 = .ok (.aload_n 0, 1) := by decide +kernel
theorem dX8_undo_11 : decode cX8_undo 11 = .ok (.dup, 1) := by decide +kernel
theorem dX8_undo_12 : decode cX8_undo 12 = .ok (.getfield 53, 3) := by decide +kernel
theorem dX8_undo_15 : decode cX8_undo 15 = .ok (.iconst 1, 1) := by decide +kernel
theorem dX8_undo_16 : decode cX8_undo 16 = .ok (.isub, 1) := by decide +kernel
theorem dX8_undo_17 : decode cX8_undo 17 = .ok (.putfield 53, 3) := by decide +kernel
theorem dX8_undo_20 : decode cX8_undo 20 = .ok (.iconst 0, 1) := by decide +kernel
theorem dX8_undo_21 : decode cX8_undo 21 = .ok (.istore_n 1, 1) := by decide +kernel
theorem dX8_undo_22 : decode cX8_undo 22 = .ok (.iload_n 1, 1) := by decide +kernel
theorem dX8_undo_23 : decode cX8_undo 23 = .ok (.bipush 83, 2) := by decide +kernel
theorem dX8_undo_25 : decode cX8_undo 25 = .ok (.if_icmp .ge 29, 3) := by decide +kernel
theorem dX8_undo_28 : decode cX8_undo 28 = .ok (.aload_n 0, 1) := by decide +kernel
theorem dX8_undo_29 : decode cX8_undo 29 = .ok (.getfield 7, 3) := by decide +kernel
theorem dX8_undo_32 : decode cX8_undo 32 = .ok (.iload_n 1, 1) := by decide +kernel
theorem dX8_undo_33 : decode cX8_undo 33 = .ok (.aload_n 0, 1) := by decide +kernel
theorem dX8_undo_34 : decode cX8_undo 34 = .ok (.getfield 13, 3) := by decide +kernel
theorem dX8_undo_37 : decode cX8_undo 37 = .ok (.aload_n 0, 1) := by decide +kernel
theorem dX8_undo_38 : decode cX8_undo 38 = .ok (.getfield 53, 3) := by decide +kernel
theorem dX8_undo_41 : decode cX8_undo 41 = .ok (.bipush 83, 2) := by decide +kernel
theorem dX8_undo_43 : decode cX8_undo 43 = .ok (.imul, 1) := by decide +kernel
theorem dX8_undo_44 : decode cX8_undo 44 = .ok (.iload_n 1, 1) := by decide +kernel
theorem dX8_undo_45 : decode cX8_undo 45 = .ok (.iadd, 1) := by decide +kernel
theorem dX8_undo_46 : decode cX8_undo 46 = .ok (.iaload, 1) := by decide +kernel
theorem dX8_undo_47 : decode cX8_undo 47 = .ok (.iastore, 1) := by decide +kernel
theorem dX8_undo_48 : decode cX8_undo 48 = .ok (.iinc 1 1, 3) := by decide +kernel
theorem dX8_undo_51 : decode cX8_undo 51 = .ok (.goto (-29), 3) := by decide +kernel
theorem dX8_undo_54 : decode cX8_undo 54 = .ok (.aload_n 0, 1) := by decide +kernel
theorem dX8_undo_55 : decode cX8_undo 55 = .ok (.getfield 53, 3) := by decide +kernel
theorem dX8_undo_58 : decode cX8_undo 58 = .ok (.ireturn, 1) := by decide +kernel
set_option maxRecDepth 20000 in
theorem ggX8_save_X8_in : GoodIn wsX8_save wsX8_in := goodIn_r _ [7] (by decide +kernel) (by decide +kernel)
set_option maxRecDepth 20000 in
theorem gX8_save_X8_in : GoodIn wsX8_save (va_wsS RX8 49 yX8_in wsX8_in) := goodIn_app (goodIn_of _ (by decide +kernel)) ggX8_save_X8_in
theorem dX8_save_0 : decode cX8_save 0 = .ok (.iload_n 1, 1) := by decide +kernel
theorem dX8_save_1 : decode cX8_save 1 = .ok (.iconst 0, 1) := by decide +kernel
theorem dX8_save_2 : decode cX8_save 2 = .ok (.iconst 1, 1) := by decide +kernel
theorem dX8_save_3 : decode cX8_save 3 = .ok (.invokestatic 49, 3) := by decide +kernel
theorem dX8_save_6 : decode cX8_save 6 = .ok (.ifCond .ne 6, 3) := by decide +kernel
theorem dX8_save_9 : decode cX8_save 9 = .ok (.bipush (-2), 2) := by decide +kernel
theorem dX8_save_11 : decode cX8_save 11 = .ok (.ireturn, 1) := by decide +kernel
theorem dX8_save_12 : decode cX8_save 12 = .ok (.aload_n 0, 1) := by decide +kernel
theorem dX8_save_13 : decode cX8_save 13 = .ok (.getfield 19, 3) := by decide +kernel
theorem dX8_save_16 : decode cX8_save 16 = .ok (.iload_n 1, 1) := by decide +kernel
theorem dX8_save_17 : decode cX8_save 17 = .ok (.iconst 1, 1) := by decide +kernel
theorem dX8_save_18 : decode cX8_save 18 = .ok (.bastore, 1) := by decide +kernel
theorem dX8_save_19 : decode cX8_save 19 = .ok (.iconst 0, 1) := by decide +kernel
theorem dX8_save_20 : decode cX8_save 20 = .ok (.istore_n 2, 1) := by decide +kernel
theorem dX8_save_21 : decode cX8_save 21 = .ok (.iload_n 2, 1) := by decide +kernel
theorem dX8_save_22 : decode cX8_save 22 = .ok (.bipush 83, 2) := by decide +kernel
theorem dX8_save_24 : decode cX8_save 24 = .ok (.if_icmp .ge 26, 3) := by decide +kernel
theorem dX8_save_27 : decode cX8_save 27 = .ok (.aload_n 0, 1) := by decide +kernel
theorem dX8_save_28 : decode cX8_save 28 = .ok (.getfield 16, 3) := by decide +kernel
theorem dX8_save_31 : decode cX8_save 31 = .ok (.iload_n 1, 1) := by decide +kernel
theorem dX8_save_32 : decode cX8_save 32 = .ok (.bipush 83, 2) := by decide +kernel
theorem dX8_save_34 : decode cX8_save 34 = .ok (.imul, 1) := by decide +kernel
theorem dX8_save_35 : decode cX8_save 35 = .ok (.iload_n 2, 1) := by decide +kernel
theorem dX8_save_36 : decode cX8_save 36 = .ok (.iadd, 1) := by decide +kernel
theorem dX8_save_37 : decode cX8_save 37 = .ok (.aload_n 0, 1) := by decide +kernel
theorem dX8_save_38 : decode cX8_save 38 = .ok (.getfield 7, 3) := by decide +kernel
theorem dX8_save_41 : decode cX8_save 41 = .ok (.iload_n 2, 1) := by decide +kernel
theorem dX8_save_42 : decode cX8_save 42 = .ok (.iaload, 1) := by decide +kernel
theorem dX8_save_43 : decode cX8_save 43 = .ok (.iastore, 1) := by decide +kernel
theorem dX8_save_44 : decode cX8_save 44 = .ok (.iinc 2 1, 3) := by decide +kernel
theorem dX8_save_47 : decode cX8_save 47 = .ok (.goto (-26), 3) := by decide +kernel
theorem dX8_save_50 : decode cX8_save 50 = .ok (.aload_n 0, 1) := by decide +kernel
theorem dX8_save_51 : decode cX8_save 51 = .ok (.getfield 7, 3) := by decide +kernel
theorem dX8_save_54 : decode cX8_save 54 = .ok (.bipush 81, 2) := by decide +kernel
theorem dX8_save_56 : decode cX8_save 56 = .ok (.iaload, 1) := by decide +kernel
theorem dX8_save_57 : decode cX8_save 57 = .ok (.ireturn, 1) := by decide +kernel
set_option maxRecDepth 20000 in
theorem ggX8_restore_X8_in : GoodIn wsX8_restore wsX8_in := goodIn_r _ [7] (by decide +kernel) (by decide +kernel)
set_option maxRecDepth 20000 in
theorem gX8_restore_X8_in : GoodIn wsX8_restore (va_wsS RX8 49 yX8_in wsX8_in) := goodIn_app (goodIn_of _ (by decide +kernel)) ggX8_restore_X8_in
set_option maxRecDepth 20000 in
theorem ggX8_restore_X8_record : GoodIn wsX8_restore wsX8_record := goodIn_r _ [11, 12, 13, 2, 14, 15, 16, 17, 18, 19, 20, 21, 22, 23, 24, 25, 26, 27, 28, 29, 30, 31, 32, 33] (by decide +kernel) (by decide +kernel)
set_option maxRecDepth 20000 in
theorem gX8_restore_X8_record : GoodIn wsX8_restore (wsV RX8 57 RX8 yX8_record wsX8_record) := goodIn_app (goodIn_of _ (by decide +kernel)) ggX8_restore_X8_record
theorem dX8_restore_0 : decode cX8_restore 0 = .ok (.iload_n 1, 1) := by decide +kernel
theorem dX8_restore_1 : decode cX8_restore 1 = .ok (.iconst 0, 1) := by decide +kernel
theorem dX8_restore_2 : decode cX8_restore 2 = .ok (.iconst 1, 1) := by decide +kernel
theorem dX8_restore_3 : decode cX8_restore 3 = .ok (.invokestatic 49, 3) := by decide +kernel
theorem dX8_restore_6 : decode cX8_restore 6 = .ok (.ifCond .ne 6, 3) := by decide +kernel
theorem dX8_restore_9 : decode cX8_restore 9 = .ok (.bipush (-2), 2) := by decide +kernel
theorem dX8_restore_11 : decode cX8_restore 11 = .ok (.ireturn, 1) := by decide +kernel
theorem dX8_restore_12 : decode cX8_restore 12 = .ok (.aload_n 0, 1) := by decide +kernel
theorem dX8_restore_13 : decode cX8_restore 13 = .ok (.getfield 19, 3) := by decide +kernel
theorem dX8_restore_16 : decode cX8_restore 16 = .ok (.iload_n 1, 1) := by decide +kernel
theorem dX8_restore_17 : decode cX8_restore 17 = .ok (.baload, 1) := by decide +kernel
theorem dX8_restore_18 : decode cX8_restore 18 = .ok (.ifCond .ne 6, 3) := by decide +kernel
theorem dX8_restore_21 : decode cX8_restore 21 = .ok (.bipush (-5), 2) := by decide +kernel
theorem dX8_restore_23 : decode cX8_restore 23 = .ok (.ireturn, 1) := by decide +kernel
theorem dX8_restore_24 : decode cX8_restore 24 = .ok (.aload_n 0, 1) := by decide +kernel
theorem dX8_restore_25 : decode cX8_restore 25 = .ok (.invokevirtual 57, 3) := by decide +kernel
theorem dX8_restore_28 : decode cX8_restore 28 = .ok (.iconst 0, 1) := by decide +kernel
theorem dX8_restore_29 : decode cX8_restore 29 = .ok (.istore_n 2, 1) := by decide +kernel
theorem dX8_restore_30 : decode cX8_restore 30 = .ok (.iload_n 2, 1) := by decide +kernel
theorem dX8_restore_31 : decode cX8_restore 31 = .ok (.bipush 83, 2) := by decide +kernel
theorem dX8_restore_33 : decode cX8_restore 33 = .ok (.if_icmp .ge 26, 3) := by decide +kernel
theorem dX8_restore_36 : decode cX8_restore 36 = .ok (.aload_n 0, 1) := by decide +kernel
theorem dX8_restore_37 : decode cX8_restore 37 = .ok (.getfield 7, 3) := by decide +kernel
theorem dX8_restore_40 : decode cX8_restore 40 = .ok (.iload_n 2, 1) := by decide +kernel
theorem dX8_restore_41 : decode cX8_restore 41 = .ok (.aload_n 0, 1) := by decide +kernel
theorem dX8_restore_42 : decode cX8_restore 42 = .ok (.getfield 16, 3) := by decide +kernel
theorem dX8_restore_45 : decode cX8_restore 45 = .ok (.iload_n 1, 1) := by decide +kernel
theorem dX8_restore_46 : decode cX8_restore 46 = .ok (.bipush 83, 2) := by decide +kernel
theorem dX8_restore_48 : decode cX8_restore 48 = .ok (.imul, 1) := by decide +kernel
theorem dX8_restore_49 : decode cX8_restore 49 = .ok (.iload_n 2, 1) := by decide +kernel
theorem dX8_restore_50 : decode cX8_restore 50 = .ok (.iadd, 1) := by decide +kernel
theorem dX8_restore_51 : decode cX8_restore 51 = .ok (.iaload, 1) := by decide +kernel
theorem dX8_restore_52 : decode cX8_restore 52 = .ok (.iastore, 1) := by decide +kernel
theorem dX8_restore_53 : decode cX8_restore 53 = .ok (.iinc 2 1, 3) := by decide +kernel
theorem dX8_restore_56 : decode cX8_restore 56 = .ok (.goto (-26), 3) := by decide +kernel
theorem dX8_restore_59 : decode cX8_restore 59 = .ok (.aload_n 0, 1) := by decide +kernel
theorem dX8_restore_60 : decode cX8_restore 60 = .ok (.getfield 7, 3) := by decide +kernel
theorem dX8_restore_63 : decode cX8_restore 63 = .ok (.bipush 81, 2) := by decide +kernel
theorem dX8_restore_65 : decode cX8_restore 65 = .ok (.iaload, 1) := by decide +kernel
theorem dX8_restore_66 : decode cX8_restore 66 = .ok (.ireturn, 1) := by decide +kernel
theorem dX8_half_0 : decode cX8_half 0 = .ok (.aload_n 0, 1) := by decide +kernel
theorem dX8_half_1 : decode cX8_half 1 = .ok (.getfield 7, 3) := by decide +kernel
theorem dX8_half_4 : decode cX8_half 4 = .ok (.bipush 82, 2) := by decide +kernel
theorem dX8_half_6 : decode cX8_half 6 = .ok (.iaload, 1) := by decide +kernel
theorem dX8_half_7 : decode cX8_half 7 = .ok (.iconst 1, 1) := by decide +kernel
theorem dX8_half_8 : decode cX8_half 8 = .ok (.iadd, 1) := by decide +kernel
theorem dX8_half_9 : decode cX8_half 9 = .ok (.iconst 2, 1) := by decide +kernel
theorem dX8_half_10 : decode cX8_half 10 = .ok (.idiv, 1) := by decide +kernel
theorem dX8_half_11 : decode cX8_half 11 = .ok (.ireturn, 1) := by decide +kernel
theorem dX8_within_0 : decode cX8_within 0 = .ok (.aload_n 0, 1) := by decide +kernel
theorem dX8_within_1 : decode cX8_within 1 = .ok (.getfield 7, 3) := by decide +kernel
theorem dX8_within_4 : decode cX8_within 4 = .ok (.bipush 82, 2) := by decide +kernel
theorem dX8_within_6 : decode cX8_within 6 = .ok (.iaload, 1) := by decide +kernel
theorem dX8_within_7 : decode cX8_within 7 = .ok (.istore_n 2, 1) := by decide +kernel
theorem dX8_within_8 : decode cX8_within 8 = .ok (.iload_n 1, 1) := by decide +kernel
theorem dX8_within_9 : decode cX8_within 9 = .ok (.iload_n 2, 1) := by decide +kernel
theorem dX8_within_10 : decode cX8_within 10 = .ok (.irem, 1) := by decide +kernel
theorem dX8_within_11 : decode cX8_within 11 = .ok (.iload_n 2, 1) := by decide +kernel
theorem dX8_within_12 : decode cX8_within 12 = .ok (.iadd, 1) := by decide +kernel
theorem dX8_within_13 : decode cX8_within 13 = .ok (.iload_n 2, 1) := by decide +kernel
theorem dX8_within_14 : decode cX8_within 14 = .ok (.irem, 1) := by decide +kernel
theorem dX8_within_15 : decode cX8_within 15 = .ok (.ireturn, 1) := by decide +kernel
theorem dX8_over_0 : decode cX8_over 0 = .ok (.iconst 1, 1) := by decide +kernel
theorem dX8_over_1 : decode cX8_over 1 = .ok (.istore_n 2, 1) := by decide +kernel
theorem dX8_over_2 : decode cX8_over 2 = .ok (.iconst 1, 1) := by decide +kernel
theorem dX8_over_3 : decode cX8_over 3 = .ok (.istore_n 3, 1) := by decide +kernel
theorem dX8_over_4 : decode cX8_over 4 = .ok (.iload_n 3, 1) := by decide +kernel
theorem dX8_over_5 : decode cX8_over 5 = .ok (.aload_n 0, 1) := by decide +kernel
theorem dX8_over_6 : decode cX8_over 6 = .ok (.getfield 7, 3) := by decide +kernel
theorem dX8_over_9 : decode cX8_over 9 = .ok (.bipush 82, 2) := by decide +kernel
theorem dX8_over_11 : decode cX8_over 11 = .ok (.iaload, 1) := by decide +kernel
theorem dX8_over_12 : decode cX8_over 12 = .ok (.if_icmp .ge 30, 3) := by decide +kernel
theorem dX8_over_15 : decode cX8_over 15 = .ok (.iload_n 1, 1) := by decide +kernel
theorem dX8_over_16 : decode cX8_over 16 = .ok (.iload_n 3, 1) := by decide +kernel
theorem dX8_over_17 : decode cX8_over 17 = .ok (.imul, 1) := by decide +kernel
theorem dX8_over_18 : decode cX8_over 18 = .ok (.aload_n 0, 1) := by decide +kernel
theorem dX8_over_19 : decode cX8_over 19 = .ok (.getfield 7, 3) := by decide +kernel
theorem dX8_over_22 : decode cX8_over 22 = .ok (.bipush 82, 2) := by decide +kernel
theorem dX8_over_24 : decode cX8_over 24 = .ok (.iaload, 1) := by decide +kernel
theorem dX8_over_25 : decode cX8_over 25 = .ok (.irem, 1) := by decide +kernel
theorem dX8_over_26 : decode cX8_over 26 = .ok (.iconst 1, 1) := by decide +kernel
theorem dX8_over_27 : decode cX8_over 27 = .ok (.if_icmp .ne 7, 3) := by decide +kernel
theorem dX8_over_30 : decode cX8_over 30 = .ok (.iload_n 3, 1) := by decide +kernel
theorem dX8_over_31 : decode cX8_over 31 = .ok (.goto 4, 3) := by decide +kernel
theorem dX8_over_34 : decode cX8_over 34 = .ok (.iload_n 2, 1) := by decide +kernel
theorem dX8_over_35 : decode cX8_over 35 = .ok (.istore_n 2, 1) := by decide +kernel
theorem dX8_over_36 : decode cX8_over 36 = .ok (.iinc 3 1, 3) := by decide +kernel
theorem dX8_over_39 : decode cX8_over 39 = .ok (.goto (-35), 3) := by decide +kernel
theorem dX8_over_42 : decode cX8_over 42 = .ok (.iload_n 2, 1) := by decide +kernel
theorem dX8_over_43 : decode cX8_over 43 = .ok (.ireturn, 1) := by decide +kernel
set_option maxRecDepth 20000 in
theorem ggX8_times_X8_blank : GoodIn wsX8_times wsX8_blank := goodIn_r _ [7, 2, 8, 9, 10, 11, 12, 13, 14, 15, 16, 17, 18, 19, 20, 21, 22, 23, 24, 25, 26, 27] (by decide +kernel) (by decide +kernel)
set_option maxRecDepth 20000 in
theorem gX8_times_X8_blank : GoodIn wsX8_times (wsV RX8 60 RX8 yX8_blank wsX8_blank) := goodIn_app (goodIn_of _ (by decide +kernel)) ggX8_times_X8_blank
theorem dX8_times_0 : decode cX8_times 0 = .ok (.aload_n 0, 1) := by decide +kernel
theorem dX8_times_1 : decode cX8_times 1 = .ok (.iload_n 3, 1) := by decide +kernel
theorem dX8_times_2 : decode cX8_times 2 = .ok (.invokevirtual 60, 3) := by decide +kernel
theorem dX8_times_5 : decode cX8_times 5 = .ok (.iconst 0, 1) := by decide +kernel
theorem dX8_times_6 : decode cX8_times 6 = .ok (.istore 4, 2) := by decide +kernel
theorem dX8_times_8 : decode cX8_times 8 = .ok (.iload 4, 2) := by decide +kernel
theorem dX8_times_10 : decode cX8_times 10 = .ok (.aload_n 0, 1) := by decide +kernel
theorem dX8_times_11 : decode cX8_times 11 = .ok (.getfield 7, 3) := by decide +kernel
theorem dX8_times_14 : decode cX8_times 14 = .ok (.bipush 81, 2) := by decide +kernel
theorem dX8_times_16 : decode cX8_times 16 = .ok (.iaload, 1) := by decide +kernel
theorem dX8_times_17 : decode cX8_times 17 = .ok (.if_icmp .ge 112, 3) := by decide +kernel
theorem dX8_times_20 : decode cX8_times 20 = .ok (.iconst 0, 1) := by decide +kernel
theorem dX8_times_21 : decode cX8_times 21 = .ok (.istore 5, 2) := by decide +kernel
theorem dX8_times_23 : decode cX8_times 23 = .ok (.iload 5, 2) := by decide +kernel
theorem dX8_times_25 : decode cX8_times 25 = .ok (.aload_n 0, 1) := by decide +kernel
theorem dX8_times_26 : decode cX8_times 26 = .ok (.getfield 7, 3) := by decide +kernel
theorem dX8_times_29 : decode cX8_times 29 = .ok (.bipush 81, 2) := by decide +kernel
theorem dX8_times_31 : decode cX8_times 31 = .ok (.iaload, 1) := by decide +kernel
theorem dX8_times_32 : decode cX8_times 32 = .ok (.if_icmp .ge 91, 3) := by decide +kernel
theorem dX8_times_35 : decode cX8_times 35 = .ok (.iconst 0, 1) := by decide +kernel
theorem dX8_times_36 : decode cX8_times 36 = .ok (.istore 6, 2) := by decide +kernel
theorem dX8_times_38 : decode cX8_times 38 = .ok (.iconst 0, 1) := by decide +kernel
theorem dX8_times_39 : decode cX8_times 39 = .ok (.istore 7, 2) := by decide +kernel
theorem dX8_times_41 : decode cX8_times 41 = .ok (.iload 7, 2) := by decide +kernel
theorem dX8_times_43 : decode cX8_times 43 = .ok (.aload_n 0, 1) := by decide +kernel
theorem dX8_times_44 : decode cX8_times 44 = .ok (.getfield 7, 3) := by decide +kernel
theorem dX8_times_47 : decode cX8_times 47 = .ok (.bipush 81, 2) := by decide +kernel
theorem dX8_times_49 : decode cX8_times 49 = .ok (.iaload, 1) := by decide +kernel
theorem dX8_times_50 : decode cX8_times 50 = .ok (.if_icmp .ge 43, 3) := by decide +kernel
theorem dX8_times_53 : decode cX8_times 53 = .ok (.iload 6, 2) := by decide +kernel
theorem dX8_times_55 : decode cX8_times 55 = .ok (.aload_n 0, 1) := by decide +kernel
theorem dX8_times_56 : decode cX8_times 56 = .ok (.getfield 27, 3) := by decide +kernel
theorem dX8_times_59 : decode cX8_times 59 = .ok (.iload_n 1, 1) := by decide +kernel
theorem dX8_times_60 : decode cX8_times 60 = .ok (.iconst 3, 1) := by decide +kernel
theorem dX8_times_61 : decode cX8_times 61 = .ok (.iload 4, 2) := by decide +kernel
theorem dX8_times_63 : decode cX8_times 63 = .ok (.imul, 1) := by decide +kernel
theorem dX8_times_64 : decode cX8_times 64 = .ok (.iadd, 1) := by decide +kernel
theorem dX8_times_65 : decode cX8_times 65 = .ok (.iload 7, 2) := by decide +kernel
theorem dX8_times_67 : decode cX8_times 67 = .ok (.iadd, 1) := by decide +kernel
theorem dX8_times_68 : decode cX8_times 68 = .ok (.iaload, 1) := by decide +kernel
theorem dX8_times_69 : decode cX8_times 69 = .ok (.aload_n 0, 1) := by decide +kernel
theorem dX8_times_70 : decode cX8_times 70 = .ok (.getfield 27, 3) := by decide +kernel
theorem dX8_times_73 : decode cX8_times 73 = .ok (.iload_n 2, 1) := by decide +kernel
theorem dX8_times_74 : decode cX8_times 74 = .ok (.iconst 3, 1) := by decide +kernel
theorem dX8_times_75 : decode cX8_times 75 = .ok (.iload 7, 2) := by decide +kernel
theorem dX8_times_77 : decode cX8_times 77 = .ok (.imul, 1) := by decide +kernel
theorem dX8_times_78 : decode cX8_times 78 = .ok (.iadd, 1) := by decide +kernel
theorem dX8_times_79 : decode cX8_times 79 = .ok (.iload 5, 2) := by decide +kernel
theorem dX8_times_81 : decode cX8_times 81 = .ok (.iadd, 1) := by decide +kernel
theorem dX8_times_82 : decode cX8_times 82 = .ok (.iaload, 1) := by decide +kernel
theorem dX8_times_83 : decode cX8_times 83 = .ok (.imul, 1) := by decide +kernel
theorem dX8_times_84 : decode cX8_times 84 = .ok (.iadd, 1) := by decide +kernel
theorem dX8_times_85 : decode cX8_times 85 = .ok (.istore 6, 2) := by decide +kernel
theorem dX8_times_87 : decode cX8_times 87 = .ok (.iinc 7 1, 3) := by decide +kernel
theorem dX8_times_90 : decode cX8_times 90 = .ok (.goto (-49), 3) := by decide +kernel
theorem dX8_times_93 : decode cX8_times 93 = .ok (.aload_n 0, 1) := by decide +kernel
theorem dX8_times_94 : decode cX8_times 94 = .ok (.getfield 27, 3) := by decide +kernel
theorem dX8_times_97 : decode cX8_times 97 = .ok (.iload_n 3, 1) := by decide +kernel
theorem dX8_times_98 : decode cX8_times 98 = .ok (.iconst 3, 1) := by decide +kernel
theorem dX8_times_99 : decode cX8_times 99 = .ok (.iload 4, 2) := by decide +kernel
theorem dX8_times_101 : decode cX8_times 101 = .ok (.imul, 1) := by decide +kernel
theorem dX8_times_102 : decode cX8_times 102 = .ok (.iadd, 1) := by decide +kernel
theorem dX8_times_103 : decode cX8_times 103 = .ok (.iload 5, 2) := by decide +kernel
theorem dX8_times_105 : decode cX8_times 105 = .ok (.iadd, 1) := by decide +kernel
theorem dX8_times_106 : decode cX8_times 106 = .ok (.iload 6, 2) := by decide +kernel
theorem dX8_times_108 : decode cX8_times 108 = .ok (.aload_n 0, 1) := by decide +kernel
theorem dX8_times_109 : decode cX8_times 109 = .ok (.getfield 7, 3) := by decide +kernel
theorem dX8_times_112 : decode cX8_times 112 = .ok (.bipush 82, 2) := by decide +kernel
theorem dX8_times_114 : decode cX8_times 114 = .ok (.iaload, 1) := by decide +kernel
theorem dX8_times_115 : decode cX8_times 115 = .ok (.irem, 1) := by decide +kernel
theorem dX8_times_116 : decode cX8_times 116 = .ok (.iastore, 1) := by decide +kernel
theorem dX8_times_117 : decode cX8_times 117 = .ok (.iinc 5 1, 3) := by decide +kernel
theorem dX8_times_120 : decode cX8_times 120 = .ok (.goto (-97), 3) := by decide +kernel
theorem dX8_times_123 : decode cX8_times 123 = .ok (.iinc 4 1, 3) := by decide +kernel
theorem dX8_times_126 : decode cX8_times 126 = .ok (.goto (-118), 3) := by decide +kernel
theorem dX8_times_129 : decode cX8_times 129 = .ok (.return_, 1) := by decide +kernel
theorem dX8_copy_0 : decode cX8_copy 0 = .ok (.iconst 0, 1) := by decide +kernel
theorem dX8_copy_1 : decode cX8_copy 1 = .ok (.istore_n 3, 1) := by decide +kernel
theorem dX8_copy_2 : decode cX8_copy 2 = .ok (.iload_n 3, 1) := by decide +kernel
theorem dX8_copy_3 : decode cX8_copy 3 = .ok (.bipush 9, 2) := by decide +kernel
theorem dX8_copy_5 : decode cX8_copy 5 = .ok (.if_icmp .ge 25, 3) := by decide +kernel
theorem dX8_copy_8 : decode cX8_copy 8 = .ok (.aload_n 0, 1) := by decide +kernel
theorem dX8_copy_9 : decode cX8_copy 9 = .ok (.getfield 27, 3) := by decide +kernel
theorem dX8_copy_12 : decode cX8_copy 12 = .ok (.iload_n 2, 1) := by decide +kernel
theorem dX8_copy_13 : decode cX8_copy 13 = .ok (.iload_n 3, 1) := by decide +kernel
theorem dX8_copy_14 : decode cX8_copy 14 = .ok (.iadd, 1) := by decide +kernel
theorem dX8_copy_15 : decode cX8_copy 15 = .ok (.aload_n 0, 1) := by decide +kernel
theorem dX8_copy_16 : decode cX8_copy 16 = .ok (.getfield 27, 3) := by decide +kernel
theorem dX8_copy_19 : decode cX8_copy 19 = .ok (.iload_n 1, 1) := by decide +kernel
theorem dX8_copy_20 : decode cX8_copy 20 = .ok (.iload_n 3, 1) := by decide +kernel
theorem dX8_copy_21 : decode cX8_copy 21 = .ok (.iadd, 1) := by decide +kernel
theorem dX8_copy_22 : decode cX8_copy 22 = .ok (.iaload, 1) := by decide +kernel
theorem dX8_copy_23 : decode cX8_copy 23 = .ok (.iastore, 1) := by decide +kernel
theorem dX8_copy_24 : decode cX8_copy 24 = .ok (.iinc 3 1, 3) := by decide +kernel
theorem dX8_copy_27 : decode cX8_copy 27 = .ok (.goto (-25), 3) := by decide +kernel
theorem dX8_copy_30 : decode cX8_copy 30 = .ok (.return_, 1) := by decide +kernel
theorem dX8_blank_0 : decode cX8_blank 0 = .ok (.iconst 0, 1) := by decide +kernel
theorem dX8_blank_1 : decode cX8_blank 1 = .ok (.istore_n 2, 1) := by decide +kernel
theorem dX8_blank_2 : decode cX8_blank 2 = .ok (.iload_n 2, 1) := by decide +kernel
theorem dX8_blank_3 : decode cX8_blank 3 = .ok (.bipush 9, 2) := by decide +kernel
theorem dX8_blank_5 : decode cX8_blank 5 = .ok (.if_icmp .ge 18, 3) := by decide +kernel
theorem dX8_blank_8 : decode cX8_blank 8 = .ok (.aload_n 0, 1) := by decide +kernel
theorem dX8_blank_9 : decode cX8_blank 9 = .ok (.getfield 27, 3) := by decide +kernel
theorem dX8_blank_12 : decode cX8_blank 12 = .ok (.iload_n 1, 1) := by decide +kernel
theorem dX8_blank_13 : decode cX8_blank 13 = .ok (.iload_n 2, 1) := by decide +kernel
theorem dX8_blank_14 : decode cX8_blank 14 = .ok (.iadd, 1) := by decide +kernel
theorem dX8_blank_15 : decode cX8_blank 15 = .ok (.iconst 0, 1) := by decide +kernel
theorem dX8_blank_16 : decode cX8_blank 16 = .ok (.iastore, 1) := by decide +kernel
theorem dX8_blank_17 : decode cX8_blank 17 = .ok (.iinc 2 1, 3) := by decide +kernel
theorem dX8_blank_20 : decode cX8_blank 20 = .ok (.goto (-18), 3) := by decide +kernel
theorem dX8_blank_23 : decode cX8_blank 23 = .ok (.return_, 1) := by decide +kernel
set_option maxRecDepth 20000 in
theorem ggX8_add_X8_within : GoodIn wsX8_add wsX8_within := goodIn_r _ [6, 7, 8, 9, 10, 11, 12, 13, 14, 15, 16, 17, 18, 19, 20, 21, 22, 23, 24, 25, 26, 27] (by decide +kernel) (by decide +kernel)
set_option maxRecDepth 20000 in
theorem gX8_add_X8_within : GoodIn wsX8_add (wsV RX8 64 RX8 yX8_within wsX8_within) := goodIn_app (goodIn_of _ (by decide +kernel)) ggX8_add_X8_within
theorem dX8_add_0 : decode cX8_add 0 = .ok (.iconst 0, 1) := by decide +kernel
theorem dX8_add_1 : decode cX8_add 1 = .ok (.istore 6, 2) := by decide +kernel
theorem dX8_add_3 : decode cX8_add 3 = .ok (.iload 6, 2) := by decide +kernel
theorem dX8_add_5 : decode cX8_add 5 = .ok (.bipush 9, 2) := by decide +kernel
theorem dX8_add_7 : decode cX8_add 7 = .ok (.if_icmp .ge 47, 3) := by decide +kernel
theorem dX8_add_10 : decode cX8_add 10 = .ok (.aload_n 0, 1) := by decide +kernel
theorem dX8_add_11 : decode cX8_add 11 = .ok (.getfield 27, 3) := by decide +kernel
theorem dX8_add_14 : decode cX8_add 14 = .ok (.iload 5, 2) := by decide +kernel
theorem dX8_add_16 : decode cX8_add 16 = .ok (.iload 6, 2) := by decide +kernel
theorem dX8_add_18 : decode cX8_add 18 = .ok (.iadd, 1) := by decide +kernel
theorem dX8_add_19 : decode cX8_add 19 = .ok (.aload_n 0, 1) := by decide +kernel
theorem dX8_add_20 : decode cX8_add 20 = .ok (.aload_n 0, 1) := by decide +kernel
theorem dX8_add_21 : decode cX8_add 21 = .ok (.getfield 27, 3) := by decide +kernel
theorem dX8_add_24 : decode cX8_add 24 = .ok (.iload_n 1, 1) := by decide +kernel
theorem dX8_add_25 : decode cX8_add 25 = .ok (.iload 6, 2) := by decide +kernel
theorem dX8_add_27 : decode cX8_add 27 = .ok (.iadd, 1) := by decide +kernel
theorem dX8_add_28 : decode cX8_add 28 = .ok (.iaload, 1) := by decide +kernel
theorem dX8_add_29 : decode cX8_add 29 = .ok (.iload_n 2, 1) := by decide +kernel
theorem dX8_add_30 : decode cX8_add 30 = .ok (.imul, 1) := by decide +kernel
theorem dX8_add_31 : decode cX8_add 31 = .ok (.aload_n 0, 1) := by decide +kernel
theorem dX8_add_32 : decode cX8_add 32 = .ok (.getfield 27, 3) := by decide +kernel
theorem dX8_add_35 : decode cX8_add 35 = .ok (.iload_n 3, 1) := by decide +kernel
theorem dX8_add_36 : decode cX8_add 36 = .ok (.iload 6, 2) := by decide +kernel
theorem dX8_add_38 : decode cX8_add 38 = .ok (.iadd, 1) := by decide +kernel
theorem dX8_add_39 : decode cX8_add 39 = .ok (.iaload, 1) := by decide +kernel
theorem dX8_add_40 : decode cX8_add 40 = .ok (.iload 4, 2) := by decide +kernel
theorem dX8_add_42 : decode cX8_add 42 = .ok (.imul, 1) := by decide +kernel
theorem dX8_add_43 : decode cX8_add 43 = .ok (.iadd, 1) := by decide +kernel
theorem dX8_add_44 : decode cX8_add 44 = .ok (.invokevirtual 64, 3) := by decide +kernel
theorem dX8_add_47 : decode cX8_add 47 = .ok (.iastore, 1) := by decide +kernel
theorem dX8_add_48 : decode cX8_add 48 = .ok (.iinc 6 1, 3) := by decide +kernel
theorem dX8_add_51 : decode cX8_add 51 = .ok (.goto (-48), 3) := by decide +kernel
theorem dX8_add_54 : decode cX8_add 54 = .ok (.return_, 1) := by decide +kernel
theorem dX8_areAlike_0 : decode cX8_areAlike 0 = .ok (.iconst 1, 1) := by decide +kernel
theorem dX8_areAlike_1 : decode cX8_areAlike 1 = .ok (.istore_n 3, 1) := by decide +kernel
theorem dX8_areAlike_2 : decode cX8_areAlike 2 = .ok (.iconst 0, 1) := by decide +kernel
theorem dX8_areAlike_3 : decode cX8_areAlike 3 = .ok (.istore 4, 2) := by decide +kernel
theorem dX8_areAlike_5 : decode cX8_areAlike 5 = .ok (.iload 4, 2) := by decide +kernel
theorem dX8_areAlike_7 : decode cX8_areAlike 7 = .ok (.bipush 9, 2) := by decide +kernel
theorem dX8_areAlike_9 : decode cX8_areAlike 9 = .ok (.if_icmp .ge 40, 3) := by decide +kernel
theorem dX8_areAlike_12 : decode cX8_areAlike 12 = .ok (.iload_n 3, 1) := by decide +kernel
theorem dX8_areAlike_13 : decode cX8_areAlike 13 = .ok (.ifCond .eq 28, 3) := by decide +kernel
theorem dX8_areAlike_16 : decode cX8_areAlike 16 = .ok (.aload_n 0, 1) := by decide +kernel
theorem dX8_areAlike_17 : decode cX8_areAlike 17 = .ok (.getfield 27, 3) := by decide +kernel
theorem dX8_areAlike_20 : decode cX8_areAlike 20 = .ok (.iload_n 1, 1) := by decide +kernel
theorem dX8_areAlike_21 : decode cX8_areAlike 21 = .ok (.iload 4, 2) := by decide +kernel
theorem dX8_areAlike_23 : decode cX8_areAlike 23 = .ok (.iadd, 1) := by decide +kernel
theorem dX8_areAlike_24 : decode cX8_areAlike 24 = .ok (.iaload, 1) := by decide +kernel
theorem dX8_areAlike_25 : decode cX8_areAlike 25 = .ok (.aload_n 0, 1) := by decide +kernel
theorem dX8_areAlike_26 : decode cX8_areAlike 26 = .ok (.getfield 27, 3) := by decide +kernel
theorem dX8_areAlike_29 : decode cX8_areAlike 29 = .ok (.iload_n 2, 1) := by decide +kernel
theorem dX8_areAlike_30 : decode cX8_areAlike 30 = .ok (.iload 4, 2) := by decide +kernel
theorem dX8_areAlike_32 : decode cX8_areAlike 32 = .ok (.iadd, 1) := by decide +kernel
theorem dX8_areAlike_33 : decode cX8_areAlike 33 = .ok (.iaload, 1) := by decide +kernel
theorem dX8_areAlike_34 : decode cX8_areAlike 34 = .ok (.if_icmp .ne 7, 3) := by decide +kernel
theorem dX8_areAlike_37 : decode cX8_areAlike 37 = .ok (.iconst 1, 1) := by decide +kernel
theorem dX8_areAlike_38 : decode cX8_areAlike 38 = .ok (.goto 4, 3) := by decide +kernel
theorem dX8_areAlike_41 : decode cX8_areAlike 41 = .ok (.iconst 0, 1) := by decide +kernel
theorem dX8_areAlike_42 : decode cX8_areAlike 42 = .ok (.istore_n 3, 1) := by decide +kernel
theorem dX8_areAlike_43 : decode cX8_areAlike 43 = .ok (.iinc 4 1, 3) := by decide +kernel
theorem dX8_areAlike_46 : decode cX8_areAlike 46 = .ok (.goto (-41), 3) := by decide +kernel
theorem dX8_areAlike_49 : decode cX8_areAlike 49 = .ok (.iload_n 3, 1) := by decide +kernel
theorem dX8_areAlike_50 : decode cX8_areAlike 50 = .ok (.ireturn, 1) := by decide +kernel
theorem dX8_isNothing_0 : decode cX8_isNothing 0 = .ok (.iconst 1, 1) := by decide +kernel
theorem dX8_isNothing_1 : decode cX8_isNothing 1 = .ok (.istore_n 2, 1) := by decide +kernel
theorem dX8_isNothing_2 : decode cX8_isNothing 2 = .ok (.iconst 0, 1) := by decide +kernel
theorem dX8_isNothing_3 : decode cX8_isNothing 3 = .ok (.istore_n 3, 1) := by decide +kernel
theorem dX8_isNothing_4 : decode cX8_isNothing 4 = .ok (.iload_n 3, 1) := by decide +kernel
theorem dX8_isNothing_5 : decode cX8_isNothing 5 = .ok (.bipush 9, 2) := by decide +kernel
theorem dX8_isNothing_7 : decode cX8_isNothing 7 = .ok (.if_icmp .ge 30, 3) := by decide +kernel
theorem dX8_isNothing_10 : decode cX8_isNothing 10 = .ok (.iload_n 2, 1) := by decide +kernel
theorem dX8_isNothing_11 : decode cX8_isNothing 11 = .ok (.ifCond .eq 18, 3) := by decide +kernel
theorem dX8_isNothing_14 : decode cX8_isNothing 14 = .ok (.aload_n 0, 1) := by decide +kernel
theorem dX8_isNothing_15 : decode cX8_isNothing 15 = .ok (.getfield 27, 3) := by decide +kernel
theorem dX8_isNothing_18 : decode cX8_isNothing 18 = .ok (.iload_n 1, 1) := by decide +kernel
theorem dX8_isNothing_19 : decode cX8_isNothing 19 = .ok (.iload_n 3, 1) := by decide +kernel
theorem dX8_isNothing_20 : decode cX8_isNothing 20 = .ok (.iadd, 1) := by decide +kernel
theorem dX8_isNothing_21 : decode cX8_isNothing 21 = .ok (.iaload, 1) := by decide +kernel
theorem dX8_isNothing_22 : decode cX8_isNothing 22 = .ok (.ifCond .ne 7, 3) := by decide +kernel
theorem dX8_isNothing_25 : decode cX8_isNothing 25 = .ok (.iconst 1, 1) := by decide +kernel
theorem dX8_isNothing_26 : decode cX8_isNothing 26 = .ok (.goto 4, 3) := by decide +kernel
theorem dX8_isNothing_29 : decode cX8_isNothing 29 = .ok (.iconst 0, 1) := by decide +kernel
theorem dX8_isNothing_30 : decode cX8_isNothing 30 = .ok (.istore_n 2, 1) := by decide +kernel
theorem dX8_isNothing_31 : decode cX8_isNothing 31 = .ok (.iinc 3 1, 3) := by decide +kernel
theorem dX8_isNothing_34 : decode cX8_isNothing 34 = .ok (.goto (-30), 3) := by decide +kernel
theorem dX8_isNothing_37 : decode cX8_isNothing 37 = .ok (.iload_n 2, 1) := by decide +kernel
theorem dX8_isNothing_38 : decode cX8_isNothing 38 = .ok (.ireturn, 1) := by decide +kernel
theorem dX8_cellOf_0 : decode cX8_cellOf 0 = .ok (.aload_n 0, 1) := by decide +kernel
theorem dX8_cellOf_1 : decode cX8_cellOf 1 = .ok (.getfield 27, 3) := by decide +kernel
theorem dX8_cellOf_4 : decode cX8_cellOf 4 = .ok (.iload_n 1, 1) := by decide +kernel
theorem dX8_cellOf_5 : decode cX8_cellOf 5 = .ok (.iconst 3, 1) := by decide +kernel
theorem dX8_cellOf_6 : decode cX8_cellOf 6 = .ok (.iload_n 2, 1) := by decide +kernel
theorem dX8_cellOf_7 : decode cX8_cellOf 7 = .ok (.iconst 3, 1) := by decide +kernel
theorem dX8_cellOf_8 : decode cX8_cellOf 8 = .ok (.irem, 1) := by decide +kernel
theorem dX8_cellOf_9 : decode cX8_cellOf 9 = .ok (.imul, 1) := by decide +kernel
theorem dX8_cellOf_10 : decode cX8_cellOf 10 = .ok (.iadd, 1) := by decide +kernel
theorem dX8_cellOf_11 : decode cX8_cellOf 11 = .ok (.iload_n 3, 1) := by decide +kernel
theorem dX8_cellOf_12 : decode cX8_cellOf 12 = .ok (.iconst 3, 1) := by decide +kernel
theorem dX8_cellOf_13 : decode cX8_cellOf 13 = .ok (.irem, 1) := by decide +kernel
theorem dX8_cellOf_14 : decode cX8_cellOf 14 = .ok (.iadd, 1) := by decide +kernel
theorem dX8_cellOf_15 : decode cX8_cellOf 15 = .ok (.iaload, 1) := by decide +kernel
theorem dX8_cellOf_16 : decode cX8_cellOf 16 = .ok (.ireturn, 1) := by decide +kernel
set_option maxRecDepth 20000 in
theorem ggX8_determinant_X8_within : GoodIn wsX8_determinant wsX8_within := goodIn_r _ [7, 1, 12, 13, 14, 15, 16, 17, 18, 19, 20, 21, 22, 23, 24, 25, 26, 27, 28, 29, 30, 31] (by decide +kernel) (by decide +kernel)
set_option maxRecDepth 20000 in
theorem gX8_determinant_X8_within : GoodIn wsX8_determinant (wsV RX8 64 RX8 yX8_within wsX8_within) := goodIn_app (goodIn_of _ (by decide +kernel)) ggX8_determinant_X8_within
set_option maxRecDepth 20000 in
theorem ggX8_determinant_X8_cellOf : GoodIn wsX8_determinant wsX8_cellOf := goodIn_r _ [11, 2, 12, 13, 14, 15, 16, 17, 18, 19, 20, 21, 22, 23, 24, 25, 26, 27, 28, 29, 30, 31] (by decide +kernel) (by decide +kernel)
set_option maxRecDepth 20000 in
theorem gX8_determinant_X8_cellOf : GoodIn wsX8_determinant (wsV RX8 68 RX8 yX8_cellOf wsX8_cellOf) := goodIn_app (goodIn_of _ (by decide +kernel)) ggX8_determinant_X8_cellOf
theorem dX8_determinant_0 : decode cX8_determinant 0 = .ok (.aload_n 0, 1) := by decide +kernel
theorem dX8_determinant_1 : decode cX8_determinant 1 = .ok (.getfield 7, 3) := by decide +kernel
theorem dX8_determinant_4 : decode cX8_determinant 4 = .ok (.bipush 81, 2) := by decide +kernel
theorem dX8_determinant_6 : decode cX8_determinant 6 = .ok (.iaload, 1) := by decide +kernel
theorem dX8_determinant_7 : decode cX8_determinant 7 = .ok (.iconst 2, 1) := by decide +kernel
theorem dX8_determinant_8 : decode cX8_determinant 8 = .ok (.if_icmp .ne 41, 3) := by decide +kernel
theorem dX8_determinant_11 : decode cX8_determinant 11 = .ok (.aload_n 0, 1) := by decide +kernel
theorem dX8_determinant_12 : decode cX8_determinant 12 = .ok (.aload_n 0, 1) := by decide +kernel
theorem dX8_determinant_13 : decode cX8_determinant 13 = .ok (.getfield 27, 3) := by decide +kernel
theorem dX8_determinant_16 : decode cX8_determinant 16 = .ok (.iload_n 1, 1) := by decide +kernel
theorem dX8_determinant_17 : decode cX8_determinant 17 = .ok (.iaload, 1) := by decide +kernel
theorem dX8_determinant_18 : decode cX8_determinant 18 = .ok (.aload_n 0, 1) := by decide +kernel
theorem dX8_determinant_19 : decode cX8_determinant 19 = .ok (.getfield 27, 3) := by decide +kernel
theorem dX8_determinant_22 : decode cX8_determinant 22 = .ok (.iload_n 1, 1) := by decide +kernel
theorem dX8_determinant_23 : decode cX8_determinant 23 = .ok (.iconst 4, 1) := by decide +kernel
theorem dX8_determinant_24 : decode cX8_determinant 24 = .ok (.iadd, 1) := by decide +kernel
theorem dX8_determinant_25 : decode cX8_determinant 25 = .ok (.iaload, 1) := by decide +kernel
theorem dX8_determinant_26 : decode cX8_determinant 26 = .ok (.imul, 1) := by decide +kernel
theorem dX8_determinant_27 : decode cX8_determinant 27 = .ok (.aload_n 0, 1) := by decide +kernel
theorem dX8_determinant_28 : decode cX8_determinant 28 = .ok (.getfield 27, 3) := by decide +kernel
theorem dX8_determinant_31 : decode cX8_determinant 31 = .ok (.iload_n 1, 1) := by decide +kernel
theorem dX8_determinant_32 : decode cX8_determinant 32 = .ok (.iconst 1, 1) := by decide +kernel
theorem dX8_determinant_33 : decode cX8_determinant 33 = .ok (.iadd, 1) := by decide +kernel
theorem dX8_determinant_34 : decode cX8_determinant 34 = .ok (.iaload, 1) := by decide +kernel
theorem dX8_determinant_35 : decode cX8_determinant 35 = .ok (.aload_n 0, 1) := by decide +kernel
theorem dX8_determinant_36 : decode cX8_determinant 36 = .ok (.getfield 27, 3) := by decide +kernel
theorem dX8_determinant_39 : decode cX8_determinant 39 = .ok (.iload_n 1, 1) := by decide +kernel
theorem dX8_determinant_40 : decode cX8_determinant 40 = .ok (.iconst 3, 1) := by decide +kernel
theorem dX8_determinant_41 : decode cX8_determinant 41 = .ok (.iadd, 1) := by decide +kernel
theorem dX8_determinant_42 : decode cX8_determinant 42 = .ok (.iaload, 1) := by decide +kernel
theorem dX8_determinant_43 : decode cX8_determinant 43 = .ok (.imul, 1) := by decide +kernel
theorem dX8_determinant_44 : decode cX8_determinant 44 = .ok (.isub, 1) := by decide +kernel
theorem dX8_determinant_45 : decode cX8_determinant 45 = .ok (.invokevirtual 64, 3) := by decide +kernel
theorem dX8_determinant_48 : decode cX8_determinant 48 = .ok (.ireturn, 1) := by decide +kernel
theorem dX8_determinant_49 : decode cX8_determinant 49 = .ok (.iconst 0, 1) := by decide +kernel
theorem dX8_determinant_50 : decode cX8_determinant 50 = .ok (.istore_n 2, 1) := by decide +kernel
theorem dX8_determinant_51 : decode cX8_determinant 51 = .ok (.iconst 0, 1) := by decide +kernel
theorem dX8_determinant_52 : decode cX8_determinant 52 = .ok (.istore_n 3, 1) := by decide +kernel
theorem dX8_determinant_53 : decode cX8_determinant 53 = .ok (.iload_n 3, 1) := by decide +kernel
theorem dX8_determinant_54 : decode cX8_determinant 54 = .ok (.iconst 3, 1) := by decide +kernel
theorem dX8_determinant_55 : decode cX8_determinant 55 = .ok (.if_icmp .ge 59, 3) := by decide +kernel
theorem dX8_determinant_58 : decode cX8_determinant 58 = .ok (.iload_n 2, 1) := by decide +kernel
theorem dX8_determinant_59 : decode cX8_determinant 59 = .ok (.aload_n 0, 1) := by decide +kernel
theorem dX8_determinant_60 : decode cX8_determinant 60 = .ok (.iload_n 1, 1) := by decide +kernel
theorem dX8_determinant_61 : decode cX8_determinant 61 = .ok (.iconst 0, 1) := by decide +kernel
theorem dX8_determinant_62 : decode cX8_determinant 62 = .ok (.iload_n 3, 1) := by decide +kernel
theorem dX8_determinant_63 : decode cX8_determinant 63 = .ok (.invokevirtual 68, 3) := by decide +kernel
theorem dX8_determinant_66 : decode cX8_determinant 66 = .ok (.aload_n 0, 1) := by decide +kernel
theorem dX8_determinant_67 : decode cX8_determinant 67 = .ok (.iload_n 1, 1) := by decide +kernel
theorem dX8_determinant_68 : decode cX8_determinant 68 = .ok (.iconst 1, 1) := by decide +kernel
theorem dX8_determinant_69 : decode cX8_determinant 69 = .ok (.iload_n 3, 1) := by decide +kernel
theorem dX8_determinant_70 : decode cX8_determinant 70 = .ok (.iconst 1, 1) := by decide +kernel
theorem dX8_determinant_71 : decode cX8_determinant 71 = .ok (.iadd, 1) := by decide +kernel
theorem dX8_determinant_72 : decode cX8_determinant 72 = .ok (.invokevirtual 68, 3) := by decide +kernel
theorem dX8_determinant_75 : decode cX8_determinant 75 = .ok (.aload_n 0, 1) := by decide +kernel
theorem dX8_determinant_76 : decode cX8_determinant 76 = .ok (.iload_n 1, 1) := by decide +kernel
theorem dX8_determinant_77 : decode cX8_determinant 77 = .ok (.iconst 2, 1) := by decide +kernel
theorem dX8_determinant_78 : decode cX8_determinant 78 = .ok (.iload_n 3, 1) := by decide +kernel
theorem dX8_determinant_79 : decode cX8_determinant 79 = .ok (.iconst 2, 1) := by decide +kernel
theorem dX8_determinant_80 : decode cX8_determinant 80 = .ok (.iadd, 1) := by decide +kernel
theorem dX8_determinant_81 : decode cX8_determinant 81 = .ok (.invokevirtual 68, 3) := by decide +kernel
theorem dX8_determinant_84 : decode cX8_determinant 84 = .ok (.imul, 1) := by decide +kernel
theorem dX8_determinant_85 : decode cX8_determinant 85 = .ok (.aload_n 0, 1) := by decide +kernel
theorem dX8_determinant_86 : decode cX8_determinant 86 = .ok (.iload_n 1, 1) := by decide +kernel
theorem dX8_determinant_87 : decode cX8_determinant 87 = .ok (.iconst 1, 1) := by decide +kernel
theorem dX8_determinant_88 : decode cX8_determinant 88 = .ok (.iload_n 3, 1) := by decide +kernel
theorem dX8_determinant_89 : decode cX8_determinant 89 = .ok (.iconst 2, 1) := by decide +kernel
theorem dX8_determinant_90 : decode cX8_determinant 90 = .ok (.iadd, 1) := by decide +kernel
theorem dX8_determinant_91 : decode cX8_determinant 91 = .ok (.invokevirtual 68, 3) := by decide +kernel
theorem dX8_determinant_94 : decode cX8_determinant 94 = .ok (.aload_n 0, 1) := by decide +kernel
theorem dX8_determinant_95 : decode cX8_determinant 95 = .ok (.iload_n 1, 1) := by decide +kernel
theorem dX8_determinant_96 : decode cX8_determinant 96 = .ok (.iconst 2, 1) := by decide +kernel
theorem dX8_determinant_97 : decode cX8_determinant 97 = .ok (.iload_n 3, 1) := by decide +kernel
theorem dX8_determinant_98 : decode cX8_determinant 98 = .ok (.iconst 1, 1) := by decide +kernel
theorem dX8_determinant_99 : decode cX8_determinant 99 = .ok (.iadd, 1) := by decide +kernel
theorem dX8_determinant_100 : decode cX8_determinant 100 = .ok (.invokevirtual 68, 3) := by decide +kernel
theorem dX8_determinant_103 : decode cX8_determinant 103 = .ok (.imul, 1) := by decide +kernel
theorem dX8_determinant_104 : decode cX8_determinant 104 = .ok (.isub, 1) := by decide +kernel
theorem dX8_determinant_105 : decode cX8_determinant 105 = .ok (.imul, 1) := by decide +kernel
theorem dX8_determinant_106 : decode cX8_determinant 106 = .ok (.iadd, 1) := by decide +kernel
theorem dX8_determinant_107 : decode cX8_determinant 107 = .ok (.istore_n 2, 1) := by decide +kernel
theorem dX8_determinant_108 : decode cX8_determinant 108 = .ok (.iinc 3 1, 3) := by decide +kernel
theorem dX8_determinant_111 : decode cX8_determinant 111 = .ok (.goto (-58), 3) := by decide +kernel
theorem dX8_determinant_114 : decode cX8_determinant 114 = .ok (.aload_n 0, 1) := by decide +kernel
theorem dX8_determinant_115 : decode cX8_determinant 115 = .ok (.iload_n 2, 1) := by decide +kernel
theorem dX8_determinant_116 : decode cX8_determinant 116 = .ok (.invokevirtual 64, 3) := by decide +kernel
theorem dX8_determinant_119 : decode cX8_determinant 119 = .ok (.ireturn, 1) := by decide +kernel
set_option maxRecDepth 20000 in
theorem ggX8_invert_X8_determinant : GoodIn wsX8_invert wsX8_determinant := goodIn_r _ [7, 1, 2, 8, 9, 10, 6, 11, 12, 13, 14, 15, 24, 25, 26, 27, 28, 29, 30, 31, 32, 33, 34, 35, 36, 37, 38, 39, 40, 41, 42, 43] (by decide +kernel) (by decide +kernel)
set_option maxRecDepth 20000 in
theorem gX8_invert_X8_determinant : GoodIn wsX8_invert (wsV RX8 72 RX8 yX8_determinant wsX8_determinant) := goodIn_app (goodIn_of _ (by decide +kernel)) ggX8_invert_X8_determinant
set_option maxRecDepth 20000 in
theorem ggX8_invert_X8_over : GoodIn wsX8_invert wsX8_over := goodIn_r _ [19, 1, 24, 25, 26, 27, 28, 29, 30, 31, 32, 33, 34, 35, 36, 37, 38, 39, 40, 41, 42, 43] (by decide +kernel) (by decide +kernel)
set_option maxRecDepth 20000 in
theorem gX8_invert_X8_over : GoodIn wsX8_invert (wsV RX8 75 RX8 yX8_over wsX8_over) := goodIn_app (goodIn_of _ (by decide +kernel)) ggX8_invert_X8_over
set_option maxRecDepth 20000 in
theorem ggX8_invert_X8_blank : GoodIn wsX8_invert wsX8_blank := goodIn_r _ [23, 2, 24, 25, 26, 27, 28, 29, 30, 31, 32, 33, 34, 35, 36, 37, 38, 39, 40, 41, 42, 43] (by decide +kernel) (by decide +kernel)
set_option maxRecDepth 20000 in
theorem gX8_invert_X8_blank : GoodIn wsX8_invert (wsV RX8 60 RX8 yX8_blank wsX8_blank) := goodIn_app (goodIn_of _ (by decide +kernel)) ggX8_invert_X8_blank
set_option maxRecDepth 20000 in
theorem ggX8_invert_X8_within : GoodIn wsX8_invert wsX8_within := goodIn_r _ [11, 1, 24, 25, 26, 27, 28, 29, 30, 31, 32, 33, 34, 35, 36, 37, 38, 39, 40, 41, 42, 43] (by decide +kernel) (by decide +kernel)
set_option maxRecDepth 20000 in
theorem gX8_invert_X8_within : GoodIn wsX8_invert (wsV RX8 64 RX8 yX8_within wsX8_within) := goodIn_app (goodIn_of _ (by decide +kernel)) ggX8_invert_X8_within
set_option maxRecDepth 20000 in
theorem ggX8_invert_X8_cellOf : GoodIn wsX8_invert wsX8_cellOf := goodIn_r _ [15, 2, 24, 25, 26, 27, 28, 29, 30, 31, 32, 33, 34, 35, 36, 37, 38, 39, 40, 41, 42, 43] (by decide +kernel) (by decide +kernel)
set_option maxRecDepth 20000 in
theorem gX8_invert_X8_cellOf : GoodIn wsX8_invert (wsV RX8 68 RX8 yX8_cellOf wsX8_cellOf) := goodIn_app (goodIn_of _ (by decide +kernel)) ggX8_invert_X8_cellOf
theorem dX8_invert_0 : decode cX8_invert 0 = .ok (.aload_n 0, 1) := by decide +kernel
theorem dX8_invert_1 : decode cX8_invert 1 = .ok (.aload_n 0, 1) := by decide +kernel
theorem dX8_invert_2 : decode cX8_invert 2 = .ok (.iload_n 1, 1) := by decide +kernel
theorem dX8_invert_3 : decode cX8_invert 3 = .ok (.invokevirtual 72, 3) := by decide +kernel
theorem dX8_invert_6 : decode cX8_invert 6 = .ok (.invokevirtual 75, 3) := by decide +kernel
theorem dX8_invert_9 : decode cX8_invert 9 = .ok (.istore_n 3, 1) := by decide +kernel
theorem dX8_invert_10 : decode cX8_invert 10 = .ok (.aload_n 0, 1) := by decide +kernel
theorem dX8_invert_11 : decode cX8_invert 11 = .ok (.getfield 7, 3) := by decide +kernel
theorem dX8_invert_14 : decode cX8_invert 14 = .ok (.bipush 81, 2) := by decide +kernel
theorem dX8_invert_16 : decode cX8_invert 16 = .ok (.iaload, 1) := by decide +kernel
theorem dX8_invert_17 : decode cX8_invert 17 = .ok (.iconst 2, 1) := by decide +kernel
theorem dX8_invert_18 : decode cX8_invert 18 = .ok (.if_icmp .ne 95, 3) := by decide +kernel
theorem dX8_invert_21 : decode cX8_invert 21 = .ok (.aload_n 0, 1) := by decide +kernel
theorem dX8_invert_22 : decode cX8_invert 22 = .ok (.iload_n 2, 1) := by decide +kernel
theorem dX8_invert_23 : decode cX8_invert 23 = .ok (.invokevirtual 60, 3) := by decide +kernel
theorem dX8_invert_26 : decode cX8_invert 26 = .ok (.aload_n 0, 1) := by decide +kernel
theorem dX8_invert_27 : decode cX8_invert 27 = .ok (.getfield 27, 3) := by decide +kernel
theorem dX8_invert_30 : decode cX8_invert 30 = .ok (.iload_n 2, 1) := by decide +kernel
theorem dX8_invert_31 : decode cX8_invert 31 = .ok (.aload_n 0, 1) := by decide +kernel
theorem dX8_invert_32 : decode cX8_invert 32 = .ok (.aload_n 0, 1) := by decide +kernel
theorem dX8_invert_33 : decode cX8_invert 33 = .ok (.getfield 27, 3) := by decide +kernel
theorem dX8_invert_36 : decode cX8_invert 36 = .ok (.iload_n 1, 1) := by decide +kernel
theorem dX8_invert_37 : decode cX8_invert 37 = .ok (.iconst 4, 1) := by decide +kernel
theorem dX8_invert_38 : decode cX8_invert 38 = .ok (.iadd, 1) := by decide +kernel
theorem dX8_invert_39 : decode cX8_invert 39 = .ok (.iaload, 1) := by decide +kernel
theorem dX8_invert_40 : decode cX8_invert 40 = .ok (.iload_n 3, 1) := by decide +kernel
theorem dX8_invert_41 : decode cX8_invert 41 = .ok (.imul, 1) := by decide +kernel
theorem dX8_invert_42 : decode cX8_invert 42 = .ok (.invokevirtual 64, 3) := by decide +kernel
theorem dX8_invert_45 : decode cX8_invert 45 = .ok (.iastore, 1) := by decide +kernel
theorem dX8_invert_46 : decode cX8_invert 46 = .ok (.aload_n 0, 1) := by decide +kernel
theorem dX8_invert_47 : decode cX8_invert 47 = .ok (.getfield 27, 3) := by decide +kernel
theorem dX8_invert_50 : decode cX8_invert 50 = .ok (.iload_n 2, 1) := by decide +kernel
theorem dX8_invert_51 : decode cX8_invert 51 = .ok (.iconst 1, 1) := by decide +kernel
theorem dX8_invert_52 : decode cX8_invert 52 = .ok (.iadd, 1) := by decide +kernel
theorem dX8_invert_53 : decode cX8_invert 53 = .ok (.aload_n 0, 1) := by decide +kernel
theorem dX8_invert_54 : decode cX8_invert 54 = .ok (.aload_n 0, 1) := by decide +kernel
theorem dX8_invert_55 : decode cX8_invert 55 = .ok (.getfield 27, 3) := by decide +kernel
theorem dX8_invert_58 : decode cX8_invert 58 = .ok (.iload_n 1, 1) := by decide +kernel
theorem dX8_invert_59 : decode cX8_invert 59 = .ok (.iconst 1, 1) := by decide +kernel
theorem dX8_invert_60 : decode cX8_invert 60 = .ok (.iadd, 1) := by decide +kernel
theorem dX8_invert_61 : decode cX8_invert 61 = .ok (.iaload, 1) := by decide +kernel
theorem dX8_invert_62 : decode cX8_invert 62 = .ok (.ineg, 1) := by decide +kernel
theorem dX8_invert_63 : decode cX8_invert 63 = .ok (.iload_n 3, 1) := by decide +kernel
theorem dX8_invert_64 : decode cX8_invert 64 = .ok (.imul, 1) := by decide +kernel
theorem dX8_invert_65 : decode cX8_invert 65 = .ok (.invokevirtual 64, 3) := by decide +kernel
theorem dX8_invert_68 : decode cX8_invert 68 = .ok (.iastore, 1) := by decide +kernel
theorem dX8_invert_69 : decode cX8_invert 69 = .ok (.aload_n 0, 1) := by decide +kernel
theorem dX8_invert_70 : decode cX8_invert 70 = .ok (.getfield 27, 3) := by decide +kernel
theorem dX8_invert_73 : decode cX8_invert 73 = .ok (.iload_n 2, 1) := by decide +kernel
theorem dX8_invert_74 : decode cX8_invert 74 = .ok (.iconst 3, 1) := by decide +kernel
theorem dX8_invert_75 : decode cX8_invert 75 = .ok (.iadd, 1) := by decide +kernel
theorem dX8_invert_76 : decode cX8_invert 76 = .ok (.aload_n 0, 1) := by decide +kernel
theorem dX8_invert_77 : decode cX8_invert 77 = .ok (.aload_n 0, 1) := by decide +kernel
theorem dX8_invert_78 : decode cX8_invert 78 = .ok (.getfield 27, 3) := by decide +kernel
theorem dX8_invert_81 : decode cX8_invert 81 = .ok (.iload_n 1, 1) := by decide +kernel
theorem dX8_invert_82 : decode cX8_invert 82 = .ok (.iconst 3, 1) := by decide +kernel
theorem dX8_invert_83 : decode cX8_invert 83 = .ok (.iadd, 1) := by decide +kernel
theorem dX8_invert_84 : decode cX8_invert 84 = .ok (.iaload, 1) := by decide +kernel
theorem dX8_invert_85 : decode cX8_invert 85 = .ok (.ineg, 1) := by decide +kernel
theorem dX8_invert_86 : decode cX8_invert 86 = .ok (.iload_n 3, 1) := by decide +kernel
theorem dX8_invert_87 : decode cX8_invert 87 = .ok (.imul, 1) := by decide +kernel
theorem dX8_invert_88 : decode cX8_invert 88 = .ok (.invokevirtual 64, 3) := by decide +kernel
theorem dX8_invert_91 : decode cX8_invert 91 = .ok (.iastore, 1) := by decide +kernel
theorem dX8_invert_92 : decode cX8_invert 92 = .ok (.aload_n 0, 1) := by decide +kernel
theorem dX8_invert_93 : decode cX8_invert 93 = .ok (.getfield 27, 3) := by decide +kernel
theorem dX8_invert_96 : decode cX8_invert 96 = .ok (.iload_n 2, 1) := by decide +kernel
theorem dX8_invert_97 : decode cX8_invert 97 = .ok (.iconst 4, 1) := by decide +kernel
theorem dX8_invert_98 : decode cX8_invert 98 = .ok (.iadd, 1) := by decide +kernel
theorem dX8_invert_99 : decode cX8_invert 99 = .ok (.aload_n 0, 1) := by decide +kernel
theorem dX8_invert_100 : decode cX8_invert 100 = .ok (.aload_n 0, 1) := by decide +kernel
theorem dX8_invert_101 : decode cX8_invert 101 = .ok (.getfield 27, 3) := by decide +kernel
theorem dX8_invert_104 : decode cX8_invert 104 = .ok (.iload_n 1, 1) := by decide +kernel
theorem dX8_invert_105 : decode cX8_invert 105 = .ok (.iaload, 1) := by decide +kernel
theorem dX8_invert_106 : decode cX8_invert 106 = .ok (.iload_n 3, 1) := by decide +kernel
theorem dX8_invert_107 : decode cX8_invert 107 = .ok (.imul, 1) := by decide +kernel
theorem dX8_invert_108 : decode cX8_invert 108 = .ok (.invokevirtual 64, 3) := by decide +kernel
theorem dX8_invert_111 : decode cX8_invert 111 = .ok (.iastore, 1) := by decide +kernel
theorem dX8_invert_112 : decode cX8_invert 112 = .ok (.return_, 1) := by decide +kernel
theorem dX8_invert_113 : decode cX8_invert 113 = .ok (.iconst 0, 1) := by decide +kernel
theorem dX8_invert_114 : decode cX8_invert 114 = .ok (.istore 4, 2) := by decide +kernel
theorem dX8_invert_116 : decode cX8_invert 116 = .ok (.iload 4, 2) := by decide +kernel
theorem dX8_invert_118 : decode cX8_invert 118 = .ok (.iconst 3, 1) := by decide +kernel
theorem dX8_invert_119 : decode cX8_invert 119 = .ok (.if_icmp .ge 107, 3) := by decide +kernel
theorem dX8_invert_122 : decode cX8_invert 122 = .ok (.iconst 0, 1) := by decide +kernel
theorem dX8_invert_123 : decode cX8_invert 123 = .ok (.istore 5, 2) := by decide +kernel
theorem dX8_invert_125 : decode cX8_invert 125 = .ok (.iload 5, 2) := by decide +kernel
theorem dX8_invert_127 : decode cX8_invert 127 = .ok (.iconst 3, 1) := by decide +kernel
theorem dX8_invert_128 : decode cX8_invert 128 = .ok (.if_icmp .ge 92, 3) := by decide +kernel
theorem dX8_invert_131 : decode cX8_invert 131 = .ok (.aload_n 0, 1) := by decide +kernel
theorem dX8_invert_132 : decode cX8_invert 132 = .ok (.iload_n 1, 1) := by decide +kernel
theorem dX8_invert_133 : decode cX8_invert 133 = .ok (.iload 5, 2) := by decide +kernel
theorem dX8_invert_135 : decode cX8_invert 135 = .ok (.iconst 1, 1) := by decide +kernel
theorem dX8_invert_136 : decode cX8_invert 136 = .ok (.iadd, 1) := by decide +kernel
theorem dX8_invert_137 : decode cX8_invert 137 = .ok (.iload 4, 2) := by decide +kernel
theorem dX8_invert_139 : decode cX8_invert 139 = .ok (.iconst 1, 1) := by decide +kernel
theorem dX8_invert_140 : decode cX8_invert 140 = .ok (.iadd, 1) := by decide +kernel
theorem dX8_invert_141 : decode cX8_invert 141 = .ok (.invokevirtual 68, 3) := by decide +kernel
theorem dX8_invert_144 : decode cX8_invert 144 = .ok (.aload_n 0, 1) := by decide +kernel
theorem dX8_invert_145 : decode cX8_invert 145 = .ok (.iload_n 1, 1) := by decide +kernel
theorem dX8_invert_146 : decode cX8_invert 146 = .ok (.iload 5, 2) := by decide +kernel
theorem dX8_invert_148 : decode cX8_invert 148 = .ok (.iconst 2, 1) := by decide +kernel
theorem dX8_invert_149 : decode cX8_invert 149 = .ok (.iadd, 1) := by decide +kernel
theorem dX8_invert_150 : decode cX8_invert 150 = .ok (.iload 4, 2) := by decide +kernel
theorem dX8_invert_152 : decode cX8_invert 152 = .ok (.iconst 2, 1) := by decide +kernel
theorem dX8_invert_153 : decode cX8_invert 153 = .ok (.iadd, 1) := by decide +kernel
theorem dX8_invert_154 : decode cX8_invert 154 = .ok (.invokevirtual 68, 3) := by decide +kernel
theorem dX8_invert_157 : decode cX8_invert 157 = .ok (.imul, 1) := by decide +kernel
theorem dX8_invert_158 : decode cX8_invert 158 = .ok (.aload_n 0, 1) := by decide +kernel
theorem dX8_invert_159 : decode cX8_invert 159 = .ok (.iload_n 1, 1) := by decide +kernel
theorem dX8_invert_160 : decode cX8_invert 160 = .ok (.iload 5, 2) := by decide +kernel
theorem dX8_invert_162 : decode cX8_invert 162 = .ok (.iconst 1, 1) := by decide +kernel
theorem dX8_invert_163 : decode cX8_invert 163 = .ok (.iadd, 1) := by decide +kernel
theorem dX8_invert_164 : decode cX8_invert 164 = .ok (.iload 4, 2) := by decide +kernel
theorem dX8_invert_166 : decode cX8_invert 166 = .ok (.iconst 2, 1) := by decide +kernel
theorem dX8_invert_167 : decode cX8_invert 167 = .ok (.iadd, 1) := by decide +kernel
theorem dX8_invert_168 : decode cX8_invert 168 = .ok (.invokevirtual 68, 3) := by decide +kernel
theorem dX8_invert_171 : decode cX8_invert 171 = .ok (.aload_n 0, 1) := by decide +kernel
theorem dX8_invert_172 : decode cX8_invert 172 = .ok (.iload_n 1, 1) := by decide +kernel
theorem dX8_invert_173 : decode cX8_invert 173 = .ok (.iload 5, 2) := by decide +kernel
theorem dX8_invert_175 : decode cX8_invert 175 = .ok (.iconst 2, 1) := by decide +kernel
theorem dX8_invert_176 : decode cX8_invert 176 = .ok (.iadd, 1) := by decide +kernel
theorem dX8_invert_177 : decode cX8_invert 177 = .ok (.iload 4, 2) := by decide +kernel
theorem dX8_invert_179 : decode cX8_invert 179 = .ok (.iconst 1, 1) := by decide +kernel
theorem dX8_invert_180 : decode cX8_invert 180 = .ok (.iadd, 1) := by decide +kernel
theorem dX8_invert_181 : decode cX8_invert 181 = .ok (.invokevirtual 68, 3) := by decide +kernel
theorem dX8_invert_184 : decode cX8_invert 184 = .ok (.imul, 1) := by decide +kernel
theorem dX8_invert_185 : decode cX8_invert 185 = .ok (.isub, 1) := by decide +kernel
theorem dX8_invert_186 : decode cX8_invert 186 = .ok (.istore 6, 2) := by decide +kernel
theorem dX8_invert_188 : decode cX8_invert 188 = .ok (.aload_n 0, 1) := by decide +kernel
theorem dX8_invert_189 : decode cX8_invert 189 = .ok (.getfield 27, 3) := by decide +kernel
theorem dX8_invert_192 : decode cX8_invert 192 = .ok (.iload_n 2, 1) := by decide +kernel
theorem dX8_invert_193 : decode cX8_invert 193 = .ok (.iconst 3, 1) := by decide +kernel
theorem dX8_invert_194 : decode cX8_invert 194 = .ok (.iload 4, 2) := by decide +kernel
theorem dX8_invert_196 : decode cX8_invert 196 = .ok (.imul, 1) := by decide +kernel
theorem dX8_invert_197 : decode cX8_invert 197 = .ok (.iadd, 1) := by decide +kernel
theorem dX8_invert_198 : decode cX8_invert 198 = .ok (.iload 5, 2) := by decide +kernel
theorem dX8_invert_200 : decode cX8_invert 200 = .ok (.iadd, 1) := by decide +kernel
theorem dX8_invert_201 : decode cX8_invert 201 = .ok (.aload_n 0, 1) := by decide +kernel
theorem dX8_invert_202 : decode cX8_invert 202 = .ok (.aload_n 0, 1) := by decide +kernel
theorem dX8_invert_203 : decode cX8_invert 203 = .ok (.iload 6, 2) := by decide +kernel
theorem dX8_invert_205 : decode cX8_invert 205 = .ok (.invokevirtual 64, 3) := by decide +kernel
theorem dX8_invert_208 : decode cX8_invert 208 = .ok (.iload_n 3, 1) := by decide +kernel
theorem dX8_invert_209 : decode cX8_invert 209 = .ok (.imul, 1) := by decide +kernel
theorem dX8_invert_210 : decode cX8_invert 210 = .ok (.invokevirtual 64, 3) := by decide +kernel
theorem dX8_invert_213 : decode cX8_invert 213 = .ok (.iastore, 1) := by decide +kernel
theorem dX8_invert_214 : decode cX8_invert 214 = .ok (.iinc 5 1, 3) := by decide +kernel
theorem dX8_invert_217 : decode cX8_invert 217 = .ok (.goto (-92), 3) := by decide +kernel
theorem dX8_invert_220 : decode cX8_invert 220 = .ok (.iinc 4 1, 3) := by decide +kernel
theorem dX8_invert_223 : decode cX8_invert 223 = .ok (.goto (-107), 3) := by decide +kernel
theorem dX8_invert_226 : decode cX8_invert 226 = .ok (.return_, 1) := by decide +kernel
set_option maxRecDepth 20000 in
theorem ggX8_layBase_X8_invert : GoodIn wsX8_layBase wsX8_invert := goodIn_r _ [7, 2, 1, 8, 9, 10, 6, 11, 12, 13, 14, 15, 16, 17, 18, 19, 20, 21, 22, 23, 24, 25, 26, 27, 28, 29, 30, 31, 32, 33, 34, 35, 36, 37, 38, 39, 40, 41, 42, 43, 44, 45, 46, 47] (by decide +kernel) (by decide +kernel)
set_option maxRecDepth 20000 in
theorem gX8_layBase_X8_invert : GoodIn wsX8_layBase (wsV RX8 78 RX8 yX8_invert wsX8_invert) := goodIn_app (goodIn_of _ (by decide +kernel)) ggX8_layBase_X8_invert
theorem dX8_layBase_0 : decode cX8_layBase 0 = .ok (.iconst 0, 1) := by decide +kernel
theorem dX8_layBase_1 : decode cX8_layBase 1 = .ok (.istore_n 1, 1) := by decide +kernel
theorem dX8_layBase_2 : decode cX8_layBase 2 = .ok (.iload_n 1, 1) := by decide +kernel
theorem dX8_layBase_3 : decode cX8_layBase 3 = .ok (.bipush 9, 2) := by decide +kernel
theorem dX8_layBase_5 : decode cX8_layBase 5 = .ok (.if_icmp .ge 27, 3) := by decide +kernel
theorem dX8_layBase_8 : decode cX8_layBase 8 = .ok (.aload_n 0, 1) := by decide +kernel
theorem dX8_layBase_9 : decode cX8_layBase 9 = .ok (.getfield 27, 3) := by decide +kernel
theorem dX8_layBase_12 : decode cX8_layBase 12 = .ok (.bipush 27, 2) := by decide +kernel
theorem dX8_layBase_14 : decode cX8_layBase 14 = .ok (.iload_n 1, 1) := by decide +kernel
theorem dX8_layBase_15 : decode cX8_layBase 15 = .ok (.iadd, 1) := by decide +kernel
theorem dX8_layBase_16 : decode cX8_layBase 16 = .ok (.aload_n 0, 1) := by decide +kernel
theorem dX8_layBase_17 : decode cX8_layBase 17 = .ok (.getfield 7, 3) := by decide +kernel
theorem dX8_layBase_20 : decode cX8_layBase 20 = .ok (.bipush 72, 2) := by decide +kernel
theorem dX8_layBase_22 : decode cX8_layBase 22 = .ok (.iload_n 1, 1) := by decide +kernel
theorem dX8_layBase_23 : decode cX8_layBase 23 = .ok (.iadd, 1) := by decide +kernel
theorem dX8_layBase_24 : decode cX8_layBase 24 = .ok (.iaload, 1) := by decide +kernel
theorem dX8_layBase_25 : decode cX8_layBase 25 = .ok (.iastore, 1) := by decide +kernel
theorem dX8_layBase_26 : decode cX8_layBase 26 = .ok (.iinc 1 1, 3) := by decide +kernel
theorem dX8_layBase_29 : decode cX8_layBase 29 = .ok (.goto (-27), 3) := by decide +kernel
theorem dX8_layBase_32 : decode cX8_layBase 32 = .ok (.aload_n 0, 1) := by decide +kernel
theorem dX8_layBase_33 : decode cX8_layBase 33 = .ok (.bipush 27, 2) := by decide +kernel
theorem dX8_layBase_35 : decode cX8_layBase 35 = .ok (.bipush 36, 2) := by decide +kernel
theorem dX8_layBase_37 : decode cX8_layBase 37 = .ok (.invokevirtual 78, 3) := by decide +kernel
theorem dX8_layBase_40 : decode cX8_layBase 40 = .ok (.return_, 1) := by decide +kernel
set_option maxRecDepth 20000 in
theorem ggX8_load_X8_layBase : GoodIn wsX8_load wsX8_layBase := goodIn_r _ [7, 1, 2, 8, 9, 10, 6, 11, 12, 13, 14, 15, 16, 17, 18, 19, 20, 21, 22, 23, 24, 25, 26, 27, 28, 29, 30, 31, 32, 33, 34, 35, 36, 37, 38, 39, 40, 41, 42, 43, 44, 45, 46, 47, 48, 49, 50, 51] (by decide +kernel) (by decide +kernel)
set_option maxRecDepth 20000 in
theorem gX8_load_X8_layBase : GoodIn wsX8_load (wsV RX8 81 RX8 yX8_layBase wsX8_layBase) := goodIn_app (goodIn_of _ (by decide +kernel)) ggX8_load_X8_layBase
theorem dX8_load_0 : decode cX8_load 0 = .ok (.aload_n 0, 1) := by decide +kernel
theorem dX8_load_1 : decode cX8_load 1 = .ok (.invokevirtual 81, 3) := by decide +kernel
theorem dX8_load_4 : decode cX8_load 4 = .ok (.iconst 0, 1) := by decide +kernel
theorem dX8_load_5 : decode cX8_load 5 = .ok (.istore_n 3, 1) := by decide +kernel
theorem dX8_load_6 : decode cX8_load 6 = .ok (.iload_n 3, 1) := by decide +kernel
theorem dX8_load_7 : decode cX8_load 7 = .ok (.bipush 9, 2) := by decide +kernel
theorem dX8_load_9 : decode cX8_load 9 = .ok (.if_icmp .ge 57, 3) := by decide +kernel
theorem dX8_load_12 : decode cX8_load 12 = .ok (.aload_n 0, 1) := by decide +kernel
theorem dX8_load_13 : decode cX8_load 13 = .ok (.getfield 27, 3) := by decide +kernel
theorem dX8_load_16 : decode cX8_load 16 = .ok (.iload_n 2, 1) := by decide +kernel
theorem dX8_load_17 : decode cX8_load 17 = .ok (.iload_n 3, 1) := by decide +kernel
theorem dX8_load_18 : decode cX8_load 18 = .ok (.iadd, 1) := by decide +kernel
theorem dX8_load_19 : decode cX8_load 19 = .ok (.iload_n 1, 1) := by decide +kernel
theorem dX8_load_20 : decode cX8_load 20 = .ok (.bipush 8, 2) := by decide +kernel
theorem dX8_load_22 : decode cX8_load 22 = .ok (.if_icmp .ge 17, 3) := by decide +kernel
theorem dX8_load_25 : decode cX8_load 25 = .ok (.aload_n 0, 1) := by decide +kernel
theorem dX8_load_26 : decode cX8_load 26 = .ok (.getfield 7, 3) := by decide +kernel
theorem dX8_load_29 : decode cX8_load 29 = .ok (.bipush 9, 2) := by decide +kernel
theorem dX8_load_31 : decode cX8_load 31 = .ok (.iload_n 1, 1) := by decide +kernel
theorem dX8_load_32 : decode cX8_load 32 = .ok (.imul, 1) := by decide +kernel
theorem dX8_load_33 : decode cX8_load 33 = .ok (.iload_n 3, 1) := by decide +kernel
theorem dX8_load_34 : decode cX8_load 34 = .ok (.iadd, 1) := by decide +kernel
theorem dX8_load_35 : decode cX8_load 35 = .ok (.iaload, 1) := by decide +kernel
theorem dX8_load_36 : decode cX8_load 36 = .ok (.goto 23, 3) := by decide +kernel
theorem dX8_load_39 : decode cX8_load 39 = .ok (.aload_n 0, 1) := by decide +kernel
theorem dX8_load_40 : decode cX8_load 40 = .ok (.getfield 27, 3) := by decide +kernel
theorem dX8_load_43 : decode cX8_load 43 = .ok (.iload_n 1, 1) := by decide +kernel
theorem dX8_load_44 : decode cX8_load 44 = .ok (.bipush 8, 2) := by decide +kernel
theorem dX8_load_46 : decode cX8_load 46 = .ok (.if_icmp .ne 8, 3) := by decide +kernel
theorem dX8_load_49 : decode cX8_load 49 = .ok (.bipush 27, 2) := by decide +kernel
theorem dX8_load_51 : decode cX8_load 51 = .ok (.goto 5, 3) := by decide +kernel
theorem dX8_load_54 : decode cX8_load 54 = .ok (.bipush 36, 2) := by decide +kernel
theorem dX8_load_56 : decode cX8_load 56 = .ok (.iload_n 3, 1) := by decide +kernel
theorem dX8_load_57 : decode cX8_load 57 = .ok (.iadd, 1) := by decide +kernel
theorem dX8_load_58 : decode cX8_load 58 = .ok (.iaload, 1) := by decide +kernel
theorem dX8_load_59 : decode cX8_load 59 = .ok (.iastore, 1) := by decide +kernel
theorem dX8_load_60 : decode cX8_load 60 = .ok (.iinc 3 1, 3) := by decide +kernel
theorem dX8_load_63 : decode cX8_load 63 = .ok (.goto (-57), 3) := by decide +kernel
theorem dX8_load_66 : decode cX8_load 66 = .ok (.return_, 1) := by decide +kernel
theorem dX8_store_0 : decode cX8_store 0 = .ok (.iconst 0, 1) := by decide +kernel
theorem dX8_store_1 : decode cX8_store 1 = .ok (.istore_n 3, 1) := by decide +kernel
theorem dX8_store_2 : decode cX8_store 2 = .ok (.iload_n 3, 1) := by decide +kernel
theorem dX8_store_3 : decode cX8_store 3 = .ok (.bipush 9, 2) := by decide +kernel
theorem dX8_store_5 : decode cX8_store 5 = .ok (.if_icmp .ge 28, 3) := by decide +kernel
theorem dX8_store_8 : decode cX8_store 8 = .ok (.aload_n 0, 1) := by decide +kernel
theorem dX8_store_9 : decode cX8_store 9 = .ok (.getfield 7, 3) := by decide +kernel
theorem dX8_store_12 : decode cX8_store 12 = .ok (.bipush 9, 2) := by decide +kernel
theorem dX8_store_14 : decode cX8_store 14 = .ok (.iload_n 2, 1) := by decide +kernel
theorem dX8_store_15 : decode cX8_store 15 = .ok (.imul, 1) := by decide +kernel
theorem dX8_store_16 : decode cX8_store 16 = .ok (.iload_n 3, 1) := by decide +kernel
theorem dX8_store_17 : decode cX8_store 17 = .ok (.iadd, 1) := by decide +kernel
theorem dX8_store_18 : decode cX8_store 18 = .ok (.aload_n 0, 1) := by decide +kernel
theorem dX8_store_19 : decode cX8_store 19 = .ok (.getfield 27, 3) := by decide +kernel
theorem dX8_store_22 : decode cX8_store 22 = .ok (.iload_n 1, 1) := by decide +kernel
theorem dX8_store_23 : decode cX8_store 23 = .ok (.iload_n 3, 1) := by decide +kernel
theorem dX8_store_24 : decode cX8_store 24 = .ok (.iadd, 1) := by decide +kernel
theorem dX8_store_25 : decode cX8_store 25 = .ok (.iaload, 1) := by decide +kernel
theorem dX8_store_26 : decode cX8_store 26 = .ok (.iastore, 1) := by decide +kernel
theorem dX8_store_27 : decode cX8_store 27 = .ok (.iinc 3 1, 3) := by decide +kernel
theorem dX8_store_30 : decode cX8_store 30 = .ok (.goto (-28), 3) := by decide +kernel
theorem dX8_store_33 : decode cX8_store 33 = .ok (.return_, 1) := by decide +kernel
set_option maxRecDepth 20000 in
theorem ggX8_product_X8_times : GoodIn wsX8_product wsX8_times := goodIn_r _ [5, 6, 7, 8, 9, 10, 4, 11, 24, 25, 26, 27, 28, 29, 30, 31, 32, 33, 34, 35, 36, 37, 38, 39, 40, 41, 42, 43] (by decide +kernel) (by decide +kernel)
set_option maxRecDepth 20000 in
theorem gX8_product_X8_times : GoodIn wsX8_product (wsV RX8 84 RX8 yX8_times wsX8_times) := goodIn_app (goodIn_of _ (by decide +kernel)) ggX8_product_X8_times
set_option maxRecDepth 20000 in
theorem ggX8_product_X8_half : GoodIn wsX8_product wsX8_half := goodIn_r _ [15, 6, 24, 25, 26, 27, 28, 29, 30, 31, 32, 33, 34, 35, 36, 37, 38, 39, 40, 41, 42, 43] (by decide +kernel) (by decide +kernel)
set_option maxRecDepth 20000 in
theorem gX8_product_X8_half : GoodIn wsX8_product (wsV RX8 88 RX8 yX8_half wsX8_half) := goodIn_app (goodIn_of _ (by decide +kernel)) ggX8_product_X8_half
set_option maxRecDepth 20000 in
theorem ggX8_product_X8_add : GoodIn wsX8_product wsX8_add := goodIn_r _ [19, 7, 20, 21, 22, 4, 23, 6, 24, 25, 26, 27, 28, 29, 30, 31, 32, 33, 34, 35, 36, 37, 38, 39, 40, 41, 42, 43] (by decide +kernel) (by decide +kernel)
set_option maxRecDepth 20000 in
theorem gX8_product_X8_add : GoodIn wsX8_product (wsV RX8 92 RX8 yX8_add wsX8_add) := goodIn_app (goodIn_of _ (by decide +kernel)) ggX8_product_X8_add
theorem dX8_product_0 : decode cX8_product 0 = .ok (.aload_n 0, 1) := by decide +kernel
theorem dX8_product_1 : decode cX8_product 1 = .ok (.iload_n 1, 1) := by decide +kernel
theorem dX8_product_2 : decode cX8_product 2 = .ok (.bipush 27, 2) := by decide +kernel
theorem dX8_product_4 : decode cX8_product 4 = .ok (.bipush 45, 2) := by decide +kernel
theorem dX8_product_6 : decode cX8_product 6 = .ok (.invokevirtual 84, 3) := by decide +kernel
theorem dX8_product_9 : decode cX8_product 9 = .ok (.aload_n 0, 1) := by decide +kernel
theorem dX8_product_10 : decode cX8_product 10 = .ok (.bipush 45, 2) := by decide +kernel
theorem dX8_product_12 : decode cX8_product 12 = .ok (.iload_n 2, 1) := by decide +kernel
