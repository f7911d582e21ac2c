theorem dX3_init_0 : decode cX3_init 0 = .ok (.aload_n 0, 1) := by decide +kernel
theorem dX3_init_1 : decode cX3_init 1 = .ok (.invokespecial 3, 3) := by decide +kernel
theorem dX3_init_4 : decode cX3_init 4 = .ok (.aload_n 0, 1) := by decide +kernel
theorem dX3_init_5 : decode cX3_init 5 = .ok (.bipush 60, 2) := by decide +kernel
theorem dX3_init_7 : decode cX3_init 7 = .ok (.newarray .char, 2) := by decide +kernel
theorem dX3_init_9 : decode cX3_init 9 = .ok (.putfield 9, 3) := by decide +kernel
theorem dX3_init_12 : decode cX3_init 12 = .ok (.aload_n 0, 1) := by decide +kernel
theorem dX3_init_13 : decode cX3_init 13 = .ok (.bipush 60, 2) := by decide +kernel
theorem dX3_init_15 : decode cX3_init 15 = .ok (.newarray .int, 2) := by decide +kernel
theorem dX3_init_17 : decode cX3_init 17 = .ok (.putfield 15, 3) := by decide +kernel
theorem dX3_init_20 : decode cX3_init 20 = .ok (.return_, 1) := by decide +kernel
theorem dX3_charactersIn_0 : decode cX3_charactersIn 0 = .ok (.lload_n 0, 1) := by decide +kernel
theorem dX3_charactersIn_1 : decode cX3_charactersIn 1 = .ok (.lstore_n 2, 1) := by decide +kernel
theorem dX3_charactersIn_2 : decode cX3_charactersIn 2 = .ok (.iconst 0, 1) := by decide +kernel
theorem dX3_charactersIn_3 : decode cX3_charactersIn 3 = .ok (.istore 4, 2) := by decide +kernel
theorem dX3_charactersIn_5 : decode cX3_charactersIn 5 = .ok (.iload 4, 2) := by decide +kernel
theorem dX3_charactersIn_7 : decode cX3_charactersIn 7 = .ok (.bipush 8, 2) := by decide +kernel
theorem dX3_charactersIn_9 : decode cX3_charactersIn 9 = .ok (.if_icmp .ge 48, 3) := by decide +kernel
theorem dX3_charactersIn_12 : decode cX3_charactersIn 12 = .ok (.lload_n 2, 1) := by decide +kernel
theorem dX3_charactersIn_13 : decode cX3_charactersIn 13 = .ok (.ldc2_w 19, 3) := by decide +kernel
theorem dX3_charactersIn_16 : decode cX3_charactersIn 16 = .ok (.land, 1) := by decide +kernel
theorem dX3_charactersIn_17 : decode cX3_charactersIn 17 = .ok (.lconst 0, 1) := by decide +kernel
theorem dX3_charactersIn_18 : decode cX3_charactersIn 18 = .ok (.lcmp, 1) := by decide +kernel
theorem dX3_charactersIn_19 : decode cX3_charactersIn 19 = .ok (.ifCond .eq 38, 3) := by decide +kernel
theorem dX3_charactersIn_22 : decode cX3_charactersIn 22 = .ok (.lload_n 2, 1) := by decide +kernel
theorem dX3_charactersIn_23 : decode cX3_charactersIn 23 = .ok (.ldc2_w 19, 3) := by decide +kernel
theorem dX3_charactersIn_26 : decode cX3_charactersIn 26 = .ok (.land, 1) := by decide +kernel
theorem dX3_charactersIn_27 : decode cX3_charactersIn 27 = .ok (.l2i, 1) := by decide +kernel
theorem dX3_charactersIn_28 : decode cX3_charactersIn 28 = .ok (.istore 5, 2) := by decide +kernel
theorem dX3_charactersIn_30 : decode cX3_charactersIn 30 = .ok (.iload 5, 2) := by decide +kernel
theorem dX3_charactersIn_32 : decode cX3_charactersIn 32 = .ok (.bipush 33, 2) := by decide +kernel
theorem dX3_charactersIn_34 : decode cX3_charactersIn 34 = .ok (.if_icmp .lt 10, 3) := by decide +kernel
theorem dX3_charactersIn_37 : decode cX3_charactersIn 37 = .ok (.iload 5, 2) := by decide +kernel
theorem dX3_charactersIn_39 : decode cX3_charactersIn 39 = .ok (.bipush 126, 2) := by decide +kernel
theorem dX3_charactersIn_41 : decode cX3_charactersIn 41 = .ok (.if_icmp .le 5, 3) := by decide +kernel
theorem dX3_charactersIn_44 : decode cX3_charactersIn 44 = .ok (.iconst 0, 1) := by decide +kernel
theorem dX3_charactersIn_45 : decode cX3_charactersIn 45 = .ok (.ireturn, 1) := by decide +kernel
theorem dX3_charactersIn_46 : decode cX3_charactersIn 46 = .ok (.lload_n 2, 1) := by decide +kernel
theorem dX3_charactersIn_47 : decode cX3_charactersIn 47 = .ok (.bipush 8, 2) := by decide +kernel
theorem dX3_charactersIn_49 : decode cX3_charactersIn 49 = .ok (.lushr, 1) := by decide +kernel
theorem dX3_charactersIn_50 : decode cX3_charactersIn 50 = .ok (.lstore_n 2, 1) := by decide +kernel
theorem dX3_charactersIn_51 : decode cX3_charactersIn 51 = .ok (.iinc 4 1, 3) := by decide +kernel
theorem dX3_charactersIn_54 : decode cX3_charactersIn 54 = .ok (.goto (-49), 3) := by decide +kernel
theorem dX3_charactersIn_57 : decode cX3_charactersIn 57 = .ok (.lload_n 2, 1) := by decide +kernel
theorem dX3_charactersIn_58 : decode cX3_charactersIn 58 = .ok (.lconst 0, 1) := by decide +kernel
theorem dX3_charactersIn_59 : decode cX3_charactersIn 59 = .ok (.lcmp, 1) := by decide +kernel
theorem dX3_charactersIn_60 : decode cX3_charactersIn 60 = .ok (.ifCond .ne 8, 3) := by decide +kernel
theorem dX3_charactersIn_63 : decode cX3_charactersIn 63 = .ok (.iload 4, 2) := by decide +kernel
theorem dX3_charactersIn_65 : decode cX3_charactersIn 65 = .ok (.goto 4, 3) := by decide +kernel
theorem dX3_charactersIn_68 : decode cX3_charactersIn 68 = .ok (.iconst 0, 1) := by decide +kernel
theorem dX3_charactersIn_69 : decode cX3_charactersIn 69 = .ok (.ireturn, 1) := by decide +kernel
theorem dX3_append_0 : decode cX3_append 0 = .ok (.iload_n 3, 1) := by decide +kernel
theorem dX3_append_1 : decode cX3_append 1 = .ok (.iconst 1, 1) := by decide +kernel
theorem dX3_append_2 : decode cX3_append 2 = .ok (.isub, 1) := by decide +kernel
theorem dX3_append_3 : decode cX3_append 3 = .ok (.istore 4, 2) := by decide +kernel
theorem dX3_append_5 : decode cX3_append 5 = .ok (.iload 4, 2) := by decide +kernel
theorem dX3_append_7 : decode cX3_append 7 = .ok (.ifCond .lt 50, 3) := by decide +kernel
theorem dX3_append_10 : decode cX3_append 10 = .ok (.aload_n 0, 1) := by decide +kernel
theorem dX3_append_11 : decode cX3_append 11 = .ok (.getfield 21, 3) := by decide +kernel
theorem dX3_append_14 : decode cX3_append 14 = .ok (.bipush 60, 2) := by decide +kernel
theorem dX3_append_16 : decode cX3_append 16 = .ok (.if_icmp .ge 41, 3) := by decide +kernel
theorem dX3_append_19 : decode cX3_append 19 = .ok (.aload_n 0, 1) := by decide +kernel
theorem dX3_append_20 : decode cX3_append 20 = .ok (.getfield 9, 3) := by decide +kernel
theorem dX3_append_23 : decode cX3_append 23 = .ok (.aload_n 0, 1) := by decide +kernel
theorem dX3_append_24 : decode cX3_append 24 = .ok (.getfield 21, 3) := by decide +kernel
theorem dX3_append_27 : decode cX3_append 27 = .ok (.lload_n 1, 1) := by decide +kernel
theorem dX3_append_28 : decode cX3_append 28 = .ok (.bipush 8, 2) := by decide +kernel
theorem dX3_append_30 : decode cX3_append 30 = .ok (.iload 4, 2) := by decide +kernel
theorem dX3_append_32 : decode cX3_append 32 = .ok (.imul, 1) := by decide +kernel
theorem dX3_append_33 : decode cX3_append 33 = .ok (.lushr, 1) := by decide +kernel
theorem dX3_append_34 : decode cX3_append 34 = .ok (.ldc2_w 19, 3) := by decide +kernel
theorem dX3_append_37 : decode cX3_append 37 = .ok (.land, 1) := by decide +kernel
theorem dX3_append_38 : decode cX3_append 38 = .ok (.l2i, 1) := by decide +kernel
theorem dX3_append_39 : decode cX3_append 39 = .ok (.i2c, 1) := by decide +kernel
theorem dX3_append_40 : decode cX3_append 40 = .ok (.castore, 1) := by decide +kernel
theorem dX3_append_41 : decode cX3_append 41 = .ok (.aload_n 0, 1) := by decide +kernel
theorem dX3_append_42 : decode cX3_append 42 = .ok (.dup, 1) := by decide +kernel
theorem dX3_append_43 : decode cX3_append 43 = .ok (.getfield 21, 3) := by decide +kernel
theorem dX3_append_46 : decode cX3_append 46 = .ok (.iconst 1, 1) := by decide +kernel
theorem dX3_append_47 : decode cX3_append 47 = .ok (.iadd, 1) := by decide +kernel
theorem dX3_append_48 : decode cX3_append 48 = .ok (.putfield 21, 3) := by decide +kernel
theorem dX3_append_51 : decode cX3_append 51 = .ok (.iinc 4 (-1), 3) := by decide +kernel
theorem dX3_append_54 : decode cX3_append 54 = .ok (.goto (-49), 3) := by decide +kernel
theorem dX3_append_57 : decode cX3_append 57 = .ok (.return_, 1) := by decide +kernel
set_option maxRecDepth 20000 in
theorem ggX3_target_X7_registerOf : GoodIn wsX3_target wsX7_registerOf := goodIn_r _ [5] (by decide +kernel) (by decide +kernel)
set_option maxRecDepth 20000 in
theorem gX3_target_X7_registerOf_n25 : GoodIn wsX3_target (wsX7_registerOf) := ggX3_target_X7_registerOf
theorem dX3_target_0 : decode cX3_target 0 = .ok (.aload_n 0, 1) := by decide +kernel
theorem dX3_target_1 : decode cX3_target 1 = .ok (.getfield 21, 3) := by decide +kernel
theorem dX3_target_4 : decode cX3_target 4 = .ok (.iconst 1, 1) := by decide +kernel
theorem dX3_target_5 : decode cX3_target 5 = .ok (.if_icmp .le 26, 3) := by decide +kernel
theorem dX3_target_8 : decode cX3_target 8 = .ok (.aload_n 0, 1) := by decide +kernel
theorem dX3_target_9 : decode cX3_target 9 = .ok (.getfield 9, 3) := by decide +kernel
theorem dX3_target_12 : decode cX3_target 12 = .ok (.iconst 1, 1) := by decide +kernel
theorem dX3_target_13 : decode cX3_target 13 = .ok (.caload, 1) := by decide +kernel
theorem dX3_target_14 : decode cX3_target 14 = .ok (.bipush 58, 2) := by decide +kernel
theorem dX3_target_16 : decode cX3_target 16 = .ok (.if_icmp .ne 15, 3) := by decide +kernel
theorem dX3_target_19 : decode cX3_target 19 = .ok (.aload_n 0, 1) := by decide +kernel
theorem dX3_target_20 : decode cX3_target 20 = .ok (.getfield 9, 3) := by decide +kernel
theorem dX3_target_23 : decode cX3_target 23 = .ok (.iconst 0, 1) := by decide +kernel
theorem dX3_target_24 : decode cX3_target 24 = .ok (.caload, 1) := by decide +kernel
theorem dX3_target_25 : decode cX3_target 25 = .ok (.invokestatic 25, 3) := by decide +kernel
theorem dX3_target_28 : decode cX3_target 28 = .ok (.goto 5, 3) := by decide +kernel
theorem dX3_target_31 : decode cX3_target 31 = .ok (.bipush (-6), 2) := by decide +kernel
theorem dX3_target_33 : decode cX3_target 33 = .ok (.ireturn, 1) := by decide +kernel
set_option maxRecDepth 20000 in
theorem ggX3_findFault_X3_takes : GoodIn wsX3_findFault wsX3_takes := goodIn_r _ [11, 3, 1, 12, 13, 14, 10, 15, 16, 17, 18, 19, 2, 20, 21, 22, 23, 24, 25, 26, 27, 28, 29, 30, 31, 32, 33, 34, 35, 36, 37, 38, 39, 6, 4, 40, 41, 42, 43, 44, 45, 46] (by decide +kernel) (by decide +kernel)
set_option maxRecDepth 20000 in
theorem gX3_findFault_X3_takes : GoodIn wsX3_findFault (wsV RX3 42 RX3 yX3_takes wsX3_takes) := goodIn_app (goodIn_of _ (by decide +kernel)) ggX3_findFault_X3_takes
theorem dX3_findFault_0 : decode cX3_findFault 0 = .ok (.aload_n 0, 1) := by decide +kernel
theorem dX3_findFault_1 : decode cX3_findFault 1 = .ok (.iconst 0, 1) := by decide +kernel
theorem dX3_findFault_2 : decode cX3_findFault 2 = .ok (.putfield 29, 3) := by decide +kernel
theorem dX3_findFault_5 : decode cX3_findFault 5 = .ok (.aload_n 0, 1) := by decide +kernel
theorem dX3_findFault_6 : decode cX3_findFault 6 = .ok (.iconst 0, 1) := by decide +kernel
theorem dX3_findFault_7 : decode cX3_findFault 7 = .ok (.putfield 32, 3) := by decide +kernel
theorem dX3_findFault_10 : decode cX3_findFault 10 = .ok (.aload_n 0, 1) := by decide +kernel
theorem dX3_findFault_11 : decode cX3_findFault 11 = .ok (.iconst 0, 1) := by decide +kernel
theorem dX3_findFault_12 : decode cX3_findFault 12 = .ok (.putfield 35, 3) := by decide +kernel
theorem dX3_findFault_15 : decode cX3_findFault 15 = .ok (.aload_n 0, 1) := by decide +kernel
theorem dX3_findFault_16 : decode cX3_findFault 16 = .ok (.iconst 0, 1) := by decide +kernel
theorem dX3_findFault_17 : decode cX3_findFault 17 = .ok (.putfield 38, 3) := by decide +kernel
theorem dX3_findFault_20 : decode cX3_findFault 20 = .ok (.iconst 0, 1) := by decide +kernel
theorem dX3_findFault_21 : decode cX3_findFault 21 = .ok (.istore_n 1, 1) := by decide +kernel
theorem dX3_findFault_22 : decode cX3_findFault 22 = .ok (.iload_n 1, 1) := by decide +kernel
theorem dX3_findFault_23 : decode cX3_findFault 23 = .ok (.aload_n 0, 1) := by decide +kernel
theorem dX3_findFault_24 : decode cX3_findFault 24 = .ok (.getfield 21, 3) := by decide +kernel
theorem dX3_findFault_27 : decode cX3_findFault 27 = .ok (.if_icmp .ge 25, 3) := by decide +kernel
theorem dX3_findFault_30 : decode cX3_findFault 30 = .ok (.aload_n 0, 1) := by decide +kernel
theorem dX3_findFault_31 : decode cX3_findFault 31 = .ok (.aload_n 0, 1) := by decide +kernel
theorem dX3_findFault_32 : decode cX3_findFault 32 = .ok (.getfield 9, 3) := by decide +kernel
theorem dX3_findFault_35 : decode cX3_findFault 35 = .ok (.iload_n 1, 1) := by decide +kernel
theorem dX3_findFault_36 : decode cX3_findFault 36 = .ok (.caload, 1) := by decide +kernel
theorem dX3_findFault_37 : decode cX3_findFault 37 = .ok (.iload_n 1, 1) := by decide +kernel
theorem dX3_findFault_38 : decode cX3_findFault 38 = .ok (.invokevirtual 42, 3) := by decide +kernel
theorem dX3_findFault_41 : decode cX3_findFault 41 = .ok (.ifCond .ne 5, 3) := by decide +kernel
theorem dX3_findFault_44 : decode cX3_findFault 44 = .ok (.iload_n 1, 1) := by decide +kernel
theorem dX3_findFault_45 : decode cX3_findFault 45 = .ok (.ireturn, 1) := by decide +kernel
theorem dX3_findFault_46 : decode cX3_findFault 46 = .ok (.iinc 1 1, 3) := by decide +kernel
theorem dX3_findFault_49 : decode cX3_findFault 49 = .ok (.goto (-27), 3) := by decide +kernel
theorem dX3_findFault_52 : decode cX3_findFault 52 = .ok (.aload_n 0, 1) := by decide +kernel
theorem dX3_findFault_53 : decode cX3_findFault 53 = .ok (.getfield 35, 3) := by decide +kernel
theorem dX3_findFault_56 : decode cX3_findFault 56 = .ok (.iconst 4, 1) := by decide +kernel
theorem dX3_findFault_57 : decode cX3_findFault 57 = .ok (.if_icmp .ne 22, 3) := by decide +kernel
theorem dX3_findFault_60 : decode cX3_findFault 60 = .ok (.aload_n 0, 1) := by decide +kernel
theorem dX3_findFault_61 : decode cX3_findFault 61 = .ok (.getfield 29, 3) := by decide +kernel
theorem dX3_findFault_64 : decode cX3_findFault 64 = .ok (.ifCond .ne 15, 3) := by decide +kernel
theorem dX3_findFault_67 : decode cX3_findFault 67 = .ok (.aload_n 0, 1) := by decide +kernel
theorem dX3_findFault_68 : decode cX3_findFault 68 = .ok (.getfield 38, 3) := by decide +kernel
theorem dX3_findFault_71 : decode cX3_findFault 71 = .ok (.ifCond .eq 8, 3) := by decide +kernel
theorem dX3_findFault_74 : decode cX3_findFault 74 = .ok (.bipush (-6), 2) := by decide +kernel
theorem dX3_findFault_76 : decode cX3_findFault 76 = .ok (.goto 7, 3) := by decide +kernel
theorem dX3_findFault_79 : decode cX3_findFault 79 = .ok (.aload_n 0, 1) := by decide +kernel
theorem dX3_findFault_80 : decode cX3_findFault 80 = .ok (.getfield 21, 3) := by decide +kernel
theorem dX3_findFault_83 : decode cX3_findFault 83 = .ok (.ireturn, 1) := by decide +kernel
set_option maxRecDepth 20000 in
theorem ggX3_takes_X3_takesDigit : GoodIn wsX3_takes wsX3_takesDigit := goodIn_r _ [7, 1, 35, 36, 37, 38, 39, 40, 41] (by decide +kernel) (by decide +kernel)
set_option maxRecDepth 20000 in
theorem gX3_takes_X3_takesDigit : GoodIn wsX3_takes (wsV RX3 46 RX3 yX3_takesDigit wsX3_takesDigit) := goodIn_app (goodIn_of _ (by decide +kernel)) ggX3_takes_X3_takesDigit
set_option maxRecDepth 20000 in
theorem ggX3_takes_X3_takesFactor : GoodIn wsX3_takes wsX3_takesFactor := goodIn_r _ [11, 1, 12, 13, 14, 15, 16, 17, 18, 6, 19, 2, 20, 35, 36, 37, 38, 39, 40, 41] (by decide +kernel) (by decide +kernel)
set_option maxRecDepth 20000 in
theorem gX3_takes_X3_takesFactor : GoodIn wsX3_takes (wsV RX3 50 RX3 yX3_takesFactor wsX3_takesFactor) := goodIn_app (goodIn_of _ (by decide +kernel)) ggX3_takes_X3_takesFactor
set_option maxRecDepth 20000 in
theorem ggX3_takes_X3_takesBracket : GoodIn wsX3_takes wsX3_takesBracket := goodIn_r _ [19, 2, 20, 12, 1, 35, 36, 37, 38, 39, 40, 41] (by decide +kernel) (by decide +kernel)
set_option maxRecDepth 20000 in
theorem gX3_takes_X3_takesBracket : GoodIn wsX3_takes (wsV RX3 53 RX3 yX3_takesBracket wsX3_takesBracket) := goodIn_app (goodIn_of _ (by decide +kernel)) ggX3_takes_X3_takesBracket
set_option maxRecDepth 20000 in
theorem ggX3_takes_X3_takesInside : GoodIn wsX3_takes wsX3_takesInside := goodIn_r _ [24, 20, 2, 1, 25, 26, 27, 6, 28, 35, 36, 37, 38, 39, 40, 41] (by decide +kernel) (by decide +kernel)
set_option maxRecDepth 20000 in
theorem gX3_takes_X3_takesInside : GoodIn wsX3_takes (wsV RX3 57 RX3 yX3_takesInside wsX3_takesInside) := goodIn_app (goodIn_of _ (by decide +kernel)) ggX3_takes_X3_takesInside
set_option maxRecDepth 20000 in
theorem ggX3_takes_X3_takesOutside : GoodIn wsX3_takes wsX3_takesOutside := goodIn_r _ [32, 33, 34, 1, 13, 14, 15, 25, 26, 27, 6, 28, 35, 36, 37, 38, 39, 40, 41] (by decide +kernel) (by decide +kernel)
set_option maxRecDepth 20000 in
theorem gX3_takes_X3_takesOutside : GoodIn wsX3_takes (wsV RX3 60 RX3 yX3_takesOutside wsX3_takesOutside) := goodIn_app (goodIn_of _ (by decide +kernel)) ggX3_takes_X3_takesOutside
theorem dX3_takes_0 : decode cX3_takes 0 = .ok (.aload_n 0, 1) := by decide +kernel
theorem dX3_takes_1 : decode cX3_takes 1 = .ok (.getfield 35, 3) := by decide +kernel
theorem dX3_takes_4 : decode cX3_takes 4 = .ok (.tableswitch 96 0 3 #[32, 54, 71, 77], 32) := by decide +kernel
theorem dX3_takes_36 : decode cX3_takes 36 = .ok (.aload_n 0, 1) := by decide +kernel
theorem dX3_takes_37 : decode cX3_takes 37 = .ok (.iload_n 1, 1) := by decide +kernel
theorem dX3_takes_38 : decode cX3_takes 38 = .ok (.invokevirtual 46, 3) := by decide +kernel
theorem dX3_takes_41 : decode cX3_takes 41 = .ok (.ifCond .ne 11, 3) := by decide +kernel
theorem dX3_takes_44 : decode cX3_takes 44 = .ok (.aload_n 0, 1) := by decide +kernel
theorem dX3_takes_45 : decode cX3_takes 45 = .ok (.iload_n 1, 1) := by decide +kernel
theorem dX3_takes_46 : decode cX3_takes 46 = .ok (.invokevirtual 50, 3) := by decide +kernel
theorem dX3_takes_49 : decode cX3_takes 49 = .ok (.ifCond .eq 7, 3) := by decide +kernel
theorem dX3_takes_52 : decode cX3_takes 52 = .ok (.iconst 1, 1) := by decide +kernel
theorem dX3_takes_53 : decode cX3_takes 53 = .ok (.goto 4, 3) := by decide +kernel
theorem dX3_takes_56 : decode cX3_takes 56 = .ok (.iconst 0, 1) := by decide +kernel
theorem dX3_takes_57 : decode cX3_takes 57 = .ok (.ireturn, 1) := by decide +kernel
theorem dX3_takes_58 : decode cX3_takes 58 = .ok (.aload_n 0, 1) := by decide +kernel
theorem dX3_takes_59 : decode cX3_takes 59 = .ok (.iconst 2, 1) := by decide +kernel
theorem dX3_takes_60 : decode cX3_takes 60 = .ok (.putfield 35, 3) := by decide +kernel
theorem dX3_takes_63 : decode cX3_takes 63 = .ok (.iload_n 1, 1) := by decide +kernel
theorem dX3_takes_64 : decode cX3_takes 64 = .ok (.bipush 42, 2) := by decide +kernel
theorem dX3_takes_66 : decode cX3_takes 66 = .ok (.if_icmp .ne 7, 3) := by decide +kernel
theorem dX3_takes_69 : decode cX3_takes 69 = .ok (.iconst 1, 1) := by decide +kernel
theorem dX3_takes_70 : decode cX3_takes 70 = .ok (.goto 4, 3) := by decide +kernel
theorem dX3_takes_73 : decode cX3_takes 73 = .ok (.iconst 0, 1) := by decide +kernel
theorem dX3_takes_74 : decode cX3_takes 74 = .ok (.ireturn, 1) := by decide +kernel
theorem dX3_takes_75 : decode cX3_takes 75 = .ok (.aload_n 0, 1) := by decide +kernel
theorem dX3_takes_76 : decode cX3_takes 76 = .ok (.iload_n 1, 1) := by decide +kernel
theorem dX3_takes_77 : decode cX3_takes 77 = .ok (.invokevirtual 50, 3) := by decide +kernel
theorem dX3_takes_80 : decode cX3_takes 80 = .ok (.ireturn, 1) := by decide +kernel
theorem dX3_takes_81 : decode cX3_takes 81 = .ok (.iload_n 1, 1) := by decide +kernel
theorem dX3_takes_82 : decode cX3_takes 82 = .ok (.bipush 40, 2) := by decide +kernel
theorem dX3_takes_84 : decode cX3_takes 84 = .ok (.if_icmp .ne 14, 3) := by decide +kernel
theorem dX3_takes_87 : decode cX3_takes 87 = .ok (.aload_n 0, 1) := by decide +kernel
theorem dX3_takes_88 : decode cX3_takes 88 = .ok (.invokevirtual 53, 3) := by decide +kernel
theorem dX3_takes_91 : decode cX3_takes 91 = .ok (.ifCond .eq 7, 3) := by decide +kernel
theorem dX3_takes_94 : decode cX3_takes 94 = .ok (.iconst 1, 1) := by decide +kernel
theorem dX3_takes_95 : decode cX3_takes 95 = .ok (.goto 4, 3) := by decide +kernel
theorem dX3_takes_98 : decode cX3_takes 98 = .ok (.iconst 0, 1) := by decide +kernel
theorem dX3_takes_99 : decode cX3_takes 99 = .ok (.ireturn, 1) := by decide +kernel
theorem dX3_takes_100 : decode cX3_takes 100 = .ok (.aload_n 0, 1) := by decide +kernel
theorem dX3_takes_101 : decode cX3_takes 101 = .ok (.getfield 29, 3) := by decide +kernel
theorem dX3_takes_104 : decode cX3_takes 104 = .ok (.ifCond .le 11, 3) := by decide +kernel
theorem dX3_takes_107 : decode cX3_takes 107 = .ok (.aload_n 0, 1) := by decide +kernel
theorem dX3_takes_108 : decode cX3_takes 108 = .ok (.iload_n 1, 1) := by decide +kernel
theorem dX3_takes_109 : decode cX3_takes 109 = .ok (.invokevirtual 57, 3) := by decide +kernel
theorem dX3_takes_112 : decode cX3_takes 112 = .ok (.goto 9, 3) := by decide +kernel
theorem dX3_takes_115 : decode cX3_takes 115 = .ok (.aload_n 0, 1) := by decide +kernel
theorem dX3_takes_116 : decode cX3_takes 116 = .ok (.iload_n 1, 1) := by decide +kernel
theorem dX3_takes_117 : decode cX3_takes 117 = .ok (.iload_n 2, 1) := by decide +kernel
theorem dX3_takes_118 : decode cX3_takes 118 = .ok (.invokevirtual 60, 3) := by decide +kernel
theorem dX3_takes_121 : decode cX3_takes 121 = .ok (.ireturn, 1) := by decide +kernel
theorem dX3_takesDigit_0 : decode cX3_takesDigit 0 = .ok (.iload_n 1, 1) := by decide +kernel
theorem dX3_takesDigit_1 : decode cX3_takesDigit 1 = .ok (.bipush 48, 2) := by decide +kernel
theorem dX3_takesDigit_3 : decode cX3_takesDigit 3 = .ok (.if_icmp .lt 9, 3) := by decide +kernel
theorem dX3_takesDigit_6 : decode cX3_takesDigit 6 = .ok (.iload_n 1, 1) := by decide +kernel
theorem dX3_takesDigit_7 : decode cX3_takesDigit 7 = .ok (.bipush 57, 2) := by decide +kernel
theorem dX3_takesDigit_9 : decode cX3_takesDigit 9 = .ok (.if_icmp .le 5, 3) := by decide +kernel
theorem dX3_takesDigit_12 : decode cX3_takesDigit 12 = .ok (.iconst 0, 1) := by decide +kernel
theorem dX3_takesDigit_13 : decode cX3_takesDigit 13 = .ok (.ireturn, 1) := by decide +kernel
theorem dX3_takesDigit_14 : decode cX3_takesDigit 14 = .ok (.aload_n 0, 1) := by decide +kernel
theorem dX3_takesDigit_15 : decode cX3_takesDigit 15 = .ok (.iconst 1, 1) := by decide +kernel
theorem dX3_takesDigit_16 : decode cX3_takesDigit 16 = .ok (.putfield 35, 3) := by decide +kernel
theorem dX3_takesDigit_19 : decode cX3_takesDigit 19 = .ok (.iconst 1, 1) := by decide +kernel
theorem dX3_takesDigit_20 : decode cX3_takesDigit 20 = .ok (.ireturn, 1) := by decide +kernel
set_option maxRecDepth 20000 in
theorem ggX3_takesFactor_X7_registerOf : GoodIn wsX3_takesFactor wsX7_registerOf := goodIn_r _ [5] (by decide +kernel) (by decide +kernel)
set_option maxRecDepth 20000 in
theorem gX3_takesFactor_X7_registerOf_n25 : GoodIn wsX3_takesFactor (wsX7_registerOf) := ggX3_takesFactor_X7_registerOf
set_option maxRecDepth 20000 in
theorem ggX3_takesFactor_X3_takesBracket : GoodIn wsX3_takesFactor wsX3_takesBracket := goodIn_r _ [10, 11, 12, 2, 1, 13, 14, 15, 16, 17, 18, 19] (by decide +kernel) (by decide +kernel)
set_option maxRecDepth 20000 in
theorem gX3_takesFactor_X3_takesBracket : GoodIn wsX3_takesFactor (wsV RX3 53 RX3 yX3_takesBracket wsX3_takesBracket) := goodIn_app (goodIn_of _ (by decide +kernel)) ggX3_takesFactor_X3_takesBracket
theorem dX3_takesFactor_0 : decode cX3_takesFactor 0 = .ok (.iload_n 1, 1) := by decide +kernel
theorem dX3_takesFactor_1 : decode cX3_takesFactor 1 = .ok (.bipush 105, 2) := by decide +kernel
theorem dX3_takesFactor_3 : decode cX3_takesFactor 3 = .ok (.if_icmp .eq 12, 3) := by decide +kernel
theorem dX3_takesFactor_6 : decode cX3_takesFactor 6 = .ok (.iload_n 1, 1) := by decide +kernel
theorem dX3_takesFactor_7 : decode cX3_takesFactor 7 = .ok (.invokestatic 25, 3) := by decide +kernel
theorem dX3_takesFactor_10 : decode cX3_takesFactor 10 = .ok (.bipush (-6), 2) := by decide +kernel
theorem dX3_takesFactor_12 : decode cX3_takesFactor 12 = .ok (.if_icmp .eq 10, 3) := by decide +kernel
theorem dX3_takesFactor_15 : decode cX3_takesFactor 15 = .ok (.aload_n 0, 1) := by decide +kernel
theorem dX3_takesFactor_16 : decode cX3_takesFactor 16 = .ok (.iconst 4, 1) := by decide +kernel
theorem dX3_takesFactor_17 : decode cX3_takesFactor 17 = .ok (.putfield 35, 3) := by decide +kernel
theorem dX3_takesFactor_20 : decode cX3_takesFactor 20 = .ok (.iconst 1, 1) := by decide +kernel
theorem dX3_takesFactor_21 : decode cX3_takesFactor 21 = .ok (.ireturn, 1) := by decide +kernel
theorem dX3_takesFactor_22 : decode cX3_takesFactor 22 = .ok (.iload_n 1, 1) := by decide +kernel
theorem dX3_takesFactor_23 : decode cX3_takesFactor 23 = .ok (.bipush 40, 2) := by decide +kernel
theorem dX3_takesFactor_25 : decode cX3_takesFactor 25 = .ok (.if_icmp .ne 13, 3) := by decide +kernel
theorem dX3_takesFactor_28 : decode cX3_takesFactor 28 = .ok (.aload_n 0, 1) := by decide +kernel
theorem dX3_takesFactor_29 : decode cX3_takesFactor 29 = .ok (.iconst 0, 1) := by decide +kernel
theorem dX3_takesFactor_30 : decode cX3_takesFactor 30 = .ok (.putfield 32, 3) := by decide +kernel
theorem dX3_takesFactor_33 : decode cX3_takesFactor 33 = .ok (.aload_n 0, 1) := by decide +kernel
theorem dX3_takesFactor_34 : decode cX3_takesFactor 34 = .ok (.invokevirtual 53, 3) := by decide +kernel
theorem dX3_takesFactor_37 : decode cX3_takesFactor 37 = .ok (.ireturn, 1) := by decide +kernel
theorem dX3_takesFactor_38 : decode cX3_takesFactor 38 = .ok (.aload_n 0, 1) := by decide +kernel
theorem dX3_takesFactor_39 : decode cX3_takesFactor 39 = .ok (.iload_n 1, 1) := by decide +kernel
theorem dX3_takesFactor_40 : decode cX3_takesFactor 40 = .ok (.bipush 116, 2) := by decide +kernel
theorem dX3_takesFactor_42 : decode cX3_takesFactor 42 = .ok (.if_icmp .ne 7, 3) := by decide +kernel
theorem dX3_takesFactor_45 : decode cX3_takesFactor 45 = .ok (.iconst 2, 1) := by decide +kernel
theorem dX3_takesFactor_46 : decode cX3_takesFactor 46 = .ok (.goto 20, 3) := by decide +kernel
theorem dX3_takesFactor_49 : decode cX3_takesFactor 49 = .ok (.iload_n 1, 1) := by decide +kernel
theorem dX3_takesFactor_50 : decode cX3_takesFactor 50 = .ok (.bipush 112, 2) := by decide +kernel
theorem dX3_takesFactor_52 : decode cX3_takesFactor 52 = .ok (.if_icmp .eq 9, 3) := by decide +kernel
theorem dX3_takesFactor_55 : decode cX3_takesFactor 55 = .ok (.iload_n 1, 1) := by decide +kernel
theorem dX3_takesFactor_56 : decode cX3_takesFactor 56 = .ok (.bipush 117, 2) := by decide +kernel
theorem dX3_takesFactor_58 : decode cX3_takesFactor 58 = .ok (.if_icmp .ne 7, 3) := by decide +kernel
theorem dX3_takesFactor_61 : decode cX3_takesFactor 61 = .ok (.iconst 1, 1) := by decide +kernel
theorem dX3_takesFactor_62 : decode cX3_takesFactor 62 = .ok (.goto 4, 3) := by decide +kernel
theorem dX3_takesFactor_65 : decode cX3_takesFactor 65 = .ok (.iconst 0, 1) := by decide +kernel
theorem dX3_takesFactor_66 : decode cX3_takesFactor 66 = .ok (.putfield 32, 3) := by decide +kernel
theorem dX3_takesFactor_69 : decode cX3_takesFactor 69 = .ok (.aload_n 0, 1) := by decide +kernel
theorem dX3_takesFactor_70 : decode cX3_takesFactor 70 = .ok (.iconst 3, 1) := by decide +kernel
theorem dX3_takesFactor_71 : decode cX3_takesFactor 71 = .ok (.putfield 35, 3) := by decide +kernel
theorem dX3_takesFactor_74 : decode cX3_takesFactor 74 = .ok (.aload_n 0, 1) := by decide +kernel
theorem dX3_takesFactor_75 : decode cX3_takesFactor 75 = .ok (.getfield 32, 3) := by decide +kernel
theorem dX3_takesFactor_78 : decode cX3_takesFactor 78 = .ok (.ifCond .gt 9, 3) := by decide +kernel
theorem dX3_takesFactor_81 : decode cX3_takesFactor 81 = .ok (.iload_n 1, 1) := by decide +kernel
theorem dX3_takesFactor_82 : decode cX3_takesFactor 82 = .ok (.bipush 118, 2) := by decide +kernel
theorem dX3_takesFactor_84 : decode cX3_takesFactor 84 = .ok (.if_icmp .ne 7, 3) := by decide +kernel
theorem dX3_takesFactor_87 : decode cX3_takesFactor 87 = .ok (.iconst 1, 1) := by decide +kernel
theorem dX3_takesFactor_88 : decode cX3_takesFactor 88 = .ok (.goto 4, 3) := by decide +kernel
theorem dX3_takesFactor_91 : decode cX3_takesFactor 91 = .ok (.iconst 0, 1) := by decide +kernel
theorem dX3_takesFactor_92 : decode cX3_takesFactor 92 = .ok (.ireturn, 1) := by decide +kernel
theorem dX3_takesBracket_0 : decode cX3_takesBracket 0 = .ok (.aload_n 0, 1) := by decide +kernel
theorem dX3_takesBracket_1 : decode cX3_takesBracket 1 = .ok (.getfield 29, 3) := by decide +kernel
theorem dX3_takesBracket_4 : decode cX3_takesBracket 4 = .ok (.bipush 60, 2) := by decide +kernel
theorem dX3_takesBracket_6 : decode cX3_takesBracket 6 = .ok (.if_icmp .lt 5, 3) := by decide +kernel
theorem dX3_takesBracket_9 : decode cX3_takesBracket 9 = .ok (.iconst 0, 1) := by decide +kernel
theorem dX3_takesBracket_10 : decode cX3_takesBracket 10 = .ok (.ireturn, 1) := by decide +kernel
theorem dX3_takesBracket_11 : decode cX3_takesBracket 11 = .ok (.aload_n 0, 1) := by decide +kernel
theorem dX3_takesBracket_12 : decode cX3_takesBracket 12 = .ok (.getfield 15, 3) := by decide +kernel
theorem dX3_takesBracket_15 : decode cX3_takesBracket 15 = .ok (.aload_n 0, 1) := by decide +kernel
theorem dX3_takesBracket_16 : decode cX3_takesBracket 16 = .ok (.getfield 29, 3) := by decide +kernel
theorem dX3_takesBracket_19 : decode cX3_takesBracket 19 = .ok (.aload_n 0, 1) := by decide +kernel
theorem dX3_takesBracket_20 : decode cX3_takesBracket 20 = .ok (.getfield 32, 3) := by decide +kernel
theorem dX3_takesBracket_23 : decode cX3_takesBracket 23 = .ok (.iastore, 1) := by decide +kernel
theorem dX3_takesBracket_24 : decode cX3_takesBracket 24 = .ok (.aload_n 0, 1) := by decide +kernel
theorem dX3_takesBracket_25 : decode cX3_takesBracket 25 = .ok (.dup, 1) := by decide +kernel
theorem dX3_takesBracket_26 : decode cX3_takesBracket 26 = .ok (.getfield 29, 3) := by decide +kernel
theorem dX3_takesBracket_29 : decode cX3_takesBracket 29 = .ok (.iconst 1, 1) := by decide +kernel
theorem dX3_takesBracket_30 : decode cX3_takesBracket 30 = .ok (.iadd, 1) := by decide +kernel
theorem dX3_takesBracket_31 : decode cX3_takesBracket 31 = .ok (.putfield 29, 3) := by decide +kernel
theorem dX3_takesBracket_34 : decode cX3_takesBracket 34 = .ok (.aload_n 0, 1) := by decide +kernel
theorem dX3_takesBracket_35 : decode cX3_takesBracket 35 = .ok (.iconst 0, 1) := by decide +kernel
theorem dX3_takesBracket_36 : decode cX3_takesBracket 36 = .ok (.putfield 35, 3) := by decide +kernel
theorem dX3_takesBracket_39 : decode cX3_takesBracket 39 = .ok (.iconst 1, 1) := by decide +kernel
theorem dX3_takesBracket_40 : decode cX3_takesBracket 40 = .ok (.ireturn, 1) := by decide +kernel
set_option maxRecDepth 20000 in
theorem ggX3_takesInside_X3_takesSign : GoodIn wsX3_takesInside wsX3_takesSign := goodIn_r _ [8, 3, 9, 10, 11, 12, 13, 14, 15] (by decide +kernel) (by decide +kernel)
set_option maxRecDepth 20000 in
theorem gX3_takesInside_X3_takesSign : GoodIn wsX3_takesInside (wsV RX3 63 RX3 yX3_takesSign wsX3_takesSign) := goodIn_app (goodIn_of _ (by decide +kernel)) ggX3_takesInside_X3_takesSign
theorem dX3_takesInside_0 : decode cX3_takesInside 0 = .ok (.aload_n 0, 1) := by decide +kernel
theorem dX3_takesInside_1 : decode cX3_takesInside 1 = .ok (.getfield 15, 3) := by decide +kernel
theorem dX3_takesInside_4 : decode cX3_takesInside 4 = .ok (.aload_n 0, 1) := by decide +kernel
theorem dX3_takesInside_5 : decode cX3_takesInside 5 = .ok (.getfield 29, 3) := by decide +kernel
theorem dX3_takesInside_8 : decode cX3_takesInside 8 = .ok (.iconst 1, 1) := by decide +kernel
theorem dX3_takesInside_9 : decode cX3_takesInside 9 = .ok (.isub, 1) := by decide +kernel
theorem dX3_takesInside_10 : decode cX3_takesInside 10 = .ok (.iaload, 1) := by decide +kernel
theorem dX3_takesInside_11 : decode cX3_takesInside 11 = .ok (.istore_n 2, 1) := by decide +kernel
theorem dX3_takesInside_12 : decode cX3_takesInside 12 = .ok (.iload_n 1, 1) := by decide +kernel
theorem dX3_takesInside_13 : decode cX3_takesInside 13 = .ok (.bipush 41, 2) := by decide +kernel
theorem dX3_takesInside_15 : decode cX3_takesInside 15 = .ok (.if_icmp .ne 19, 3) := by decide +kernel
theorem dX3_takesInside_18 : decode cX3_takesInside 18 = .ok (.iload_n 2, 1) := by decide +kernel
theorem dX3_takesInside_19 : decode cX3_takesInside 19 = .ok (.ifCond .ne 15, 3) := by decide +kernel
theorem dX3_takesInside_22 : decode cX3_takesInside 22 = .ok (.aload_n 0, 1) := by decide +kernel
theorem dX3_takesInside_23 : decode cX3_takesInside 23 = .ok (.dup, 1) := by decide +kernel
theorem dX3_takesInside_24 : decode cX3_takesInside 24 = .ok (.getfield 29, 3) := by decide +kernel
theorem dX3_takesInside_27 : decode cX3_takesInside 27 = .ok (.iconst 1, 1) := by decide +kernel
theorem dX3_takesInside_28 : decode cX3_takesInside 28 = .ok (.isub, 1) := by decide +kernel
theorem dX3_takesInside_29 : decode cX3_takesInside 29 = .ok (.putfield 29, 3) := by decide +kernel
theorem dX3_takesInside_32 : decode cX3_takesInside 32 = .ok (.iconst 1, 1) := by decide +kernel
theorem dX3_takesInside_33 : decode cX3_takesInside 33 = .ok (.ireturn, 1) := by decide +kernel
theorem dX3_takesInside_34 : decode cX3_takesInside 34 = .ok (.iload_n 1, 1) := by decide +kernel
theorem dX3_takesInside_35 : decode cX3_takesInside 35 = .ok (.bipush 44, 2) := by decide +kernel
theorem dX3_takesInside_37 : decode cX3_takesInside 37 = .ok (.if_icmp .ne 28, 3) := by decide +kernel
theorem dX3_takesInside_40 : decode cX3_takesInside 40 = .ok (.iload_n 2, 1) := by decide +kernel
theorem dX3_takesInside_41 : decode cX3_takesInside 41 = .ok (.ifCond .le 24, 3) := by decide +kernel
theorem dX3_takesInside_44 : decode cX3_takesInside 44 = .ok (.aload_n 0, 1) := by decide +kernel
theorem dX3_takesInside_45 : decode cX3_takesInside 45 = .ok (.getfield 15, 3) := by decide +kernel
theorem dX3_takesInside_48 : decode cX3_takesInside 48 = .ok (.aload_n 0, 1) := by decide +kernel
theorem dX3_takesInside_49 : decode cX3_takesInside 49 = .ok (.getfield 29, 3) := by decide +kernel
theorem dX3_takesInside_52 : decode cX3_takesInside 52 = .ok (.iconst 1, 1) := by decide +kernel
theorem dX3_takesInside_53 : decode cX3_takesInside 53 = .ok (.isub, 1) := by decide +kernel
theorem dX3_takesInside_54 : decode cX3_takesInside 54 = .ok (.iload_n 2, 1) := by decide +kernel
theorem dX3_takesInside_55 : decode cX3_takesInside 55 = .ok (.iconst 1, 1) := by decide +kernel
theorem dX3_takesInside_56 : decode cX3_takesInside 56 = .ok (.isub, 1) := by decide +kernel
theorem dX3_takesInside_57 : decode cX3_takesInside 57 = .ok (.iastore, 1) := by decide +kernel
theorem dX3_takesInside_58 : decode cX3_takesInside 58 = .ok (.aload_n 0, 1) := by decide +kernel
theorem dX3_takesInside_59 : decode cX3_takesInside 59 = .ok (.iconst 0, 1) := by decide +kernel
theorem dX3_takesInside_60 : decode cX3_takesInside 60 = .ok (.putfield 35, 3) := by decide +kernel
theorem dX3_takesInside_63 : decode cX3_takesInside 63 = .ok (.iconst 1, 1) := by decide +kernel
theorem dX3_takesInside_64 : decode cX3_takesInside 64 = .ok (.ireturn, 1) := by decide +kernel
theorem dX3_takesInside_65 : decode cX3_takesInside 65 = .ok (.aload_n 0, 1) := by decide +kernel
theorem dX3_takesInside_66 : decode cX3_takesInside 66 = .ok (.iload_n 1, 1) := by decide +kernel
theorem dX3_takesInside_67 : decode cX3_takesInside 67 = .ok (.invokevirtual 63, 3) := by decide +kernel
theorem dX3_takesInside_70 : decode cX3_takesInside 70 = .ok (.ireturn, 1) := by decide +kernel
set_option maxRecDepth 20000 in
theorem ggX3_takesOutside_X7_registerOf : GoodIn wsX3_takesOutside wsX7_registerOf := goodIn_r _ [6] (by decide +kernel) (by decide +kernel)
set_option maxRecDepth 20000 in
theorem gX3_takesOutside_X7_registerOf_n25 : GoodIn wsX3_takesOutside (wsX7_registerOf) := ggX3_takesOutside_X7_registerOf
set_option maxRecDepth 20000 in
theorem ggX3_takesOutside_X3_takesSign : GoodIn wsX3_takesOutside wsX3_takesSign := goodIn_r _ [11, 3, 12, 13, 14, 15, 16, 17, 18] (by decide +kernel) (by decide +kernel)
set_option maxRecDepth 20000 in
theorem gX3_takesOutside_X3_takesSign : GoodIn wsX3_takesOutside (wsV RX3 63 RX3 yX3_takesSign wsX3_takesSign) := goodIn_app (goodIn_of _ (by decide +kernel)) ggX3_takesOutside_X3_takesSign
theorem dX3_takesOutside_0 : decode cX3_takesOutside 0 = .ok (.iload_n 1, 1) := by decide +kernel
theorem dX3_takesOutside_1 : decode cX3_takesOutside 1 = .ok (.bipush 61, 2) := by decide +kernel
theorem dX3_takesOutside_3 : decode cX3_takesOutside 3 = .ok (.if_icmp .eq 28, 3) := by decide +kernel
theorem dX3_takesOutside_6 : decode cX3_takesOutside 6 = .ok (.iload_n 1, 1) := by decide +kernel
theorem dX3_takesOutside_7 : decode cX3_takesOutside 7 = .ok (.bipush 58, 2) := by decide +kernel
theorem dX3_takesOutside_9 : decode cX3_takesOutside 9 = .ok (.if_icmp .ne 26, 3) := by decide +kernel
theorem dX3_takesOutside_12 : decode cX3_takesOutside 12 = .ok (.iload_n 2, 1) := by decide +kernel
theorem dX3_takesOutside_13 : decode cX3_takesOutside 13 = .ok (.iconst 1, 1) := by decide +kernel
theorem dX3_takesOutside_14 : decode cX3_takesOutside 14 = .ok (.if_icmp .ne 21, 3) := by decide +kernel
theorem dX3_takesOutside_17 : decode cX3_takesOutside 17 = .ok (.aload_n 0, 1) := by decide +kernel
theorem dX3_takesOutside_18 : decode cX3_takesOutside 18 = .ok (.getfield 9, 3) := by decide +kernel
theorem dX3_takesOutside_21 : decode cX3_takesOutside 21 = .ok (.iconst 0, 1) := by decide +kernel
theorem dX3_takesOutside_22 : decode cX3_takesOutside 22 = .ok (.caload, 1) := by decide +kernel
theorem dX3_takesOutside_23 : decode cX3_takesOutside 23 = .ok (.invokestatic 25, 3) := by decide +kernel
theorem dX3_takesOutside_26 : decode cX3_takesOutside 26 = .ok (.bipush (-6), 2) := by decide +kernel
theorem dX3_takesOutside_28 : decode cX3_takesOutside 28 = .ok (.if_icmp .eq 7, 3) := by decide +kernel
theorem dX3_takesOutside_31 : decode cX3_takesOutside 31 = .ok (.iconst 1, 1) := by decide +kernel
theorem dX3_takesOutside_32 : decode cX3_takesOutside 32 = .ok (.goto 4, 3) := by decide +kernel
theorem dX3_takesOutside_35 : decode cX3_takesOutside 35 = .ok (.iconst 0, 1) := by decide +kernel
theorem dX3_takesOutside_36 : decode cX3_takesOutside 36 = .ok (.istore_n 3, 1) := by decide +kernel
theorem dX3_takesOutside_37 : decode cX3_takesOutside 37 = .ok (.iload_n 3, 1) := by decide +kernel
theorem dX3_takesOutside_38 : decode cX3_takesOutside 38 = .ok (.ifCond .eq 22, 3) := by decide +kernel
theorem dX3_takesOutside_41 : decode cX3_takesOutside 41 = .ok (.aload_n 0, 1) := by decide +kernel
theorem dX3_takesOutside_42 : decode cX3_takesOutside 42 = .ok (.getfield 38, 3) := by decide +kernel
theorem dX3_takesOutside_45 : decode cX3_takesOutside 45 = .ok (.ifCond .ne 15, 3) := by decide +kernel
theorem dX3_takesOutside_48 : decode cX3_takesOutside 48 = .ok (.aload_n 0, 1) := by decide +kernel
theorem dX3_takesOutside_49 : decode cX3_takesOutside 49 = .ok (.iconst 1, 1) := by decide +kernel
theorem dX3_takesOutside_50 : decode cX3_takesOutside 50 = .ok (.putfield 38, 3) := by decide +kernel
theorem dX3_takesOutside_53 : decode cX3_takesOutside 53 = .ok (.aload_n 0, 1) := by decide +kernel
theorem dX3_takesOutside_54 : decode cX3_takesOutside 54 = .ok (.iconst 0, 1) := by decide +kernel
theorem dX3_takesOutside_55 : decode cX3_takesOutside 55 = .ok (.putfield 35, 3) := by decide +kernel
theorem dX3_takesOutside_58 : decode cX3_takesOutside 58 = .ok (.iconst 1, 1) := by decide +kernel
theorem dX3_takesOutside_59 : decode cX3_takesOutside 59 = .ok (.ireturn, 1) := by decide +kernel
theorem dX3_takesOutside_60 : decode cX3_takesOutside 60 = .ok (.aload_n 0, 1) := by decide +kernel
theorem dX3_takesOutside_61 : decode cX3_takesOutside 61 = .ok (.iload_n 1, 1) := by decide +kernel
theorem dX3_takesOutside_62 : decode cX3_takesOutside 62 = .ok (.invokevirtual 63, 3) := by decide +kernel
theorem dX3_takesOutside_65 : decode cX3_takesOutside 65 = .ok (.ireturn, 1) := by decide +kernel
theorem dX3_takesSign_0 : decode cX3_takesSign 0 = .ok (.aload_n 0, 1) := by decide +kernel
theorem dX3_takesSign_1 : decode cX3_takesSign 1 = .ok (.iconst 0, 1) := by decide +kernel
theorem dX3_takesSign_2 : decode cX3_takesSign 2 = .ok (.putfield 35, 3) := by decide +kernel
theorem dX3_takesSign_5 : decode cX3_takesSign 5 = .ok (.iload_n 1, 1) := by decide +kernel
theorem dX3_takesSign_6 : decode cX3_takesSign 6 = .ok (.bipush 43, 2) := by decide +kernel
theorem dX3_takesSign_8 : decode cX3_takesSign 8 = .ok (.if_icmp .eq 9, 3) := by decide +kernel
theorem dX3_takesSign_11 : decode cX3_takesSign 11 = .ok (.iload_n 1, 1) := by decide +kernel
theorem dX3_takesSign_12 : decode cX3_takesSign 12 = .ok (.bipush 45, 2) := by decide +kernel
theorem dX3_takesSign_14 : decode cX3_takesSign 14 = .ok (.if_icmp .ne 7, 3) := by decide +kernel
theorem dX3_takesSign_17 : decode cX3_takesSign 17 = .ok (.iconst 1, 1) := by decide +kernel
theorem dX3_takesSign_18 : decode cX3_takesSign 18 = .ok (.goto 4, 3) := by decide +kernel
theorem dX3_takesSign_21 : decode cX3_takesSign 21 = .ok (.iconst 0, 1) := by decide +kernel
theorem dX3_takesSign_22 : decode cX3_takesSign 22 = .ok (.ireturn, 1) := by decide +kernel
