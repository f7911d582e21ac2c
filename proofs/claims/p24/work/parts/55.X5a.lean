theorem dX5_init_0 : decode cX5_init 0 = .ok (.aload_n 0, 1) := by decide +kernel
theorem dX5_init_1 : decode cX5_init 1 = .ok (.invokespecial 3, 3) := by decide +kernel
theorem dX5_init_4 : decode cX5_init 4 = .ok (.aload_n 0, 1) := by decide +kernel
theorem dX5_init_5 : decode cX5_init 5 = .ok (.iconst 4, 1) := by decide +kernel
theorem dX5_init_6 : decode cX5_init 6 = .ok (.bipush 9, 2) := by decide +kernel
theorem dX5_init_8 : decode cX5_init 8 = .ok (.multianewarray 9 2, 4) := by decide +kernel
theorem dX5_init_12 : decode cX5_init 12 = .ok (.putfield 11, 3) := by decide +kernel
theorem dX5_init_15 : decode cX5_init 15 = .ok (.return_, 1) := by decide +kernel
set_option maxRecDepth 20000 in
theorem ggX5_load_X5_clearRow : GoodIn wsX5_load wsX5_clearRow := goodIn_r _ [7, 2, 11, 12, 13] (by decide +kernel) (by decide +kernel)
set_option maxRecDepth 20000 in
theorem gX5_load_X5_clearRow : GoodIn wsX5_load (wsV RX5 26 RX5 yX5_clearRow wsX5_clearRow) := goodIn_app (goodIn_of _ (by decide +kernel)) ggX5_load_X5_clearRow
theorem dX5_load_0 : decode cX5_load 0 = .ok (.aload_n 0, 1) := by decide +kernel
theorem dX5_load_1 : decode cX5_load 1 = .ok (.aload_n 2, 1) := by decide +kernel
theorem dX5_load_2 : decode cX5_load 2 = .ok (.getfield 16, 3) := by decide +kernel
theorem dX5_load_5 : decode cX5_load 5 = .ok (.putfield 22, 3) := by decide +kernel
theorem dX5_load_8 : decode cX5_load 8 = .ok (.iconst 0, 1) := by decide +kernel
theorem dX5_load_9 : decode cX5_load 9 = .ok (.istore_n 3, 1) := by decide +kernel
theorem dX5_load_10 : decode cX5_load 10 = .ok (.iload_n 3, 1) := by decide +kernel
theorem dX5_load_11 : decode cX5_load 11 = .ok (.iconst 3, 1) := by decide +kernel
theorem dX5_load_12 : decode cX5_load 12 = .ok (.if_icmp .ge 84, 3) := by decide +kernel
theorem dX5_load_15 : decode cX5_load 15 = .ok (.iconst 0, 1) := by decide +kernel
theorem dX5_load_16 : decode cX5_load 16 = .ok (.istore 4, 2) := by decide +kernel
theorem dX5_load_18 : decode cX5_load 18 = .ok (.iload 4, 2) := by decide +kernel
theorem dX5_load_20 : decode cX5_load 20 = .ok (.iconst 3, 1) := by decide +kernel
theorem dX5_load_21 : decode cX5_load 21 = .ok (.if_icmp .ge 69, 3) := by decide +kernel
theorem dX5_load_24 : decode cX5_load 24 = .ok (.aload_n 0, 1) := by decide +kernel
theorem dX5_load_25 : decode cX5_load 25 = .ok (.getfield 11, 3) := by decide +kernel
theorem dX5_load_28 : decode cX5_load 28 = .ok (.iload_n 3, 1) := by decide +kernel
theorem dX5_load_29 : decode cX5_load 29 = .ok (.aaload, 1) := by decide +kernel
theorem dX5_load_30 : decode cX5_load 30 = .ok (.iload 4, 2) := by decide +kernel
theorem dX5_load_32 : decode cX5_load 32 = .ok (.aload_n 1, 1) := by decide +kernel
theorem dX5_load_33 : decode cX5_load 33 = .ok (.iconst 3, 1) := by decide +kernel
theorem dX5_load_34 : decode cX5_load 34 = .ok (.iload_n 3, 1) := by decide +kernel
theorem dX5_load_35 : decode cX5_load 35 = .ok (.imul, 1) := by decide +kernel
theorem dX5_load_36 : decode cX5_load 36 = .ok (.iload 4, 2) := by decide +kernel
theorem dX5_load_38 : decode cX5_load 38 = .ok (.iadd, 1) := by decide +kernel
theorem dX5_load_39 : decode cX5_load 39 = .ok (.iaload, 1) := by decide +kernel
theorem dX5_load_40 : decode cX5_load 40 = .ok (.iastore, 1) := by decide +kernel
theorem dX5_load_41 : decode cX5_load 41 = .ok (.aload_n 0, 1) := by decide +kernel
theorem dX5_load_42 : decode cX5_load 42 = .ok (.getfield 11, 3) := by decide +kernel
theorem dX5_load_45 : decode cX5_load 45 = .ok (.iload_n 3, 1) := by decide +kernel
theorem dX5_load_46 : decode cX5_load 46 = .ok (.aaload, 1) := by decide +kernel
theorem dX5_load_47 : decode cX5_load 47 = .ok (.iconst 3, 1) := by decide +kernel
theorem dX5_load_48 : decode cX5_load 48 = .ok (.iload 4, 2) := by decide +kernel
theorem dX5_load_50 : decode cX5_load 50 = .ok (.iadd, 1) := by decide +kernel
theorem dX5_load_51 : decode cX5_load 51 = .ok (.iload_n 3, 1) := by decide +kernel
theorem dX5_load_52 : decode cX5_load 52 = .ok (.iload 4, 2) := by decide +kernel
theorem dX5_load_54 : decode cX5_load 54 = .ok (.if_icmp .ne 15, 3) := by decide +kernel
theorem dX5_load_57 : decode cX5_load 57 = .ok (.iload_n 3, 1) := by decide +kernel
theorem dX5_load_58 : decode cX5_load 58 = .ok (.aload_n 2, 1) := by decide +kernel
theorem dX5_load_59 : decode cX5_load 59 = .ok (.getfield 23, 3) := by decide +kernel
theorem dX5_load_62 : decode cX5_load 62 = .ok (.if_icmp .ge 7, 3) := by decide +kernel
theorem dX5_load_65 : decode cX5_load 65 = .ok (.iconst 1, 1) := by decide +kernel
theorem dX5_load_66 : decode cX5_load 66 = .ok (.goto 4, 3) := by decide +kernel
theorem dX5_load_69 : decode cX5_load 69 = .ok (.iconst 0, 1) := by decide +kernel
theorem dX5_load_70 : decode cX5_load 70 = .ok (.iastore, 1) := by decide +kernel
theorem dX5_load_71 : decode cX5_load 71 = .ok (.aload_n 0, 1) := by decide +kernel
theorem dX5_load_72 : decode cX5_load 72 = .ok (.getfield 11, 3) := by decide +kernel
theorem dX5_load_75 : decode cX5_load 75 = .ok (.iload_n 3, 1) := by decide +kernel
theorem dX5_load_76 : decode cX5_load 76 = .ok (.aaload, 1) := by decide +kernel
theorem dX5_load_77 : decode cX5_load 77 = .ok (.bipush 6, 2) := by decide +kernel
theorem dX5_load_79 : decode cX5_load 79 = .ok (.iload 4, 2) := by decide +kernel
theorem dX5_load_81 : decode cX5_load 81 = .ok (.iadd, 1) := by decide +kernel
theorem dX5_load_82 : decode cX5_load 82 = .ok (.iconst 0, 1) := by decide +kernel
theorem dX5_load_83 : decode cX5_load 83 = .ok (.iastore, 1) := by decide +kernel
theorem dX5_load_84 : decode cX5_load 84 = .ok (.iinc 4 1, 3) := by decide +kernel
theorem dX5_load_87 : decode cX5_load 87 = .ok (.goto (-69), 3) := by decide +kernel
theorem dX5_load_90 : decode cX5_load 90 = .ok (.iinc 3 1, 3) := by decide +kernel
theorem dX5_load_93 : decode cX5_load 93 = .ok (.goto (-83), 3) := by decide +kernel
theorem dX5_load_96 : decode cX5_load 96 = .ok (.aload_n 0, 1) := by decide +kernel
theorem dX5_load_97 : decode cX5_load 97 = .ok (.iconst 3, 1) := by decide +kernel
theorem dX5_load_98 : decode cX5_load 98 = .ok (.invokevirtual 26, 3) := by decide +kernel
theorem dX5_load_101 : decode cX5_load 101 = .ok (.return_, 1) := by decide +kernel
set_option maxRecDepth 20000 in
theorem ggX5_loadAll_X5_clearRow : GoodIn wsX5_loadAll wsX5_clearRow := goodIn_r _ [7, 2, 15, 16, 17] (by decide +kernel) (by decide +kernel)
set_option maxRecDepth 20000 in
theorem gX5_loadAll_X5_clearRow : GoodIn wsX5_loadAll (wsV RX5 26 RX5 yX5_clearRow wsX5_clearRow) := goodIn_app (goodIn_of _ (by decide +kernel)) ggX5_loadAll_X5_clearRow
set_option maxRecDepth 20000 in
theorem ggX5_loadAll_X7_copy : GoodIn wsX5_loadAll wsX7_copy := goodIn_r _ [10, 11, 12, 13, 14] (by decide +kernel) (by decide +kernel)
set_option maxRecDepth 20000 in
theorem gX5_loadAll_X7_copy_n30 : GoodIn wsX5_loadAll (wsX7_copy) := ggX5_loadAll_X7_copy
theorem dX5_loadAll_0 : decode cX5_loadAll 0 = .ok (.aload_n 0, 1) := by decide +kernel
theorem dX5_loadAll_1 : decode cX5_loadAll 1 = .ok (.iload_n 3, 1) := by decide +kernel
theorem dX5_loadAll_2 : decode cX5_loadAll 2 = .ok (.putfield 22, 3) := by decide +kernel
theorem dX5_loadAll_5 : decode cX5_loadAll 5 = .ok (.iconst 0, 1) := by decide +kernel
theorem dX5_loadAll_6 : decode cX5_loadAll 6 = .ok (.istore 4, 2) := by decide +kernel
theorem dX5_loadAll_8 : decode cX5_loadAll 8 = .ok (.iload 4, 2) := by decide +kernel
theorem dX5_loadAll_10 : decode cX5_loadAll 10 = .ok (.aload_n 0, 1) := by decide +kernel
theorem dX5_loadAll_11 : decode cX5_loadAll 11 = .ok (.getfield 11, 3) := by decide +kernel
theorem dX5_loadAll_14 : decode cX5_loadAll 14 = .ok (.arraylength, 1) := by decide +kernel
theorem dX5_loadAll_15 : decode cX5_loadAll 15 = .ok (.if_icmp .ge 42, 3) := by decide +kernel
theorem dX5_loadAll_18 : decode cX5_loadAll 18 = .ok (.aload_n 0, 1) := by decide +kernel
theorem dX5_loadAll_19 : decode cX5_loadAll 19 = .ok (.iload 4, 2) := by decide +kernel
theorem dX5_loadAll_21 : decode cX5_loadAll 21 = .ok (.invokevirtual 26, 3) := by decide +kernel
theorem dX5_loadAll_24 : decode cX5_loadAll 24 = .ok (.iload 4, 2) := by decide +kernel
theorem dX5_loadAll_26 : decode cX5_loadAll 26 = .ok (.iload_n 2, 1) := by decide +kernel
theorem dX5_loadAll_27 : decode cX5_loadAll 27 = .ok (.if_icmp .ge 24, 3) := by decide +kernel
theorem dX5_loadAll_30 : decode cX5_loadAll 30 = .ok (.iload 4, 2) := by decide +kernel
theorem dX5_loadAll_32 : decode cX5_loadAll 32 = .ok (.aload_n 1, 1) := by decide +kernel
theorem dX5_loadAll_33 : decode cX5_loadAll 33 = .ok (.arraylength, 1) := by decide +kernel
theorem dX5_loadAll_34 : decode cX5_loadAll 34 = .ok (.if_icmp .ge 17, 3) := by decide +kernel
theorem dX5_loadAll_37 : decode cX5_loadAll 37 = .ok (.aload_n 1, 1) := by decide +kernel
theorem dX5_loadAll_38 : decode cX5_loadAll 38 = .ok (.iload 4, 2) := by decide +kernel
theorem dX5_loadAll_40 : decode cX5_loadAll 40 = .ok (.aaload, 1) := by decide +kernel
theorem dX5_loadAll_41 : decode cX5_loadAll 41 = .ok (.aload_n 0, 1) := by decide +kernel
theorem dX5_loadAll_42 : decode cX5_loadAll 42 = .ok (.getfield 11, 3) := by decide +kernel
theorem dX5_loadAll_45 : decode cX5_loadAll 45 = .ok (.iload 4, 2) := by decide +kernel
theorem dX5_loadAll_47 : decode cX5_loadAll 47 = .ok (.aaload, 1) := by decide +kernel
theorem dX5_loadAll_48 : decode cX5_loadAll 48 = .ok (.invokestatic 30, 3) := by decide +kernel
theorem dX5_loadAll_51 : decode cX5_loadAll 51 = .ok (.iinc 4 1, 3) := by decide +kernel
theorem dX5_loadAll_54 : decode cX5_loadAll 54 = .ok (.goto (-46), 3) := by decide +kernel
theorem dX5_loadAll_57 : decode cX5_loadAll 57 = .ok (.return_, 1) := by decide +kernel
theorem dX5_clearRow_0 : decode cX5_clearRow 0 = .ok (.iconst 0, 1) := by decide +kernel
theorem dX5_clearRow_1 : decode cX5_clearRow 1 = .ok (.istore_n 2, 1) := by decide +kernel
theorem dX5_clearRow_2 : decode cX5_clearRow 2 = .ok (.iload_n 2, 1) := by decide +kernel
theorem dX5_clearRow_3 : decode cX5_clearRow 3 = .ok (.bipush 9, 2) := by decide +kernel
theorem dX5_clearRow_5 : decode cX5_clearRow 5 = .ok (.if_icmp .ge 18, 3) := by decide +kernel
theorem dX5_clearRow_8 : decode cX5_clearRow 8 = .ok (.aload_n 0, 1) := by decide +kernel
theorem dX5_clearRow_9 : decode cX5_clearRow 9 = .ok (.getfield 11, 3) := by decide +kernel
theorem dX5_clearRow_12 : decode cX5_clearRow 12 = .ok (.iload_n 1, 1) := by decide +kernel
theorem dX5_clearRow_13 : decode cX5_clearRow 13 = .ok (.aaload, 1) := by decide +kernel
theorem dX5_clearRow_14 : decode cX5_clearRow 14 = .ok (.iload_n 2, 1) := by decide +kernel
theorem dX5_clearRow_15 : decode cX5_clearRow 15 = .ok (.iconst 0, 1) := by decide +kernel
theorem dX5_clearRow_16 : decode cX5_clearRow 16 = .ok (.iastore, 1) := by decide +kernel
theorem dX5_clearRow_17 : decode cX5_clearRow 17 = .ok (.iinc 2 1, 3) := by decide +kernel
theorem dX5_clearRow_20 : decode cX5_clearRow 20 = .ok (.goto (-18), 3) := by decide +kernel
theorem dX5_clearRow_23 : decode cX5_clearRow 23 = .ok (.return_, 1) := by decide +kernel
set_option maxRecDepth 20000 in
theorem ggX5_reduce_X5_pivotRow : GoodIn wsX5_reduce wsX5_pivotRow := goodIn_r _ [7, 2, 24, 25, 26] (by decide +kernel) (by decide +kernel)
set_option maxRecDepth 20000 in
theorem gX5_reduce_X5_pivotRow : GoodIn wsX5_reduce (wsV RX5 37 RX5 yX5_pivotRow wsX5_pivotRow) := goodIn_app (goodIn_of _ (by decide +kernel)) ggX5_reduce_X5_pivotRow
set_option maxRecDepth 20000 in
theorem ggX5_reduce_X5_exchange : GoodIn wsX5_reduce wsX5_exchange := goodIn_r _ [11, 2, 1, 24, 25, 26] (by decide +kernel) (by decide +kernel)
set_option maxRecDepth 20000 in
theorem gX5_reduce_X5_exchange : GoodIn wsX5_reduce (wsV RX5 41 RX5 yX5_exchange wsX5_exchange) := goodIn_app (goodIn_of _ (by decide +kernel)) ggX5_reduce_X5_exchange
set_option maxRecDepth 20000 in
theorem ggX5_reduce_X5_makePivotOne : GoodIn wsX5_reduce wsX5_makePivotOne := goodIn_r _ [15, 2, 1, 16, 17, 18, 19, 24, 25, 26] (by decide +kernel) (by decide +kernel)
set_option maxRecDepth 20000 in
theorem gX5_reduce_X5_makePivotOne : GoodIn wsX5_reduce (wsV RX5 45 RX5 yX5_makePivotOne wsX5_makePivotOne) := goodIn_app (goodIn_of _ (by decide +kernel)) ggX5_reduce_X5_makePivotOne
set_option maxRecDepth 20000 in
theorem ggX5_reduce_X5_clearColumn : GoodIn wsX5_reduce wsX5_clearColumn := goodIn_r _ [23, 2, 16, 17, 18, 19, 24, 25, 26] (by decide +kernel) (by decide +kernel)
set_option maxRecDepth 20000 in
theorem gX5_reduce_X5_clearColumn : GoodIn wsX5_reduce (wsV RX5 48 RX5 yX5_clearColumn wsX5_clearColumn) := goodIn_app (goodIn_of _ (by decide +kernel)) ggX5_reduce_X5_clearColumn
theorem dX5_reduce_0 : decode cX5_reduce 0 = .ok (.aload_n 0, 1) := by decide +kernel
theorem dX5_reduce_1 : decode cX5_reduce 1 = .ok (.iconst 1, 1) := by decide +kernel
theorem dX5_reduce_2 : decode cX5_reduce 2 = .ok (.putfield 34, 3) := by decide +kernel
theorem dX5_reduce_5 : decode cX5_reduce 5 = .ok (.iconst 0, 1) := by decide +kernel
theorem dX5_reduce_6 : decode cX5_reduce 6 = .ok (.istore_n 2, 1) := by decide +kernel
theorem dX5_reduce_7 : decode cX5_reduce 7 = .ok (.iconst 0, 1) := by decide +kernel
theorem dX5_reduce_8 : decode cX5_reduce 8 = .ok (.istore_n 3, 1) := by decide +kernel
theorem dX5_reduce_9 : decode cX5_reduce 9 = .ok (.iload_n 3, 1) := by decide +kernel
theorem dX5_reduce_10 : decode cX5_reduce 10 = .ok (.iload_n 1, 1) := by decide +kernel
theorem dX5_reduce_11 : decode cX5_reduce 11 = .ok (.if_icmp .ge 61, 3) := by decide +kernel
theorem dX5_reduce_14 : decode cX5_reduce 14 = .ok (.iload_n 3, 1) := by decide +kernel
theorem dX5_reduce_15 : decode cX5_reduce 15 = .ok (.bipush 9, 2) := by decide +kernel
theorem dX5_reduce_17 : decode cX5_reduce 17 = .ok (.if_icmp .ge 55, 3) := by decide +kernel
theorem dX5_reduce_20 : decode cX5_reduce 20 = .ok (.iload_n 2, 1) := by decide +kernel
theorem dX5_reduce_21 : decode cX5_reduce 21 = .ok (.aload_n 0, 1) := by decide +kernel
theorem dX5_reduce_22 : decode cX5_reduce 22 = .ok (.getfield 11, 3) := by decide +kernel
theorem dX5_reduce_25 : decode cX5_reduce 25 = .ok (.arraylength, 1) := by decide +kernel
theorem dX5_reduce_26 : decode cX5_reduce 26 = .ok (.if_icmp .ge 46, 3) := by decide +kernel
theorem dX5_reduce_29 : decode cX5_reduce 29 = .ok (.aload_n 0, 1) := by decide +kernel
theorem dX5_reduce_30 : decode cX5_reduce 30 = .ok (.iload_n 3, 1) := by decide +kernel
theorem dX5_reduce_31 : decode cX5_reduce 31 = .ok (.iload_n 2, 1) := by decide +kernel
theorem dX5_reduce_32 : decode cX5_reduce 32 = .ok (.invokevirtual 37, 3) := by decide +kernel
theorem dX5_reduce_35 : decode cX5_reduce 35 = .ok (.istore 4, 2) := by decide +kernel
theorem dX5_reduce_37 : decode cX5_reduce 37 = .ok (.iload 4, 2) := by decide +kernel
theorem dX5_reduce_39 : decode cX5_reduce 39 = .ok (.bipush (-6), 2) := by decide +kernel
theorem dX5_reduce_41 : decode cX5_reduce 41 = .ok (.if_icmp .eq 25, 3) := by decide +kernel
theorem dX5_reduce_44 : decode cX5_reduce 44 = .ok (.aload_n 0, 1) := by decide +kernel
theorem dX5_reduce_45 : decode cX5_reduce 45 = .ok (.iload 4, 2) := by decide +kernel
theorem dX5_reduce_47 : decode cX5_reduce 47 = .ok (.iload_n 2, 1) := by decide +kernel
theorem dX5_reduce_48 : decode cX5_reduce 48 = .ok (.invokevirtual 41, 3) := by decide +kernel
theorem dX5_reduce_51 : decode cX5_reduce 51 = .ok (.aload_n 0, 1) := by decide +kernel
theorem dX5_reduce_52 : decode cX5_reduce 52 = .ok (.iload_n 2, 1) := by decide +kernel
theorem dX5_reduce_53 : decode cX5_reduce 53 = .ok (.iload_n 3, 1) := by decide +kernel
theorem dX5_reduce_54 : decode cX5_reduce 54 = .ok (.invokevirtual 45, 3) := by decide +kernel
theorem dX5_reduce_57 : decode cX5_reduce 57 = .ok (.aload_n 0, 1) := by decide +kernel
theorem dX5_reduce_58 : decode cX5_reduce 58 = .ok (.iload_n 2, 1) := by decide +kernel
theorem dX5_reduce_59 : decode cX5_reduce 59 = .ok (.iload_n 3, 1) := by decide +kernel
theorem dX5_reduce_60 : decode cX5_reduce 60 = .ok (.invokevirtual 48, 3) := by decide +kernel
theorem dX5_reduce_63 : decode cX5_reduce 63 = .ok (.iinc 2 1, 3) := by decide +kernel
theorem dX5_reduce_66 : decode cX5_reduce 66 = .ok (.iinc 3 1, 3) := by decide +kernel
theorem dX5_reduce_69 : decode cX5_reduce 69 = .ok (.goto (-60), 3) := by decide +kernel
theorem dX5_reduce_72 : decode cX5_reduce 72 = .ok (.iload_n 2, 1) := by decide +kernel
theorem dX5_reduce_73 : decode cX5_reduce 73 = .ok (.ireturn, 1) := by decide +kernel
theorem dX5_pivotRow_0 : decode cX5_pivotRow 0 = .ok (.iload_n 2, 1) := by decide +kernel
theorem dX5_pivotRow_1 : decode cX5_pivotRow 1 = .ok (.istore_n 3, 1) := by decide +kernel
theorem dX5_pivotRow_2 : decode cX5_pivotRow 2 = .ok (.iload_n 3, 1) := by decide +kernel
theorem dX5_pivotRow_3 : decode cX5_pivotRow 3 = .ok (.aload_n 0, 1) := by decide +kernel
theorem dX5_pivotRow_4 : decode cX5_pivotRow 4 = .ok (.getfield 11, 3) := by decide +kernel
theorem dX5_pivotRow_7 : decode cX5_pivotRow 7 = .ok (.arraylength, 1) := by decide +kernel
theorem dX5_pivotRow_8 : decode cX5_pivotRow 8 = .ok (.if_icmp .ge 22, 3) := by decide +kernel
theorem dX5_pivotRow_11 : decode cX5_pivotRow 11 = .ok (.aload_n 0, 1) := by decide +kernel
theorem dX5_pivotRow_12 : decode cX5_pivotRow 12 = .ok (.getfield 11, 3) := by decide +kernel
theorem dX5_pivotRow_15 : decode cX5_pivotRow 15 = .ok (.iload_n 3, 1) := by decide +kernel
theorem dX5_pivotRow_16 : decode cX5_pivotRow 16 = .ok (.aaload, 1) := by decide +kernel
theorem dX5_pivotRow_17 : decode cX5_pivotRow 17 = .ok (.iload_n 1, 1) := by decide +kernel
theorem dX5_pivotRow_18 : decode cX5_pivotRow 18 = .ok (.iaload, 1) := by decide +kernel
theorem dX5_pivotRow_19 : decode cX5_pivotRow 19 = .ok (.ifCond .eq 5, 3) := by decide +kernel
theorem dX5_pivotRow_22 : decode cX5_pivotRow 22 = .ok (.iload_n 3, 1) := by decide +kernel
theorem dX5_pivotRow_23 : decode cX5_pivotRow 23 = .ok (.ireturn, 1) := by decide +kernel
theorem dX5_pivotRow_24 : decode cX5_pivotRow 24 = .ok (.iinc 3 1, 3) := by decide +kernel
theorem dX5_pivotRow_27 : decode cX5_pivotRow 27 = .ok (.goto (-25), 3) := by decide +kernel
theorem dX5_pivotRow_30 : decode cX5_pivotRow 30 = .ok (.bipush (-6), 2) := by decide +kernel
theorem dX5_pivotRow_32 : decode cX5_pivotRow 32 = .ok (.ireturn, 1) := by decide +kernel
theorem dX5_exchange_0 : decode cX5_exchange 0 = .ok (.iload_n 1, 1) := by decide +kernel
theorem dX5_exchange_1 : decode cX5_exchange 1 = .ok (.iload_n 2, 1) := by decide +kernel
theorem dX5_exchange_2 : decode cX5_exchange 2 = .ok (.if_icmp .eq 62, 3) := by decide +kernel
theorem dX5_exchange_5 : decode cX5_exchange 5 = .ok (.iconst 0, 1) := by decide +kernel
theorem dX5_exchange_6 : decode cX5_exchange 6 = .ok (.istore_n 3, 1) := by decide +kernel
theorem dX5_exchange_7 : decode cX5_exchange 7 = .ok (.iload_n 3, 1) := by decide +kernel
theorem dX5_exchange_8 : decode cX5_exchange 8 = .ok (.bipush 9, 2) := by decide +kernel
theorem dX5_exchange_10 : decode cX5_exchange 10 = .ok (.if_icmp .ge 45, 3) := by decide +kernel
theorem dX5_exchange_13 : decode cX5_exchange 13 = .ok (.aload_n 0, 1) := by decide +kernel
theorem dX5_exchange_14 : decode cX5_exchange 14 = .ok (.getfield 11, 3) := by decide +kernel
theorem dX5_exchange_17 : decode cX5_exchange 17 = .ok (.iload_n 1, 1) := by decide +kernel
theorem dX5_exchange_18 : decode cX5_exchange 18 = .ok (.aaload, 1) := by decide +kernel
theorem dX5_exchange_19 : decode cX5_exchange 19 = .ok (.iload_n 3, 1) := by decide +kernel
theorem dX5_exchange_20 : decode cX5_exchange 20 = .ok (.iaload, 1) := by decide +kernel
theorem dX5_exchange_21 : decode cX5_exchange 21 = .ok (.istore 4, 2) := by decide +kernel
theorem dX5_exchange_23 : decode cX5_exchange 23 = .ok (.aload_n 0, 1) := by decide +kernel
theorem dX5_exchange_24 : decode cX5_exchange 24 = .ok (.getfield 11, 3) := by decide +kernel
theorem dX5_exchange_27 : decode cX5_exchange 27 = .ok (.iload_n 1, 1) := by decide +kernel
theorem dX5_exchange_28 : decode cX5_exchange 28 = .ok (.aaload, 1) := by decide +kernel
theorem dX5_exchange_29 : decode cX5_exchange 29 = .ok (.iload_n 3, 1) := by decide +kernel
theorem dX5_exchange_30 : decode cX5_exchange 30 = .ok (.aload_n 0, 1) := by decide +kernel
theorem dX5_exchange_31 : decode cX5_exchange 31 = .ok (.getfield 11, 3) := by decide +kernel
theorem dX5_exchange_34 : decode cX5_exchange 34 = .ok (.iload_n 2, 1) := by decide +kernel
theorem dX5_exchange_35 : decode cX5_exchange 35 = .ok (.aaload, 1) := by decide +kernel
theorem dX5_exchange_36 : decode cX5_exchange 36 = .ok (.iload_n 3, 1) := by decide +kernel
theorem dX5_exchange_37 : decode cX5_exchange 37 = .ok (.iaload, 1) := by decide +kernel
theorem dX5_exchange_38 : decode cX5_exchange 38 = .ok (.iastore, 1) := by decide +kernel
theorem dX5_exchange_39 : decode cX5_exchange 39 = .ok (.aload_n 0, 1) := by decide +kernel
theorem dX5_exchange_40 : decode cX5_exchange 40 = .ok (.getfield 11, 3) := by decide +kernel
theorem dX5_exchange_43 : decode cX5_exchange 43 = .ok (.iload_n 2, 1) := by decide +kernel
theorem dX5_exchange_44 : decode cX5_exchange 44 = .ok (.aaload, 1) := by decide +kernel
theorem dX5_exchange_45 : decode cX5_exchange 45 = .ok (.iload_n 3, 1) := by decide +kernel
theorem dX5_exchange_46 : decode cX5_exchange 46 = .ok (.iload 4, 2) := by decide +kernel
theorem dX5_exchange_48 : decode cX5_exchange 48 = .ok (.iastore, 1) := by decide +kernel
theorem dX5_exchange_49 : decode cX5_exchange 49 = .ok (.iinc 3 1, 3) := by decide +kernel
theorem dX5_exchange_52 : decode cX5_exchange 52 = .ok (.goto (-45), 3) := by decide +kernel
theorem dX5_exchange_55 : decode cX5_exchange 55 = .ok (.aload_n 0, 1) := by decide +kernel
theorem dX5_exchange_56 : decode cX5_exchange 56 = .ok (.aload_n 0, 1) := by decide +kernel
theorem dX5_exchange_57 : decode cX5_exchange 57 = .ok (.getfield 34, 3) := by decide +kernel
theorem dX5_exchange_60 : decode cX5_exchange 60 = .ok (.ineg, 1) := by decide +kernel
theorem dX5_exchange_61 : decode cX5_exchange 61 = .ok (.putfield 34, 3) := by decide +kernel
theorem dX5_exchange_64 : decode cX5_exchange 64 = .ok (.return_, 1) := by decide +kernel
set_option maxRecDepth 20000 in
theorem ggX5_makePivotOne_X7_reduced : GoodIn wsX5_makePivotOne wsX7_reduced := goodIn_r _ [6] (by decide +kernel) (by decide +kernel)
set_option maxRecDepth 20000 in
theorem gX5_makePivotOne_X7_reduced_n51 : GoodIn wsX5_makePivotOne (wsX7_reduced) := ggX5_makePivotOne_X7_reduced
theorem dX5_makePivotOne_0 : decode cX5_makePivotOne 0 = .ok (.aload_n 0, 1) := by decide +kernel
theorem dX5_makePivotOne_1 : decode cX5_makePivotOne 1 = .ok (.getfield 11, 3) := by decide +kernel
theorem dX5_makePivotOne_4 : decode cX5_makePivotOne 4 = .ok (.iload_n 1, 1) := by decide +kernel
theorem dX5_makePivotOne_5 : decode cX5_makePivotOne 5 = .ok (.aaload, 1) := by decide +kernel
theorem dX5_makePivotOne_6 : decode cX5_makePivotOne 6 = .ok (.iload_n 2, 1) := by decide +kernel
theorem dX5_makePivotOne_7 : decode cX5_makePivotOne 7 = .ok (.iaload, 1) := by decide +kernel
theorem dX5_makePivotOne_8 : decode cX5_makePivotOne 8 = .ok (.istore_n 3, 1) := by decide +kernel
theorem dX5_makePivotOne_9 : decode cX5_makePivotOne 9 = .ok (.aload_n 0, 1) := by decide +kernel
theorem dX5_makePivotOne_10 : decode cX5_makePivotOne 10 = .ok (.aload_n 0, 1) := by decide +kernel
theorem dX5_makePivotOne_11 : decode cX5_makePivotOne 11 = .ok (.getfield 34, 3) := by decide +kernel
theorem dX5_makePivotOne_14 : decode cX5_makePivotOne 14 = .ok (.iload_n 3, 1) := by decide +kernel
theorem dX5_makePivotOne_15 : decode cX5_makePivotOne 15 = .ok (.imul, 1) := by decide +kernel
theorem dX5_makePivotOne_16 : decode cX5_makePivotOne 16 = .ok (.aload_n 0, 1) := by decide +kernel
theorem dX5_makePivotOne_17 : decode cX5_makePivotOne 17 = .ok (.getfield 22, 3) := by decide +kernel
theorem dX5_makePivotOne_20 : decode cX5_makePivotOne 20 = .ok (.invokestatic 51, 3) := by decide +kernel
theorem dX5_makePivotOne_23 : decode cX5_makePivotOne 23 = .ok (.putfield 34, 3) := by decide +kernel
theorem dX5_makePivotOne_26 : decode cX5_makePivotOne 26 = .ok (.iconst 0, 1) := by decide +kernel
theorem dX5_makePivotOne_27 : decode cX5_makePivotOne 27 = .ok (.istore 4, 2) := by decide +kernel
theorem dX5_makePivotOne_29 : decode cX5_makePivotOne 29 = .ok (.iconst 1, 1) := by decide +kernel
theorem dX5_makePivotOne_30 : decode cX5_makePivotOne 30 = .ok (.istore 5, 2) := by decide +kernel
theorem dX5_makePivotOne_32 : decode cX5_makePivotOne 32 = .ok (.iload 5, 2) := by decide +kernel
theorem dX5_makePivotOne_34 : decode cX5_makePivotOne 34 = .ok (.aload_n 0, 1) := by decide +kernel
theorem dX5_makePivotOne_35 : decode cX5_makePivotOne 35 = .ok (.getfield 22, 3) := by decide +kernel
theorem dX5_makePivotOne_38 : decode cX5_makePivotOne 38 = .ok (.if_icmp .ge 28, 3) := by decide +kernel
theorem dX5_makePivotOne_41 : decode cX5_makePivotOne 41 = .ok (.iload_n 3, 1) := by decide +kernel
theorem dX5_makePivotOne_42 : decode cX5_makePivotOne 42 = .ok (.iload 5, 2) := by decide +kernel
theorem dX5_makePivotOne_44 : decode cX5_makePivotOne 44 = .ok (.imul, 1) := by decide +kernel
theorem dX5_makePivotOne_45 : decode cX5_makePivotOne 45 = .ok (.aload_n 0, 1) := by decide +kernel
theorem dX5_makePivotOne_46 : decode cX5_makePivotOne 46 = .ok (.getfield 22, 3) := by decide +kernel
theorem dX5_makePivotOne_49 : decode cX5_makePivotOne 49 = .ok (.invokestatic 51, 3) := by decide +kernel
theorem dX5_makePivotOne_52 : decode cX5_makePivotOne 52 = .ok (.iconst 1, 1) := by decide +kernel
theorem dX5_makePivotOne_53 : decode cX5_makePivotOne 53 = .ok (.if_icmp .ne 7, 3) := by decide +kernel
theorem dX5_makePivotOne_56 : decode cX5_makePivotOne 56 = .ok (.iload 5, 2) := by decide +kernel
theorem dX5_makePivotOne_58 : decode cX5_makePivotOne 58 = .ok (.istore 4, 2) := by decide +kernel
theorem dX5_makePivotOne_60 : decode cX5_makePivotOne 60 = .ok (.iinc 5 1, 3) := by decide +kernel
theorem dX5_makePivotOne_63 : decode cX5_makePivotOne 63 = .ok (.goto (-31), 3) := by decide +kernel
theorem dX5_makePivotOne_66 : decode cX5_makePivotOne 66 = .ok (.iconst 0, 1) := by decide +kernel
theorem dX5_makePivotOne_67 : decode cX5_makePivotOne 67 = .ok (.istore 5, 2) := by decide +kernel
theorem dX5_makePivotOne_69 : decode cX5_makePivotOne 69 = .ok (.iload 5, 2) := by decide +kernel
theorem dX5_makePivotOne_71 : decode cX5_makePivotOne 71 = .ok (.bipush 9, 2) := by decide +kernel
theorem dX5_makePivotOne_73 : decode cX5_makePivotOne 73 = .ok (.if_icmp .ge 37, 3) := by decide +kernel
theorem dX5_makePivotOne_76 : decode cX5_makePivotOne 76 = .ok (.aload_n 0, 1) := by decide +kernel
theorem dX5_makePivotOne_77 : decode cX5_makePivotOne 77 = .ok (.getfield 11, 3) := by decide +kernel
theorem dX5_makePivotOne_80 : decode cX5_makePivotOne 80 = .ok (.iload_n 1, 1) := by decide +kernel
theorem dX5_makePivotOne_81 : decode cX5_makePivotOne 81 = .ok (.aaload, 1) := by decide +kernel
theorem dX5_makePivotOne_82 : decode cX5_makePivotOne 82 = .ok (.iload 5, 2) := by decide +kernel
theorem dX5_makePivotOne_84 : decode cX5_makePivotOne 84 = .ok (.aload_n 0, 1) := by decide +kernel
theorem dX5_makePivotOne_85 : decode cX5_makePivotOne 85 = .ok (.getfield 11, 3) := by decide +kernel
theorem dX5_makePivotOne_88 : decode cX5_makePivotOne 88 = .ok (.iload_n 1, 1) := by decide +kernel
theorem dX5_makePivotOne_89 : decode cX5_makePivotOne 89 = .ok (.aaload, 1) := by decide +kernel
theorem dX5_makePivotOne_90 : decode cX5_makePivotOne 90 = .ok (.iload 5, 2) := by decide +kernel
theorem dX5_makePivotOne_92 : decode cX5_makePivotOne 92 = .ok (.iaload, 1) := by decide +kernel
theorem dX5_makePivotOne_93 : decode cX5_makePivotOne 93 = .ok (.iload 4, 2) := by decide +kernel
theorem dX5_makePivotOne_95 : decode cX5_makePivotOne 95 = .ok (.imul, 1) := by decide +kernel
theorem dX5_makePivotOne_96 : decode cX5_makePivotOne 96 = .ok (.aload_n 0, 1) := by decide +kernel
theorem dX5_makePivotOne_97 : decode cX5_makePivotOne 97 = .ok (.getfield 22, 3) := by decide +kernel
theorem dX5_makePivotOne_100 : decode cX5_makePivotOne 100 = .ok (.invokestatic 51, 3) := by decide +kernel
theorem dX5_makePivotOne_103 : decode cX5_makePivotOne 103 = .ok (.iastore, 1) := by decide +kernel
theorem dX5_makePivotOne_104 : decode cX5_makePivotOne 104 = .ok (.iinc 5 1, 3) := by decide +kernel
theorem dX5_makePivotOne_107 : decode cX5_makePivotOne 107 = .ok (.goto (-38), 3) := by decide +kernel
theorem dX5_makePivotOne_110 : decode cX5_makePivotOne 110 = .ok (.return_, 1) := by decide +kernel
set_option maxRecDepth 20000 in
theorem ggX5_clearColumn_X7_reduced : GoodIn wsX5_clearColumn wsX7_reduced := goodIn_r _ [5] (by decide +kernel) (by decide +kernel)
set_option maxRecDepth 20000 in
theorem gX5_clearColumn_X7_reduced_n51 : GoodIn wsX5_clearColumn (wsX7_reduced) := ggX5_clearColumn_X7_reduced
theorem dX5_clearColumn_0 : decode cX5_clearColumn 0 = .ok (.iconst 0, 1) := by decide +kernel
theorem dX5_clearColumn_1 : decode cX5_clearColumn 1 = .ok (.istore_n 3, 1) := by decide +kernel
theorem dX5_clearColumn_2 : decode cX5_clearColumn 2 = .ok (.iload_n 3, 1) := by decide +kernel
theorem dX5_clearColumn_3 : decode cX5_clearColumn 3 = .ok (.aload_n 0, 1) := by decide +kernel
theorem dX5_clearColumn_4 : decode cX5_clearColumn 4 = .ok (.getfield 11, 3) := by decide +kernel
theorem dX5_clearColumn_7 : decode cX5_clearColumn 7 = .ok (.arraylength, 1) := by decide +kernel
theorem dX5_clearColumn_8 : decode cX5_clearColumn 8 = .ok (.if_icmp .ge 87, 3) := by decide +kernel
theorem dX5_clearColumn_11 : decode cX5_clearColumn 11 = .ok (.iload_n 3, 1) := by decide +kernel
theorem dX5_clearColumn_12 : decode cX5_clearColumn 12 = .ok (.iload_n 1, 1) := by decide +kernel
theorem dX5_clearColumn_13 : decode cX5_clearColumn 13 = .ok (.if_icmp .ne 7, 3) := by decide +kernel
theorem dX5_clearColumn_16 : decode cX5_clearColumn 16 = .ok (.iconst 0, 1) := by decide +kernel
theorem dX5_clearColumn_17 : decode cX5_clearColumn 17 = .ok (.goto 11, 3) := by decide +kernel
theorem dX5_clearColumn_20 : decode cX5_clearColumn 20 = .ok (.aload_n 0, 1) := by decide +kernel
theorem dX5_clearColumn_21 : decode cX5_clearColumn 21 = .ok (.getfield 11, 3) := by decide +kernel
theorem dX5_clearColumn_24 : decode cX5_clearColumn 24 = .ok (.iload_n 3, 1) := by decide +kernel
theorem dX5_clearColumn_25 : decode cX5_clearColumn 25 = .ok (.aaload, 1) := by decide +kernel
theorem dX5_clearColumn_26 : decode cX5_clearColumn 26 = .ok (.iload_n 2, 1) := by decide +kernel
theorem dX5_clearColumn_27 : decode cX5_clearColumn 27 = .ok (.iaload, 1) := by decide +kernel
theorem dX5_clearColumn_28 : decode cX5_clearColumn 28 = .ok (.istore 4, 2) := by decide +kernel
theorem dX5_clearColumn_30 : decode cX5_clearColumn 30 = .ok (.iconst 0, 1) := by decide +kernel
theorem dX5_clearColumn_31 : decode cX5_clearColumn 31 = .ok (.istore 5, 2) := by decide +kernel
theorem dX5_clearColumn_33 : decode cX5_clearColumn 33 = .ok (.iload 5, 2) := by decide +kernel
theorem dX5_clearColumn_35 : decode cX5_clearColumn 35 = .ok (.bipush 9, 2) := by decide +kernel
theorem dX5_clearColumn_37 : decode cX5_clearColumn 37 = .ok (.if_icmp .ge 52, 3) := by decide +kernel
theorem dX5_clearColumn_40 : decode cX5_clearColumn 40 = .ok (.iload 4, 2) := by decide +kernel
theorem dX5_clearColumn_42 : decode cX5_clearColumn 42 = .ok (.ifCond .eq 47, 3) := by decide +kernel
theorem dX5_clearColumn_45 : decode cX5_clearColumn 45 = .ok (.aload_n 0, 1) := by decide +kernel
theorem dX5_clearColumn_46 : decode cX5_clearColumn 46 = .ok (.getfield 11, 3) := by decide +kernel
theorem dX5_clearColumn_49 : decode cX5_clearColumn 49 = .ok (.iload_n 3, 1) := by decide +kernel
theorem dX5_clearColumn_50 : decode cX5_clearColumn 50 = .ok (.aaload, 1) := by decide +kernel
theorem dX5_clearColumn_51 : decode cX5_clearColumn 51 = .ok (.iload 5, 2) := by decide +kernel
theorem dX5_clearColumn_53 : decode cX5_clearColumn 53 = .ok (.aload_n 0, 1) := by decide +kernel
theorem dX5_clearColumn_54 : decode cX5_clearColumn 54 = .ok (.getfield 11, 3) := by decide +kernel
theorem dX5_clearColumn_57 : decode cX5_clearColumn 57 = .ok (.iload_n 3, 1) := by decide +kernel
theorem dX5_clearColumn_58 : decode cX5_clearColumn 58 = .ok (.aaload, 1) := by decide +kernel
theorem dX5_clearColumn_59 : decode cX5_clearColumn 59 = .ok (.iload 5, 2) := by decide +kernel
theorem dX5_clearColumn_61 : decode cX5_clearColumn 61 = .ok (.iaload, 1) := by decide +kernel
theorem dX5_clearColumn_62 : decode cX5_clearColumn 62 = .ok (.iload 4, 2) := by decide +kernel
theorem dX5_clearColumn_64 : decode cX5_clearColumn 64 = .ok (.aload_n 0, 1) := by decide +kernel
theorem dX5_clearColumn_65 : decode cX5_clearColumn 65 = .ok (.getfield 11, 3) := by decide +kernel
theorem dX5_clearColumn_68 : decode cX5_clearColumn 68 = .ok (.iload_n 1, 1) := by decide +kernel
theorem dX5_clearColumn_69 : decode cX5_clearColumn 69 = .ok (.aaload, 1) := by decide +kernel
theorem dX5_clearColumn_70 : decode cX5_clearColumn 70 = .ok (.iload 5, 2) := by decide +kernel
theorem dX5_clearColumn_72 : decode cX5_clearColumn 72 = .ok (.iaload, 1) := by decide +kernel
theorem dX5_clearColumn_73 : decode cX5_clearColumn 73 = .ok (.imul, 1) := by decide +kernel
theorem dX5_clearColumn_74 : decode cX5_clearColumn 74 = .ok (.isub, 1) := by decide +kernel
theorem dX5_clearColumn_75 : decode cX5_clearColumn 75 = .ok (.aload_n 0, 1) := by decide +kernel
theorem dX5_clearColumn_76 : decode cX5_clearColumn 76 = .ok (.getfield 22, 3) := by decide +kernel
theorem dX5_clearColumn_79 : decode cX5_clearColumn 79 = .ok (.invokestatic 51, 3) := by decide +kernel
theorem dX5_clearColumn_82 : decode cX5_clearColumn 82 = .ok (.iastore, 1) := by decide +kernel
theorem dX5_clearColumn_83 : decode cX5_clearColumn 83 = .ok (.iinc 5 1, 3) := by decide +kernel
theorem dX5_clearColumn_86 : decode cX5_clearColumn 86 = .ok (.goto (-53), 3) := by decide +kernel
theorem dX5_clearColumn_89 : decode cX5_clearColumn 89 = .ok (.iinc 3 1, 3) := by decide +kernel
theorem dX5_clearColumn_92 : decode cX5_clearColumn 92 = .ok (.goto (-90), 3) := by decide +kernel
theorem dX5_clearColumn_95 : decode cX5_clearColumn 95 = .ok (.return_, 1) := by decide +kernel
