set_option maxRecDepth 20000 in
theorem ggX6_init_X6_clear : GoodIn wsX6_init wsX6_clear := goodIn_r _ [11, 12, 13, 6, 14, 15, 16, 10, 17, 18, 19, 20] (by decide +kernel) (by decide +kernel)
set_option maxRecDepth 20000 in
theorem gX6_init_X6_clear : GoodIn wsX6_init (wsV RX6 16 RX6 yX6_clear wsX6_clear) := goodIn_app (goodIn_of _ (by decide +kernel)) ggX6_init_X6_clear
theorem dX6_init_0 : decode cX6_init 0 = .ok (.aload_n 0, 1) := by decide +kernel
theorem dX6_init_1 : decode cX6_init 1 = .ok (.invokespecial 3, 3) := by decide +kernel
theorem dX6_init_4 : decode cX6_init 4 = .ok (.aload_n 0, 1) := by decide +kernel
theorem dX6_init_5 : decode cX6_init 5 = .ok (.bipush 10, 2) := by decide +kernel
theorem dX6_init_7 : decode cX6_init 7 = .ok (.bipush 9, 2) := by decide +kernel
theorem dX6_init_9 : decode cX6_init 9 = .ok (.multianewarray 9 2, 4) := by decide +kernel
theorem dX6_init_13 : decode cX6_init 13 = .ok (.putfield 11, 3) := by decide +kernel
theorem dX6_init_16 : decode cX6_init 16 = .ok (.aload_n 0, 1) := by decide +kernel
theorem dX6_init_17 : decode cX6_init 17 = .ok (.iconst 2, 1) := by decide +kernel
theorem dX6_init_18 : decode cX6_init 18 = .ok (.iconst 5, 1) := by decide +kernel
theorem dX6_init_19 : decode cX6_init 19 = .ok (.invokevirtual 16, 3) := by decide +kernel
theorem dX6_init_22 : decode cX6_init 22 = .ok (.return_, 1) := by decide +kernel
set_option maxRecDepth 20000 in
theorem ggX6_clear_X6_writeIdentity : GoodIn wsX6_clear wsX6_writeIdentity := goodIn_r _ [8, 1, 9, 10, 11] (by decide +kernel) (by decide +kernel)
set_option maxRecDepth 20000 in
theorem gX6_clear_X6_writeIdentity : GoodIn wsX6_clear (wsV RX6 27 RX6 yX6_writeIdentity wsX6_writeIdentity) := goodIn_app (goodIn_of _ (by decide +kernel)) ggX6_clear_X6_writeIdentity
theorem dX6_clear_0 : decode cX6_clear 0 = .ok (.aload_n 0, 1) := by decide +kernel
theorem dX6_clear_1 : decode cX6_clear 1 = .ok (.iload_n 1, 1) := by decide +kernel
theorem dX6_clear_2 : decode cX6_clear 2 = .ok (.putfield 20, 3) := by decide +kernel
theorem dX6_clear_5 : decode cX6_clear 5 = .ok (.aload_n 0, 1) := by decide +kernel
theorem dX6_clear_6 : decode cX6_clear 6 = .ok (.iload_n 2, 1) := by decide +kernel
theorem dX6_clear_7 : decode cX6_clear 7 = .ok (.putfield 24, 3) := by decide +kernel
theorem dX6_clear_10 : decode cX6_clear 10 = .ok (.iconst 0, 1) := by decide +kernel
theorem dX6_clear_11 : decode cX6_clear 11 = .ok (.istore_n 3, 1) := by decide +kernel
theorem dX6_clear_12 : decode cX6_clear 12 = .ok (.iload_n 3, 1) := by decide +kernel
theorem dX6_clear_13 : decode cX6_clear 13 = .ok (.bipush 8, 2) := by decide +kernel
theorem dX6_clear_15 : decode cX6_clear 15 = .ok (.if_icmp .ge 35, 3) := by decide +kernel
theorem dX6_clear_18 : decode cX6_clear 18 = .ok (.iconst 0, 1) := by decide +kernel
theorem dX6_clear_19 : decode cX6_clear 19 = .ok (.istore 4, 2) := by decide +kernel
theorem dX6_clear_21 : decode cX6_clear 21 = .ok (.iload 4, 2) := by decide +kernel
theorem dX6_clear_23 : decode cX6_clear 23 = .ok (.bipush 9, 2) := by decide +kernel
theorem dX6_clear_25 : decode cX6_clear 25 = .ok (.if_icmp .ge 19, 3) := by decide +kernel
theorem dX6_clear_28 : decode cX6_clear 28 = .ok (.aload_n 0, 1) := by decide +kernel
theorem dX6_clear_29 : decode cX6_clear 29 = .ok (.getfield 11, 3) := by decide +kernel
theorem dX6_clear_32 : decode cX6_clear 32 = .ok (.iload_n 3, 1) := by decide +kernel
theorem dX6_clear_33 : decode cX6_clear 33 = .ok (.aaload, 1) := by decide +kernel
theorem dX6_clear_34 : decode cX6_clear 34 = .ok (.iload 4, 2) := by decide +kernel
theorem dX6_clear_36 : decode cX6_clear 36 = .ok (.iconst 0, 1) := by decide +kernel
theorem dX6_clear_37 : decode cX6_clear 37 = .ok (.iastore, 1) := by decide +kernel
theorem dX6_clear_38 : decode cX6_clear 38 = .ok (.iinc 4 1, 3) := by decide +kernel
theorem dX6_clear_41 : decode cX6_clear 41 = .ok (.goto (-20), 3) := by decide +kernel
theorem dX6_clear_44 : decode cX6_clear 44 = .ok (.iinc 3 1, 3) := by decide +kernel
theorem dX6_clear_47 : decode cX6_clear 47 = .ok (.goto (-35), 3) := by decide +kernel
theorem dX6_clear_50 : decode cX6_clear 50 = .ok (.aload_n 0, 1) := by decide +kernel
theorem dX6_clear_51 : decode cX6_clear 51 = .ok (.aload_n 0, 1) := by decide +kernel
theorem dX6_clear_52 : decode cX6_clear 52 = .ok (.getfield 11, 3) := by decide +kernel
theorem dX6_clear_55 : decode cX6_clear 55 = .ok (.bipush 8, 2) := by decide +kernel
theorem dX6_clear_57 : decode cX6_clear 57 = .ok (.aaload, 1) := by decide +kernel
theorem dX6_clear_58 : decode cX6_clear 58 = .ok (.invokevirtual 27, 3) := by decide +kernel
theorem dX6_clear_61 : decode cX6_clear 61 = .ok (.aload_n 0, 1) := by decide +kernel
theorem dX6_clear_62 : decode cX6_clear 62 = .ok (.aload_n 0, 1) := by decide +kernel
theorem dX6_clear_63 : decode cX6_clear 63 = .ok (.getfield 11, 3) := by decide +kernel
theorem dX6_clear_66 : decode cX6_clear 66 = .ok (.bipush 9, 2) := by decide +kernel
theorem dX6_clear_68 : decode cX6_clear 68 = .ok (.aaload, 1) := by decide +kernel
theorem dX6_clear_69 : decode cX6_clear 69 = .ok (.invokevirtual 27, 3) := by decide +kernel
theorem dX6_clear_72 : decode cX6_clear 72 = .ok (.return_, 1) := by decide +kernel
theorem dX6_writeIdentity_0 : decode cX6_writeIdentity 0 = .ok (.iconst 0, 1) := by decide +kernel
theorem dX6_writeIdentity_1 : decode cX6_writeIdentity 1 = .ok (.istore_n 2, 1) := by decide +kernel
theorem dX6_writeIdentity_2 : decode cX6_writeIdentity 2 = .ok (.iload_n 2, 1) := by decide +kernel
theorem dX6_writeIdentity_3 : decode cX6_writeIdentity 3 = .ok (.iconst 3, 1) := by decide +kernel
theorem dX6_writeIdentity_4 : decode cX6_writeIdentity 4 = .ok (.if_icmp .ge 47, 3) := by decide +kernel
theorem dX6_writeIdentity_7 : decode cX6_writeIdentity 7 = .ok (.iconst 0, 1) := by decide +kernel
theorem dX6_writeIdentity_8 : decode cX6_writeIdentity 8 = .ok (.istore_n 3, 1) := by decide +kernel
theorem dX6_writeIdentity_9 : decode cX6_writeIdentity 9 = .ok (.iload_n 3, 1) := by decide +kernel
theorem dX6_writeIdentity_10 : decode cX6_writeIdentity 10 = .ok (.iconst 3, 1) := by decide +kernel
theorem dX6_writeIdentity_11 : decode cX6_writeIdentity 11 = .ok (.if_icmp .ge 34, 3) := by decide +kernel
theorem dX6_writeIdentity_14 : decode cX6_writeIdentity 14 = .ok (.aload_n 1, 1) := by decide +kernel
theorem dX6_writeIdentity_15 : decode cX6_writeIdentity 15 = .ok (.iconst 3, 1) := by decide +kernel
theorem dX6_writeIdentity_16 : decode cX6_writeIdentity 16 = .ok (.iload_n 2, 1) := by decide +kernel
theorem dX6_writeIdentity_17 : decode cX6_writeIdentity 17 = .ok (.imul, 1) := by decide +kernel
theorem dX6_writeIdentity_18 : decode cX6_writeIdentity 18 = .ok (.iload_n 3, 1) := by decide +kernel
theorem dX6_writeIdentity_19 : decode cX6_writeIdentity 19 = .ok (.iadd, 1) := by decide +kernel
theorem dX6_writeIdentity_20 : decode cX6_writeIdentity 20 = .ok (.iload_n 2, 1) := by decide +kernel
theorem dX6_writeIdentity_21 : decode cX6_writeIdentity 21 = .ok (.iload_n 3, 1) := by decide +kernel
theorem dX6_writeIdentity_22 : decode cX6_writeIdentity 22 = .ok (.if_icmp .ne 15, 3) := by decide +kernel
theorem dX6_writeIdentity_25 : decode cX6_writeIdentity 25 = .ok (.iload_n 2, 1) := by decide +kernel
theorem dX6_writeIdentity_26 : decode cX6_writeIdentity 26 = .ok (.aload_n 0, 1) := by decide +kernel
theorem dX6_writeIdentity_27 : decode cX6_writeIdentity 27 = .ok (.getfield 20, 3) := by decide +kernel
theorem dX6_writeIdentity_30 : decode cX6_writeIdentity 30 = .ok (.if_icmp .ge 7, 3) := by decide +kernel
theorem dX6_writeIdentity_33 : decode cX6_writeIdentity 33 = .ok (.iconst 1, 1) := by decide +kernel
theorem dX6_writeIdentity_34 : decode cX6_writeIdentity 34 = .ok (.goto 4, 3) := by decide +kernel
theorem dX6_writeIdentity_37 : decode cX6_writeIdentity 37 = .ok (.iconst 0, 1) := by decide +kernel
theorem dX6_writeIdentity_38 : decode cX6_writeIdentity 38 = .ok (.iastore, 1) := by decide +kernel
theorem dX6_writeIdentity_39 : decode cX6_writeIdentity 39 = .ok (.iinc 3 1, 3) := by decide +kernel
theorem dX6_writeIdentity_42 : decode cX6_writeIdentity 42 = .ok (.goto (-33), 3) := by decide +kernel
theorem dX6_writeIdentity_45 : decode cX6_writeIdentity 45 = .ok (.iinc 2 1, 3) := by decide +kernel
theorem dX6_writeIdentity_48 : decode cX6_writeIdentity 48 = .ok (.goto (-46), 3) := by decide +kernel
theorem dX6_writeIdentity_51 : decode cX6_writeIdentity 51 = .ok (.return_, 1) := by decide +kernel
set_option maxRecDepth 20000 in
theorem ggX6_copyFrom_X7_copy : GoodIn wsX6_copyFrom wsX7_copy := goodIn_r _ [6, 7, 8, 9, 10] (by decide +kernel) (by decide +kernel)
set_option maxRecDepth 20000 in
theorem gX6_copyFrom_X7_copy_n31 : GoodIn wsX6_copyFrom (wsX7_copy) := ggX6_copyFrom_X7_copy
theorem dX6_copyFrom_0 : decode cX6_copyFrom 0 = .ok (.aload_n 0, 1) := by decide +kernel
theorem dX6_copyFrom_1 : decode cX6_copyFrom 1 = .ok (.aload_n 1, 1) := by decide +kernel
theorem dX6_copyFrom_2 : decode cX6_copyFrom 2 = .ok (.getfield 20, 3) := by decide +kernel
theorem dX6_copyFrom_5 : decode cX6_copyFrom 5 = .ok (.putfield 20, 3) := by decide +kernel
theorem dX6_copyFrom_8 : decode cX6_copyFrom 8 = .ok (.aload_n 0, 1) := by decide +kernel
theorem dX6_copyFrom_9 : decode cX6_copyFrom 9 = .ok (.aload_n 1, 1) := by decide +kernel
theorem dX6_copyFrom_10 : decode cX6_copyFrom 10 = .ok (.getfield 24, 3) := by decide +kernel
theorem dX6_copyFrom_13 : decode cX6_copyFrom 13 = .ok (.putfield 24, 3) := by decide +kernel
theorem dX6_copyFrom_16 : decode cX6_copyFrom 16 = .ok (.iconst 0, 1) := by decide +kernel
theorem dX6_copyFrom_17 : decode cX6_copyFrom 17 = .ok (.istore_n 2, 1) := by decide +kernel
theorem dX6_copyFrom_18 : decode cX6_copyFrom 18 = .ok (.iload_n 2, 1) := by decide +kernel
theorem dX6_copyFrom_19 : decode cX6_copyFrom 19 = .ok (.bipush 10, 2) := by decide +kernel
theorem dX6_copyFrom_21 : decode cX6_copyFrom 21 = .ok (.if_icmp .ge 24, 3) := by decide +kernel
theorem dX6_copyFrom_24 : decode cX6_copyFrom 24 = .ok (.aload_n 1, 1) := by decide +kernel
theorem dX6_copyFrom_25 : decode cX6_copyFrom 25 = .ok (.getfield 11, 3) := by decide +kernel
theorem dX6_copyFrom_28 : decode cX6_copyFrom 28 = .ok (.iload_n 2, 1) := by decide +kernel
theorem dX6_copyFrom_29 : decode cX6_copyFrom 29 = .ok (.aaload, 1) := by decide +kernel
theorem dX6_copyFrom_30 : decode cX6_copyFrom 30 = .ok (.aload_n 0, 1) := by decide +kernel
theorem dX6_copyFrom_31 : decode cX6_copyFrom 31 = .ok (.getfield 11, 3) := by decide +kernel
theorem dX6_copyFrom_34 : decode cX6_copyFrom 34 = .ok (.iload_n 2, 1) := by decide +kernel
theorem dX6_copyFrom_35 : decode cX6_copyFrom 35 = .ok (.aaload, 1) := by decide +kernel
theorem dX6_copyFrom_36 : decode cX6_copyFrom 36 = .ok (.invokestatic 31, 3) := by decide +kernel
theorem dX6_copyFrom_39 : decode cX6_copyFrom 39 = .ok (.iinc 2 1, 3) := by decide +kernel
theorem dX6_copyFrom_42 : decode cX6_copyFrom 42 = .ok (.goto (-24), 3) := by decide +kernel
theorem dX6_copyFrom_45 : decode cX6_copyFrom 45 = .ok (.return_, 1) := by decide +kernel
