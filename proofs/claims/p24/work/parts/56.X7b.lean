theorem dX7_isElement_5 : decode cX7_isElement 5 = .ok (.bipush 10, 2) := by decide +kernel
theorem dX7_isElement_7 : decode cX7_isElement 7 = .ok (.if_icmp .ge 7, 3) := by decide +kernel
theorem dX7_isElement_10 : decode cX7_isElement 10 = .ok (.iconst 1, 1) := by decide +kernel
theorem dX7_isElement_11 : decode cX7_isElement 11 = .ok (.goto 4, 3) := by decide +kernel
theorem dX7_isElement_14 : decode cX7_isElement 14 = .ok (.iconst 0, 1) := by decide +kernel
theorem dX7_isElement_15 : decode cX7_isElement 15 = .ok (.ireturn, 1) := by decide +kernel
theorem dX7_isPlace_0 : decode cX7_isPlace 0 = .ok (.aload_n 0, 1) := by decide +kernel
theorem dX7_isPlace_1 : decode cX7_isPlace 1 = .ok (.getfield 12, 3) := by decide +kernel
theorem dX7_isPlace_4 : decode cX7_isPlace 4 = .ok (.getfield 48, 3) := by decide +kernel
theorem dX7_isPlace_7 : decode cX7_isPlace 7 = .ok (.getfield 52, 3) := by decide +kernel
theorem dX7_isPlace_10 : decode cX7_isPlace 10 = .ok (.istore_n 3, 1) := by decide +kernel
theorem dX7_isPlace_11 : decode cX7_isPlace 11 = .ok (.iload_n 1, 1) := by decide +kernel
theorem dX7_isPlace_12 : decode cX7_isPlace 12 = .ok (.ifCond .lt 21, 3) := by decide +kernel
theorem dX7_isPlace_15 : decode cX7_isPlace 15 = .ok (.iload_n 1, 1) := by decide +kernel
theorem dX7_isPlace_16 : decode cX7_isPlace 16 = .ok (.iload_n 3, 1) := by decide +kernel
theorem dX7_isPlace_17 : decode cX7_isPlace 17 = .ok (.if_icmp .ge 16, 3) := by decide +kernel
theorem dX7_isPlace_20 : decode cX7_isPlace 20 = .ok (.iload_n 2, 1) := by decide +kernel
theorem dX7_isPlace_21 : decode cX7_isPlace 21 = .ok (.ifCond .lt 12, 3) := by decide +kernel
theorem dX7_isPlace_24 : decode cX7_isPlace 24 = .ok (.iload_n 2, 1) := by decide +kernel
theorem dX7_isPlace_25 : decode cX7_isPlace 25 = .ok (.iload_n 3, 1) := by decide +kernel
theorem dX7_isPlace_26 : decode cX7_isPlace 26 = .ok (.if_icmp .ge 7, 3) := by decide +kernel
theorem dX7_isPlace_29 : decode cX7_isPlace 29 = .ok (.iconst 1, 1) := by decide +kernel
theorem dX7_isPlace_30 : decode cX7_isPlace 30 = .ok (.goto 4, 3) := by decide +kernel
theorem dX7_isPlace_33 : decode cX7_isPlace 33 = .ok (.iconst 0, 1) := by decide +kernel
theorem dX7_isPlace_34 : decode cX7_isPlace 34 = .ok (.ireturn, 1) := by decide +kernel
set_option maxRecDepth 20000 in
theorem ggX7_registersNotZero_X7_isZero : GoodIn wsX7_registersNotZero wsX7_isZero := goodIn_r _ [5] (by decide +kernel) (by decide +kernel)
set_option maxRecDepth 20000 in
theorem gX7_registersNotZero_X7_isZero : GoodIn wsX7_registersNotZero (va_wsS RX7 104 yX7_isZero wsX7_isZero) := goodIn_app (goodIn_of _ (by decide +kernel)) ggX7_registersNotZero_X7_isZero
theorem dX7_registersNotZero_0 : decode cX7_registersNotZero 0 = .ok (.iconst 0, 1) := by decide +kernel
theorem dX7_registersNotZero_1 : decode cX7_registersNotZero 1 = .ok (.istore_n 1, 1) := by decide +kernel
theorem dX7_registersNotZero_2 : decode cX7_registersNotZero 2 = .ok (.iconst 0, 1) := by decide +kernel
theorem dX7_registersNotZero_3 : decode cX7_registersNotZero 3 = .ok (.istore_n 2, 1) := by decide +kernel
theorem dX7_registersNotZero_4 : decode cX7_registersNotZero 4 = .ok (.iload_n 2, 1) := by decide +kernel
theorem dX7_registersNotZero_5 : decode cX7_registersNotZero 5 = .ok (.bipush 8, 2) := by decide +kernel
theorem dX7_registersNotZero_7 : decode cX7_registersNotZero 7 = .ok (.if_icmp .ge 33, 3) := by decide +kernel
theorem dX7_registersNotZero_10 : decode cX7_registersNotZero 10 = .ok (.aload_n 0, 1) := by decide +kernel
theorem dX7_registersNotZero_11 : decode cX7_registersNotZero 11 = .ok (.getfield 12, 3) := by decide +kernel
theorem dX7_registersNotZero_14 : decode cX7_registersNotZero 14 = .ok (.getfield 48, 3) := by decide +kernel
theorem dX7_registersNotZero_17 : decode cX7_registersNotZero 17 = .ok (.getfield 75, 3) := by decide +kernel
theorem dX7_registersNotZero_20 : decode cX7_registersNotZero 20 = .ok (.iload_n 2, 1) := by decide +kernel
theorem dX7_registersNotZero_21 : decode cX7_registersNotZero 21 = .ok (.aaload, 1) := by decide +kernel
theorem dX7_registersNotZero_22 : decode cX7_registersNotZero 22 = .ok (.invokestatic 104, 3) := by decide +kernel
theorem dX7_registersNotZero_25 : decode cX7_registersNotZero 25 = .ok (.ifCond .ne 9, 3) := by decide +kernel
theorem dX7_registersNotZero_28 : decode cX7_registersNotZero 28 = .ok (.iload_n 1, 1) := by decide +kernel
theorem dX7_registersNotZero_29 : decode cX7_registersNotZero 29 = .ok (.iconst 1, 1) := by decide +kernel
theorem dX7_registersNotZero_30 : decode cX7_registersNotZero 30 = .ok (.iload_n 2, 1) := by decide +kernel
theorem dX7_registersNotZero_31 : decode cX7_registersNotZero 31 = .ok (.ishl, 1) := by decide +kernel
theorem dX7_registersNotZero_32 : decode cX7_registersNotZero 32 = .ok (.ior, 1) := by decide +kernel
theorem dX7_registersNotZero_33 : decode cX7_registersNotZero 33 = .ok (.istore_n 1, 1) := by decide +kernel
theorem dX7_registersNotZero_34 : decode cX7_registersNotZero 34 = .ok (.iinc 2 1, 3) := by decide +kernel
theorem dX7_registersNotZero_37 : decode cX7_registersNotZero 37 = .ok (.goto (-33), 3) := by decide +kernel
theorem dX7_registersNotZero_40 : decode cX7_registersNotZero 40 = .ok (.iload_n 1, 1) := by decide +kernel
theorem dX7_registersNotZero_41 : decode cX7_registersNotZero 41 = .ok (.ireturn, 1) := by decide +kernel
set_option maxRecDepth 20000 in
theorem ggX7_registersOwnSquares_X0_isOwnSquare : GoodIn wsX7_registersOwnSquares wsX0_isOwnSquare := goodIn_r _ [5, 6, 7, 8, 9, 3, 10, 11, 12, 13, 14, 15, 16, 17, 18, 19, 20, 21, 22, 23, 24, 25, 26, 33, 34, 35, 36, 37, 38, 39, 40, 41, 42, 43, 44, 45, 46] (by decide +kernel) (by decide +kernel)
set_option maxRecDepth 20000 in
theorem gX7_registersOwnSquares_X0_isOwnSquare_n90 : GoodIn wsX7_registersOwnSquares (wsX0_isOwnSquare) := ggX7_registersOwnSquares_X0_isOwnSquare
theorem dX7_registersOwnSquares_0 : decode cX7_registersOwnSquares 0 = .ok (.iconst 0, 1) := by decide +kernel
theorem dX7_registersOwnSquares_1 : decode cX7_registersOwnSquares 1 = .ok (.istore_n 1, 1) := by decide +kernel
theorem dX7_registersOwnSquares_2 : decode cX7_registersOwnSquares 2 = .ok (.iconst 0, 1) := by decide +kernel
theorem dX7_registersOwnSquares_3 : decode cX7_registersOwnSquares 3 = .ok (.istore_n 2, 1) := by decide +kernel
theorem dX7_registersOwnSquares_4 : decode cX7_registersOwnSquares 4 = .ok (.iload_n 2, 1) := by decide +kernel
theorem dX7_registersOwnSquares_5 : decode cX7_registersOwnSquares 5 = .ok (.bipush 8, 2) := by decide +kernel
theorem dX7_registersOwnSquares_7 : decode cX7_registersOwnSquares 7 = .ok (.if_icmp .ge 37, 3) := by decide +kernel
theorem dX7_registersOwnSquares_10 : decode cX7_registersOwnSquares 10 = .ok (.aload_n 0, 1) := by decide +kernel
theorem dX7_registersOwnSquares_11 : decode cX7_registersOwnSquares 11 = .ok (.getfield 12, 3) := by decide +kernel
theorem dX7_registersOwnSquares_14 : decode cX7_registersOwnSquares 14 = .ok (.aload_n 0, 1) := by decide +kernel
theorem dX7_registersOwnSquares_15 : decode cX7_registersOwnSquares 15 = .ok (.getfield 12, 3) := by decide +kernel
theorem dX7_registersOwnSquares_18 : decode cX7_registersOwnSquares 18 = .ok (.getfield 48, 3) := by decide +kernel
theorem dX7_registersOwnSquares_21 : decode cX7_registersOwnSquares 21 = .ok (.getfield 75, 3) := by decide +kernel
theorem dX7_registersOwnSquares_24 : decode cX7_registersOwnSquares 24 = .ok (.iload_n 2, 1) := by decide +kernel
theorem dX7_registersOwnSquares_25 : decode cX7_registersOwnSquares 25 = .ok (.aaload, 1) := by decide +kernel
theorem dX7_registersOwnSquares_26 : decode cX7_registersOwnSquares 26 = .ok (.invokevirtual 90, 3) := by decide +kernel
theorem dX7_registersOwnSquares_29 : decode cX7_registersOwnSquares 29 = .ok (.ifCond .eq 9, 3) := by decide +kernel
theorem dX7_registersOwnSquares_32 : decode cX7_registersOwnSquares 32 = .ok (.iload_n 1, 1) := by decide +kernel
theorem dX7_registersOwnSquares_33 : decode cX7_registersOwnSquares 33 = .ok (.iconst 1, 1) := by decide +kernel
theorem dX7_registersOwnSquares_34 : decode cX7_registersOwnSquares 34 = .ok (.iload_n 2, 1) := by decide +kernel
theorem dX7_registersOwnSquares_35 : decode cX7_registersOwnSquares 35 = .ok (.ishl, 1) := by decide +kernel
theorem dX7_registersOwnSquares_36 : decode cX7_registersOwnSquares 36 = .ok (.ior, 1) := by decide +kernel
theorem dX7_registersOwnSquares_37 : decode cX7_registersOwnSquares 37 = .ok (.istore_n 1, 1) := by decide +kernel
theorem dX7_registersOwnSquares_38 : decode cX7_registersOwnSquares 38 = .ok (.iinc 2 1, 3) := by decide +kernel
theorem dX7_registersOwnSquares_41 : decode cX7_registersOwnSquares 41 = .ok (.goto (-37), 3) := by decide +kernel
theorem dX7_registersOwnSquares_44 : decode cX7_registersOwnSquares 44 = .ok (.iload_n 1, 1) := by decide +kernel
theorem dX7_registersOwnSquares_45 : decode cX7_registersOwnSquares 45 = .ok (.ireturn, 1) := by decide +kernel
theorem dX7_partExponent_0 : decode cX7_partExponent 0 = .ok (.iload_n 0, 1) := by decide +kernel
theorem dX7_partExponent_1 : decode cX7_partExponent 1 = .ok (.iconst 1, 1) := by decide +kernel
theorem dX7_partExponent_2 : decode cX7_partExponent 2 = .ok (.if_icmp .ne 7, 3) := by decide +kernel
theorem dX7_partExponent_5 : decode cX7_partExponent 5 = .ok (.iload_n 1, 1) := by decide +kernel
theorem dX7_partExponent_6 : decode cX7_partExponent 6 = .ok (.iload_n 2, 1) := by decide +kernel
theorem dX7_partExponent_7 : decode cX7_partExponent 7 = .ok (.imul, 1) := by decide +kernel
theorem dX7_partExponent_8 : decode cX7_partExponent 8 = .ok (.ireturn, 1) := by decide +kernel
theorem dX7_partExponent_9 : decode cX7_partExponent 9 = .ok (.iload_n 0, 1) := by decide +kernel
theorem dX7_partExponent_10 : decode cX7_partExponent 10 = .ok (.iconst 2, 1) := by decide +kernel
theorem dX7_partExponent_11 : decode cX7_partExponent 11 = .ok (.if_icmp .ne 7, 3) := by decide +kernel
theorem dX7_partExponent_14 : decode cX7_partExponent 14 = .ok (.iload_n 1, 1) := by decide +kernel
theorem dX7_partExponent_15 : decode cX7_partExponent 15 = .ok (.goto 4, 3) := by decide +kernel
theorem dX7_partExponent_18 : decode cX7_partExponent 18 = .ok (.iload_n 2, 1) := by decide +kernel
theorem dX7_partExponent_19 : decode cX7_partExponent 19 = .ok (.istore_n 3, 1) := by decide +kernel
theorem dX7_partExponent_20 : decode cX7_partExponent 20 = .ok (.iload_n 3, 1) := by decide +kernel
theorem dX7_partExponent_21 : decode cX7_partExponent 21 = .ok (.iload_n 3, 1) := by decide +kernel
theorem dX7_partExponent_22 : decode cX7_partExponent 22 = .ok (.iconst 1, 1) := by decide +kernel
theorem dX7_partExponent_23 : decode cX7_partExponent 23 = .ok (.iadd, 1) := by decide +kernel
theorem dX7_partExponent_24 : decode cX7_partExponent 24 = .ok (.imul, 1) := by decide +kernel
theorem dX7_partExponent_25 : decode cX7_partExponent 25 = .ok (.iconst 2, 1) := by decide +kernel
theorem dX7_partExponent_26 : decode cX7_partExponent 26 = .ok (.idiv, 1) := by decide +kernel
theorem dX7_partExponent_27 : decode cX7_partExponent 27 = .ok (.ireturn, 1) := by decide +kernel
theorem dX7_reduced_0 : decode cX7_reduced 0 = .ok (.iload_n 1, 1) := by decide +kernel
theorem dX7_reduced_1 : decode cX7_reduced 1 = .ok (.iconst 1, 1) := by decide +kernel
theorem dX7_reduced_2 : decode cX7_reduced 2 = .ok (.if_icmp .ge 5, 3) := by decide +kernel
theorem dX7_reduced_5 : decode cX7_reduced 5 = .ok (.iconst 0, 1) := by decide +kernel
theorem dX7_reduced_6 : decode cX7_reduced 6 = .ok (.ireturn, 1) := by decide +kernel
theorem dX7_reduced_7 : decode cX7_reduced 7 = .ok (.iload_n 0, 1) := by decide +kernel
theorem dX7_reduced_8 : decode cX7_reduced 8 = .ok (.iload_n 1, 1) := by decide +kernel
theorem dX7_reduced_9 : decode cX7_reduced 9 = .ok (.irem, 1) := by decide +kernel
theorem dX7_reduced_10 : decode cX7_reduced 10 = .ok (.istore_n 2, 1) := by decide +kernel
theorem dX7_reduced_11 : decode cX7_reduced 11 = .ok (.iload_n 2, 1) := by decide +kernel
theorem dX7_reduced_12 : decode cX7_reduced 12 = .ok (.ifCond .ge 9, 3) := by decide +kernel
theorem dX7_reduced_15 : decode cX7_reduced 15 = .ok (.iload_n 2, 1) := by decide +kernel
theorem dX7_reduced_16 : decode cX7_reduced 16 = .ok (.iload_n 1, 1) := by decide +kernel
theorem dX7_reduced_17 : decode cX7_reduced 17 = .ok (.iadd, 1) := by decide +kernel
theorem dX7_reduced_18 : decode cX7_reduced 18 = .ok (.goto 4, 3) := by decide +kernel
theorem dX7_reduced_21 : decode cX7_reduced 21 = .ok (.iload_n 2, 1) := by decide +kernel
theorem dX7_reduced_22 : decode cX7_reduced 22 = .ok (.ireturn, 1) := by decide +kernel
theorem dX7_copy_0 : decode cX7_copy 0 = .ok (.aload_n 0, 1) := by decide +kernel
theorem dX7_copy_1 : decode cX7_copy 1 = .ok (.iconst 0, 1) := by decide +kernel
theorem dX7_copy_2 : decode cX7_copy 2 = .ok (.aload_n 1, 1) := by decide +kernel
theorem dX7_copy_3 : decode cX7_copy 3 = .ok (.iconst 0, 1) := by decide +kernel
theorem dX7_copy_4 : decode cX7_copy 4 = .ok (.bipush 9, 2) := by decide +kernel
theorem dX7_copy_6 : decode cX7_copy 6 = .ok (.invokestatic 194, 3) := by decide +kernel
theorem dX7_copy_9 : decode cX7_copy 9 = .ok (.return_, 1) := by decide +kernel
theorem dX7_same_0 : decode cX7_same 0 = .ok (.iconst 0, 1) := by decide +kernel
theorem dX7_same_1 : decode cX7_same 1 = .ok (.istore_n 2, 1) := by decide +kernel
theorem dX7_same_2 : decode cX7_same 2 = .ok (.iload_n 2, 1) := by decide +kernel
theorem dX7_same_3 : decode cX7_same 3 = .ok (.bipush 9, 2) := by decide +kernel
theorem dX7_same_5 : decode cX7_same 5 = .ok (.if_icmp .ge 20, 3) := by decide +kernel
theorem dX7_same_8 : decode cX7_same 8 = .ok (.aload_n 0, 1) := by decide +kernel
theorem dX7_same_9 : decode cX7_same 9 = .ok (.iload_n 2, 1) := by decide +kernel
theorem dX7_same_10 : decode cX7_same 10 = .ok (.iaload, 1) := by decide +kernel
theorem dX7_same_11 : decode cX7_same 11 = .ok (.aload_n 1, 1) := by decide +kernel
theorem dX7_same_12 : decode cX7_same 12 = .ok (.iload_n 2, 1) := by decide +kernel
theorem dX7_same_13 : decode cX7_same 13 = .ok (.iaload, 1) := by decide +kernel
theorem dX7_same_14 : decode cX7_same 14 = .ok (.if_icmp .eq 5, 3) := by decide +kernel
theorem dX7_same_17 : decode cX7_same 17 = .ok (.iconst 0, 1) := by decide +kernel
theorem dX7_same_18 : decode cX7_same 18 = .ok (.ireturn, 1) := by decide +kernel
theorem dX7_same_19 : decode cX7_same 19 = .ok (.iinc 2 1, 3) := by decide +kernel
theorem dX7_same_22 : decode cX7_same 22 = .ok (.goto (-20), 3) := by decide +kernel
theorem dX7_same_25 : decode cX7_same 25 = .ok (.iconst 1, 1) := by decide +kernel
theorem dX7_same_26 : decode cX7_same 26 = .ok (.ireturn, 1) := by decide +kernel
theorem dX7_isZero_0 : decode cX7_isZero 0 = .ok (.iconst 0, 1) := by decide +kernel
theorem dX7_isZero_1 : decode cX7_isZero 1 = .ok (.istore_n 1, 1) := by decide +kernel
theorem dX7_isZero_2 : decode cX7_isZero 2 = .ok (.iload_n 1, 1) := by decide +kernel
theorem dX7_isZero_3 : decode cX7_isZero 3 = .ok (.bipush 9, 2) := by decide +kernel
theorem dX7_isZero_5 : decode cX7_isZero 5 = .ok (.if_icmp .ge 17, 3) := by decide +kernel
theorem dX7_isZero_8 : decode cX7_isZero 8 = .ok (.aload_n 0, 1) := by decide +kernel
theorem dX7_isZero_9 : decode cX7_isZero 9 = .ok (.iload_n 1, 1) := by decide +kernel
theorem dX7_isZero_10 : decode cX7_isZero 10 = .ok (.iaload, 1) := by decide +kernel
theorem dX7_isZero_11 : decode cX7_isZero 11 = .ok (.ifCond .eq 5, 3) := by decide +kernel
theorem dX7_isZero_14 : decode cX7_isZero 14 = .ok (.iconst 0, 1) := by decide +kernel
theorem dX7_isZero_15 : decode cX7_isZero 15 = .ok (.ireturn, 1) := by decide +kernel
theorem dX7_isZero_16 : decode cX7_isZero 16 = .ok (.iinc 1 1, 3) := by decide +kernel
theorem dX7_isZero_19 : decode cX7_isZero 19 = .ok (.goto (-17), 3) := by decide +kernel
theorem dX7_isZero_22 : decode cX7_isZero 22 = .ok (.iconst 1, 1) := by decide +kernel
theorem dX7_isZero_23 : decode cX7_isZero 23 = .ok (.ireturn, 1) := by decide +kernel
theorem dX7_registerOf_0 : decode cX7_registerOf 0 = .ok (.iload_n 0, 1) := by decide +kernel
theorem dX7_registerOf_1 : decode cX7_registerOf 1 = .ok (.bipush 65, 2) := by decide +kernel
theorem dX7_registerOf_3 : decode cX7_registerOf 3 = .ok (.if_icmp .lt 16, 3) := by decide +kernel
theorem dX7_registerOf_6 : decode cX7_registerOf 6 = .ok (.iload_n 0, 1) := by decide +kernel
theorem dX7_registerOf_7 : decode cX7_registerOf 7 = .ok (.bipush 73, 2) := by decide +kernel
theorem dX7_registerOf_9 : decode cX7_registerOf 9 = .ok (.if_icmp .ge 10, 3) := by decide +kernel
theorem dX7_registerOf_12 : decode cX7_registerOf 12 = .ok (.iload_n 0, 1) := by decide +kernel
theorem dX7_registerOf_13 : decode cX7_registerOf 13 = .ok (.bipush 65, 2) := by decide +kernel
theorem dX7_registerOf_15 : decode cX7_registerOf 15 = .ok (.isub, 1) := by decide +kernel
theorem dX7_registerOf_16 : decode cX7_registerOf 16 = .ok (.goto 5, 3) := by decide +kernel
theorem dX7_registerOf_19 : decode cX7_registerOf 19 = .ok (.bipush (-6), 2) := by decide +kernel
theorem dX7_registerOf_21 : decode cX7_registerOf 21 = .ok (.ireturn, 1) := by decide +kernel
