theorem dX5_setFirstLine_32 : decode cX5_setFirstLine 32 = .ok (.aload_n 0, 1) := by decide +kernel
theorem dX5_setFirstLine_33 : decode cX5_setFirstLine 33 = .ok (.bipush 32, 2) := by decide +kernel
theorem dX5_setFirstLine_35 : decode cX5_setFirstLine 35 = .ok (.invokevirtual 43, 3) := by decide +kernel
theorem dX5_setFirstLine_38 : decode cX5_setFirstLine 38 = .ok (.ifCond .eq 8, 3) := by decide +kernel
theorem dX5_setFirstLine_41 : decode cX5_setFirstLine 41 = .ok (.aload_n 0, 1) := by decide +kernel
theorem dX5_setFirstLine_42 : decode cX5_setFirstLine 42 = .ok (.iconst 1, 1) := by decide +kernel
theorem dX5_setFirstLine_43 : decode cX5_setFirstLine 43 = .ok (.putfield 24, 3) := by decide +kernel
theorem dX5_setFirstLine_46 : decode cX5_setFirstLine 46 = .ok (.return_, 1) := by decide +kernel
set_option maxRecDepth 20000 in
theorem ggX5_setSecondLine_X5_isSeen : GoodIn wsX5_setSecondLine wsX5_isSeen := goodIn_r _ [7, 2, 8, 9, 10, 11, 12, 13, 14] rfl (by decide +kernel)
set_option maxRecDepth 20000 in
theorem gX5_setSecondLine_X5_isSeen : GoodIn wsX5_setSecondLine (wsV RX5 39 RX5 yX5_isSeen wsX5_isSeen) := goodIn_app (goodIn_of _ (by decide +kernel)) ggX5_setSecondLine_X5_isSeen
theorem dX5_setSecondLine_0 : decode cX5_setSecondLine 0 = .ok (.aload_n 0, 1) := by decide +kernel
theorem dX5_setSecondLine_1 : decode cX5_setSecondLine 1 = .ok (.aload_n 0, 1) := by decide +kernel
theorem dX5_setSecondLine_2 : decode cX5_setSecondLine 2 = .ok (.getfield 24, 3) := by decide +kernel
theorem dX5_setSecondLine_5 : decode cX5_setSecondLine 5 = .ok (.iload_n 1, 1) := by decide +kernel
theorem dX5_setSecondLine_6 : decode cX5_setSecondLine 6 = .ok (.bipush 16, 2) := by decide +kernel
theorem dX5_setSecondLine_8 : decode cX5_setSecondLine 8 = .ok (.invokevirtual 39, 3) := by decide +kernel
theorem dX5_setSecondLine_11 : decode cX5_setSecondLine 11 = .ok (.istore_n 2, 1) := by decide +kernel
theorem dX5_setSecondLine_12 : decode cX5_setSecondLine 12 = .ok (.aload_n 0, 1) := by decide +kernel
theorem dX5_setSecondLine_13 : decode cX5_setSecondLine 13 = .ok (.iload_n 1, 1) := by decide +kernel
theorem dX5_setSecondLine_14 : decode cX5_setSecondLine 14 = .ok (.putfield 24, 3) := by decide +kernel
theorem dX5_setSecondLine_17 : decode cX5_setSecondLine 17 = .ok (.iload_n 2, 1) := by decide +kernel
theorem dX5_setSecondLine_18 : decode cX5_setSecondLine 18 = .ok (.ifCond .eq 14, 3) := by decide +kernel
theorem dX5_setSecondLine_21 : decode cX5_setSecondLine 21 = .ok (.aload_n 0, 1) := by decide +kernel
theorem dX5_setSecondLine_22 : decode cX5_setSecondLine 22 = .ok (.dup, 1) := by decide +kernel
theorem dX5_setSecondLine_23 : decode cX5_setSecondLine 23 = .ok (.getfield 13, 3) := by decide +kernel
theorem dX5_setSecondLine_26 : decode cX5_setSecondLine 26 = .ok (.bipush 64, 2) := by decide +kernel
theorem dX5_setSecondLine_28 : decode cX5_setSecondLine 28 = .ok (.ior, 1) := by decide +kernel
theorem dX5_setSecondLine_29 : decode cX5_setSecondLine 29 = .ok (.putfield 13, 3) := by decide +kernel
theorem dX5_setSecondLine_32 : decode cX5_setSecondLine 32 = .ok (.return_, 1) := by decide +kernel
theorem dX5_isSeen_0 : decode cX5_isSeen 0 = .ok (.aload_n 0, 1) := by decide +kernel
theorem dX5_isSeen_1 : decode cX5_isSeen 1 = .ok (.getfield 13, 3) := by decide +kernel
theorem dX5_isSeen_4 : decode cX5_isSeen 4 = .ok (.iload_n 3, 1) := by decide +kernel
theorem dX5_isSeen_5 : decode cX5_isSeen 5 = .ok (.iand, 1) := by decide +kernel
theorem dX5_isSeen_6 : decode cX5_isSeen 6 = .ok (.ifCond .eq 7, 3) := by decide +kernel
theorem dX5_isSeen_9 : decode cX5_isSeen 9 = .ok (.iconst 1, 1) := by decide +kernel
theorem dX5_isSeen_10 : decode cX5_isSeen 10 = .ok (.goto 4, 3) := by decide +kernel
theorem dX5_isSeen_13 : decode cX5_isSeen 13 = .ok (.iconst 0, 1) := by decide +kernel
theorem dX5_isSeen_14 : decode cX5_isSeen 14 = .ok (.istore 4, 2) := by decide +kernel
theorem dX5_isSeen_16 : decode cX5_isSeen 16 = .ok (.iload_n 1, 1) := by decide +kernel
theorem dX5_isSeen_17 : decode cX5_isSeen 17 = .ok (.iload_n 2, 1) := by decide +kernel
theorem dX5_isSeen_18 : decode cX5_isSeen 18 = .ok (.if_icmp .eq 13, 3) := by decide +kernel
theorem dX5_isSeen_21 : decode cX5_isSeen 21 = .ok (.iload_n 2, 1) := by decide +kernel
theorem dX5_isSeen_22 : decode cX5_isSeen 22 = .ok (.iload 4, 2) := by decide +kernel
theorem dX5_isSeen_24 : decode cX5_isSeen 24 = .ok (.if_icmp .ne 7, 3) := by decide +kernel
theorem dX5_isSeen_27 : decode cX5_isSeen 27 = .ok (.iconst 1, 1) := by decide +kernel
theorem dX5_isSeen_28 : decode cX5_isSeen 28 = .ok (.goto 4, 3) := by decide +kernel
theorem dX5_isSeen_31 : decode cX5_isSeen 31 = .ok (.iconst 0, 1) := by decide +kernel
theorem dX5_isSeen_32 : decode cX5_isSeen 32 = .ok (.ireturn, 1) := by decide +kernel
theorem dX5_asks_0 : decode cX5_asks 0 = .ok (.sipush 129, 3) := by decide +kernel
theorem dX5_asks_3 : decode cX5_asks 3 = .ok (.istore_n 1, 1) := by decide +kernel
theorem dX5_asks_4 : decode cX5_asks 4 = .ok (.bipush 72, 2) := by decide +kernel
theorem dX5_asks_6 : decode cX5_asks 6 = .ok (.istore_n 2, 1) := by decide +kernel
theorem dX5_asks_7 : decode cX5_asks 7 = .ok (.aload_n 0, 1) := by decide +kernel
theorem dX5_asks_8 : decode cX5_asks 8 = .ok (.getfield 13, 3) := by decide +kernel
theorem dX5_asks_11 : decode cX5_asks 11 = .ok (.iload_n 1, 1) := by decide +kernel
theorem dX5_asks_12 : decode cX5_asks 12 = .ok (.iand, 1) := by decide +kernel
theorem dX5_asks_13 : decode cX5_asks 13 = .ok (.iload_n 1, 1) := by decide +kernel
theorem dX5_asks_14 : decode cX5_asks 14 = .ok (.if_icmp .eq 16, 3) := by decide +kernel
theorem dX5_asks_17 : decode cX5_asks 17 = .ok (.aload_n 0, 1) := by decide +kernel
theorem dX5_asks_18 : decode cX5_asks 18 = .ok (.getfield 13, 3) := by decide +kernel
theorem dX5_asks_21 : decode cX5_asks 21 = .ok (.iload_n 2, 1) := by decide +kernel
theorem dX5_asks_22 : decode cX5_asks 22 = .ok (.bipush 32, 2) := by decide +kernel
theorem dX5_asks_24 : decode cX5_asks 24 = .ok (.ior, 1) := by decide +kernel
theorem dX5_asks_25 : decode cX5_asks 25 = .ok (.iand, 1) := by decide +kernel
theorem dX5_asks_26 : decode cX5_asks 26 = .ok (.iload_n 2, 1) := by decide +kernel
theorem dX5_asks_27 : decode cX5_asks 27 = .ok (.if_icmp .ne 7, 3) := by decide +kernel
theorem dX5_asks_30 : decode cX5_asks 30 = .ok (.iconst 1, 1) := by decide +kernel
theorem dX5_asks_31 : decode cX5_asks 31 = .ok (.goto 4, 3) := by decide +kernel
theorem dX5_asks_34 : decode cX5_asks 34 = .ok (.iconst 0, 1) := by decide +kernel
theorem dX5_asks_35 : decode cX5_asks 35 = .ok (.ireturn, 1) := by decide +kernel
set_option maxRecDepth 20000 in
theorem ggX5_endStep_X5_isKind : GoodIn wsX5_endStep wsX5_isKind := goodIn_r _ [6, 7, 8, 9, 10, 11, 12, 13, 14] rfl (by decide +kernel)
set_option maxRecDepth 20000 in
theorem gX5_endStep_X5_isKind : GoodIn wsX5_endStep (wsV RX5 43 RX5 yX5_isKind wsX5_isKind) := goodIn_app (goodIn_of _ (by decide +kernel)) ggX5_endStep_X5_isKind
theorem dX5_endStep_0 : decode cX5_endStep 0 = .ok (.aload_n 0, 1) := by decide +kernel
theorem dX5_endStep_1 : decode cX5_endStep 1 = .ok (.bipush 40, 2) := by decide +kernel
theorem dX5_endStep_3 : decode cX5_endStep 3 = .ok (.invokevirtual 43, 3) := by decide +kernel
theorem dX5_endStep_6 : decode cX5_endStep 6 = .ok (.ifCond .eq 8, 3) := by decide +kernel
theorem dX5_endStep_9 : decode cX5_endStep 9 = .ok (.aload_n 0, 1) := by decide +kernel
theorem dX5_endStep_10 : decode cX5_endStep 10 = .ok (.iconst 1, 1) := by decide +kernel
theorem dX5_endStep_11 : decode cX5_endStep 11 = .ok (.putfield 24, 3) := by decide +kernel
theorem dX5_endStep_14 : decode cX5_endStep 14 = .ok (.return_, 1) := by decide +kernel
set_option maxRecDepth 20000 in
theorem ggX6_init_X4_init : GoodIn wsX6_init wsX4_init := goodIn_r _ [23, 24, 2, 3, 25, 26, 27, 28, 29, 65, 66, 67, 68, 69, 70, 71, 72, 73, 74, 75, 76, 77, 78, 79, 80] rfl (by decide +kernel)
set_option maxRecDepth 20000 in
theorem gX6_init_X4_init : GoodIn wsX6_init (wsX4_init) := ggX6_init_X4_init
set_option maxRecDepth 20000 in
theorem ggX6_init_X5_init : GoodIn wsX6_init wsX5_init := goodIn_r _ [32, 33, 2, 3, 34, 86, 87, 88, 89, 90, 91, 92] rfl (by decide +kernel)
set_option maxRecDepth 20000 in
theorem gX6_init_X5_init : GoodIn wsX6_init (wsX5_init) := ggX6_init_X5_init
set_option maxRecDepth 20000 in
theorem ggX6_init_X1_init : GoodIn wsX6_init wsX1_init := goodIn_r _ [37, 38, 2, 3, 25, 39, 40, 41, 42, 43, 93, 94, 95, 96, 97] rfl (by decide +kernel)
set_option maxRecDepth 20000 in
theorem gX6_init_X1_init : GoodIn wsX6_init (wsX1_init) := ggX6_init_X1_init
set_option maxRecDepth 20000 in
theorem ggX6_init_X3_init : GoodIn wsX6_init wsX3_init := goodIn_r _ [46, 47, 2, 3, 48, 49, 50, 51, 52, 53, 54, 55, 56, 57, 58, 59, 60, 61, 62, 63, 64, 98, 99, 100, 101, 102, 103, 104, 105, 106, 107, 108, 109] rfl (by decide +kernel)
set_option maxRecDepth 20000 in
theorem gX6_init_X3_init : GoodIn wsX6_init (wsX3_init) := ggX6_init_X3_init
theorem dX6_init_0 : decode cX6_init 0 = .ok (.aload_n 0, 1) := by decide +kernel
theorem dX6_init_1 : decode cX6_init 1 = .ok (.invokespecial 1, 3) := by decide +kernel
theorem dX6_init_4 : decode cX6_init 4 = .ok (.aload_n 0, 1) := by decide +kernel
theorem dX6_init_5 : decode cX6_init 5 = .ok (.new 7, 3) := by decide +kernel
theorem dX6_init_8 : decode cX6_init 8 = .ok (.dup, 1) := by decide +kernel
theorem dX6_init_9 : decode cX6_init 9 = .ok (.invokespecial 9, 3) := by decide +kernel
theorem dX6_init_12 : decode cX6_init 12 = .ok (.putfield 10, 3) := by decide +kernel
theorem dX6_init_15 : decode cX6_init 15 = .ok (.aload_n 0, 1) := by decide +kernel
theorem dX6_init_16 : decode cX6_init 16 = .ok (.new 16, 3) := by decide +kernel
theorem dX6_init_19 : decode cX6_init 19 = .ok (.dup, 1) := by decide +kernel
theorem dX6_init_20 : decode cX6_init 20 = .ok (.iconst 1, 1) := by decide +kernel
theorem dX6_init_21 : decode cX6_init 21 = .ok (.invokespecial 18, 3) := by decide +kernel
theorem dX6_init_24 : decode cX6_init 24 = .ok (.putfield 21, 3) := by decide +kernel
theorem dX6_init_27 : decode cX6_init 27 = .ok (.aload_n 0, 1) := by decide +kernel
theorem dX6_init_28 : decode cX6_init 28 = .ok (.new 16, 3) := by decide +kernel
theorem dX6_init_31 : decode cX6_init 31 = .ok (.dup, 1) := by decide +kernel
theorem dX6_init_32 : decode cX6_init 32 = .ok (.iconst 0, 1) := by decide +kernel
theorem dX6_init_33 : decode cX6_init 33 = .ok (.invokespecial 18, 3) := by decide +kernel
theorem dX6_init_36 : decode cX6_init 36 = .ok (.putfield 25, 3) := by decide +kernel
theorem dX6_init_39 : decode cX6_init 39 = .ok (.aload_n 0, 1) := by decide +kernel
theorem dX6_init_40 : decode cX6_init 40 = .ok (.new 28, 3) := by decide +kernel
theorem dX6_init_43 : decode cX6_init 43 = .ok (.dup, 1) := by decide +kernel
theorem dX6_init_44 : decode cX6_init 44 = .ok (.aload_n 0, 1) := by decide +kernel
theorem dX6_init_45 : decode cX6_init 45 = .ok (.getfield 21, 3) := by decide +kernel
theorem dX6_init_48 : decode cX6_init 48 = .ok (.aload_n 0, 1) := by decide +kernel
theorem dX6_init_49 : decode cX6_init 49 = .ok (.getfield 25, 3) := by decide +kernel
theorem dX6_init_52 : decode cX6_init 52 = .ok (.aload_n 0, 1) := by decide +kernel
theorem dX6_init_53 : decode cX6_init 53 = .ok (.getfield 10, 3) := by decide +kernel
theorem dX6_init_56 : decode cX6_init 56 = .ok (.invokespecial 30, 3) := by decide +kernel
theorem dX6_init_59 : decode cX6_init 59 = .ok (.putfield 33, 3) := by decide +kernel
theorem dX6_init_62 : decode cX6_init 62 = .ok (.aload_n 0, 1) := by decide +kernel
theorem dX6_init_63 : decode cX6_init 63 = .ok (.new 37, 3) := by decide +kernel
theorem dX6_init_66 : decode cX6_init 66 = .ok (.dup, 1) := by decide +kernel
theorem dX6_init_67 : decode cX6_init 67 = .ok (.aload_n 0, 1) := by decide +kernel
theorem dX6_init_68 : decode cX6_init 68 = .ok (.getfield 33, 3) := by decide +kernel
theorem dX6_init_71 : decode cX6_init 71 = .ok (.invokespecial 39, 3) := by decide +kernel
theorem dX6_init_74 : decode cX6_init 74 = .ok (.putfield 42, 3) := by decide +kernel
theorem dX6_init_77 : decode cX6_init 77 = .ok (.return_, 1) := by decide +kernel
set_option maxRecDepth 20000 in
theorem ggX6_put_X1_isMemory : GoodIn wsX6_put wsX1_isMemory := goodIn_r _ [6, 7, 8, 9, 5, 10, 11, 12, 13, 14, 15, 16] rfl (by decide +kernel)
set_option maxRecDepth 20000 in
theorem gX6_put_X1_isMemory : GoodIn wsX6_put (wsV RX6 46 RX1 yX1_isMemory wsX1_isMemory) := goodIn_app (goodIn_of _ (by decide +kernel)) ggX6_put_X1_isMemory
set_option maxRecDepth 20000 in
theorem ggX6_put_X1_store : GoodIn wsX6_put wsX1_store := goodIn_r _ [20, 21, 22, 15, 7, 8, 9, 5, 10, 11, 12, 13, 14, 16, 28, 29, 30, 31, 32] rfl (by decide +kernel)
set_option maxRecDepth 20000 in
theorem gX6_put_X1_store : GoodIn wsX6_put (wsV RX6 50 RX1 yX1_store wsX1_store) := goodIn_app (goodIn_of _ (by decide +kernel)) ggX6_put_X1_store
theorem dX6_put_0 : decode cX6_put 0 = .ok (.aload_n 0, 1) := by decide +kernel
theorem dX6_put_1 : decode cX6_put 1 = .ok (.getfield 33, 3) := by decide +kernel
theorem dX6_put_4 : decode cX6_put 4 = .ok (.iload_n 1, 1) := by decide +kernel
theorem dX6_put_5 : decode cX6_put 5 = .ok (.invokevirtual 46, 3) := by decide +kernel
theorem dX6_put_8 : decode cX6_put 8 = .ok (.ifCond .eq 16, 3) := by decide +kernel
theorem dX6_put_11 : decode cX6_put 11 = .ok (.aload_n 0, 1) := by decide +kernel
theorem dX6_put_12 : decode cX6_put 12 = .ok (.getfield 33, 3) := by decide +kernel
theorem dX6_put_15 : decode cX6_put 15 = .ok (.iload_n 1, 1) := by decide +kernel
theorem dX6_put_16 : decode cX6_put 16 = .ok (.iconst 3, 1) := by decide +kernel
theorem dX6_put_17 : decode cX6_put 17 = .ok (.iadd, 1) := by decide +kernel
theorem dX6_put_18 : decode cX6_put 18 = .ok (.invokevirtual 46, 3) := by decide +kernel
theorem dX6_put_21 : decode cX6_put 21 = .ok (.ifCond .ne 5, 3) := by decide +kernel
theorem dX6_put_24 : decode cX6_put 24 = .ok (.iconst 0, 1) := by decide +kernel
theorem dX6_put_25 : decode cX6_put 25 = .ok (.ireturn, 1) := by decide +kernel
theorem dX6_put_26 : decode cX6_put 26 = .ok (.iconst 0, 1) := by decide +kernel
theorem dX6_put_27 : decode cX6_put 27 = .ok (.istore_n 3, 1) := by decide +kernel
theorem dX6_put_28 : decode cX6_put 28 = .ok (.iload_n 3, 1) := by decide +kernel
theorem dX6_put_29 : decode cX6_put 29 = .ok (.iconst 4, 1) := by decide +kernel
theorem dX6_put_30 : decode cX6_put 30 = .ok (.if_icmp .ge 32, 3) := by decide +kernel
theorem dX6_put_33 : decode cX6_put 33 = .ok (.aload_n 0, 1) := by decide +kernel
theorem dX6_put_34 : decode cX6_put 34 = .ok (.getfield 33, 3) := by decide +kernel
theorem dX6_put_37 : decode cX6_put 37 = .ok (.iload_n 1, 1) := by decide +kernel
theorem dX6_put_38 : decode cX6_put 38 = .ok (.iload_n 3, 1) := by decide +kernel
theorem dX6_put_39 : decode cX6_put 39 = .ok (.iadd, 1) := by decide +kernel
theorem dX6_put_40 : decode cX6_put 40 = .ok (.iload_n 2, 1) := by decide +kernel
theorem dX6_put_41 : decode cX6_put 41 = .ok (.bipush 24, 2) := by decide +kernel
theorem dX6_put_43 : decode cX6_put 43 = .ok (.bipush 8, 2) := by decide +kernel
theorem dX6_put_45 : decode cX6_put 45 = .ok (.iload_n 3, 1) := by decide +kernel
theorem dX6_put_46 : decode cX6_put 46 = .ok (.imul, 1) := by decide +kernel
theorem dX6_put_47 : decode cX6_put 47 = .ok (.isub, 1) := by decide +kernel
theorem dX6_put_48 : decode cX6_put 48 = .ok (.ishr, 1) := by decide +kernel
theorem dX6_put_49 : decode cX6_put 49 = .ok (.sipush 255, 3) := by decide +kernel
theorem dX6_put_52 : decode cX6_put 52 = .ok (.iand, 1) := by decide +kernel
theorem dX6_put_53 : decode cX6_put 53 = .ok (.invokevirtual 50, 3) := by decide +kernel
theorem dX6_put_56 : decode cX6_put 56 = .ok (.iinc 3 1, 3) := by decide +kernel
theorem dX6_put_59 : decode cX6_put 59 = .ok (.goto (-31), 3) := by decide +kernel
theorem dX6_put_62 : decode cX6_put 62 = .ok (.iconst 1, 1) := by decide +kernel
theorem dX6_put_63 : decode cX6_put 63 = .ok (.ireturn, 1) := by decide +kernel
set_option maxRecDepth 20000 in
theorem ggX6_peek_X1_isMemory : GoodIn wsX6_peek wsX1_isMemory := goodIn_r _ [6, 7, 8, 9, 5, 10, 11, 12, 13, 14, 15, 16] rfl (by decide +kernel)
set_option maxRecDepth 20000 in
theorem gX6_peek_X1_isMemory : GoodIn wsX6_peek (wsV RX6 46 RX1 yX1_isMemory wsX1_isMemory) := goodIn_app (goodIn_of _ (by decide +kernel)) ggX6_peek_X1_isMemory
set_option maxRecDepth 20000 in
theorem ggX6_peek_X1_read : GoodIn wsX6_peek wsX1_read := goodIn_r _ [20, 21, 22, 23, 24, 25, 26, 27, 15, 28, 29, 30, 31, 32, 33, 34, 35, 36, 37, 38, 39, 40, 41, 42, 43, 44, 45, 46, 47, 48, 49, 50, 51, 52, 53, 54, 55, 56, 57, 58, 59, 60, 61, 7, 8, 9, 5, 10, 11, 12, 13, 14, 16, 67, 68, 69, 70, 71, 72, 73, 74, 75, 76, 77, 78, 79, 80, 81, 82, 83, 84, 85, 86, 87, 88, 89, 90, 91, 92, 93, 94] rfl (by decide +kernel)
set_option maxRecDepth 20000 in
theorem gX6_peek_X1_read : GoodIn wsX6_peek (wsV RX6 54 RX1 yX1_read wsX1_read) := goodIn_app (goodIn_of _ (by decide +kernel)) ggX6_peek_X1_read
theorem dX6_peek_0 : decode cX6_peek 0 = .ok (.aload_n 0, 1) := by decide +kernel
theorem dX6_peek_1 : decode cX6_peek 1 = .ok (.getfield 33, 3) := by decide +kernel
theorem dX6_peek_4 : decode cX6_peek 4 = .ok (.iload_n 1, 1) := by decide +kernel
theorem dX6_peek_5 : decode cX6_peek 5 = .ok (.invokevirtual 46, 3) := by decide +kernel
theorem dX6_peek_8 : decode cX6_peek 8 = .ok (.ifCond .eq 14, 3) := by decide +kernel
theorem dX6_peek_11 : decode cX6_peek 11 = .ok (.aload_n 0, 1) := by decide +kernel
theorem dX6_peek_12 : decode cX6_peek 12 = .ok (.getfield 33, 3) := by decide +kernel
theorem dX6_peek_15 : decode cX6_peek 15 = .ok (.iload_n 1, 1) := by decide +kernel
theorem dX6_peek_16 : decode cX6_peek 16 = .ok (.invokevirtual 54, 3) := by decide +kernel
theorem dX6_peek_19 : decode cX6_peek 19 = .ok (.goto 4, 3) := by decide +kernel
theorem dX6_peek_22 : decode cX6_peek 22 = .ok (.iconst (-1), 1) := by decide +kernel
theorem dX6_peek_23 : decode cX6_peek 23 = .ok (.ireturn, 1) := by decide +kernel
set_option maxRecDepth 20000 in
theorem ggX6_reset_X3_restart : GoodIn wsX6_reset wsX3_restart := goodIn_r _ [6, 7, 8, 9, 10, 11, 12, 5, 13, 14, 15, 16, 17, 18, 19, 20, 21, 22, 23, 24, 25, 26, 27, 28, 29, 30, 31, 32, 33, 34, 35, 36, 37, 38, 39, 40, 41, 42, 43, 44, 45, 46, 47, 48, 49, 50, 51, 52, 53, 54, 55, 56, 57, 58, 59, 60, 61, 62, 63, 64, 65, 66, 67, 68, 69, 70, 71, 72, 73, 74, 75, 76, 77, 78, 79, 80, 81, 82, 88, 89, 90, 91, 92, 93, 94, 95, 96, 97, 98, 99, 100, 101, 102, 103, 104, 105, 106, 107, 108, 109, 110, 111, 112, 113, 114, 115, 116, 117, 118, 119, 120, 121, 122, 123, 124, 125, 126] rfl (by decide +kernel)
set_option maxRecDepth 20000 in
theorem gX6_reset_X3_restart : GoodIn wsX6_reset (wsV RX6 58 RX3 yX3_restart wsX3_restart) := goodIn_app (goodIn_of _ (by decide +kernel)) ggX6_reset_X3_restart
theorem dX6_reset_0 : decode cX6_reset 0 = .ok (.aload_n 0, 1) := by decide +kernel
theorem dX6_reset_1 : decode cX6_reset 1 = .ok (.getfield 42, 3) := by decide +kernel
theorem dX6_reset_4 : decode cX6_reset 4 = .ok (.invokevirtual 58, 3) := by decide +kernel
theorem dX6_reset_7 : decode cX6_reset 7 = .ok (.return_, 1) := by decide +kernel
set_option maxRecDepth 20000 in
theorem ggX6_run_X4_passTime : GoodIn wsX6_run wsX4_passTime := goodIn_r _ [10, 11, 12, 13, 14, 9, 15, 16, 17, 18, 19, 20, 21, 22, 23, 24, 25, 26, 27, 28, 29, 30, 31, 32, 33, 34, 35, 36, 37, 38, 39, 40, 41, 42, 351, 352, 353, 354, 355, 356, 357, 358, 359, 360, 361, 362, 363, 364, 365, 366] rfl (by decide +kernel)
set_option maxRecDepth 20000 in
theorem gX6_run_X4_passTime : GoodIn wsX6_run (wsV RX6 65 RX4 yX4_passTime wsX4_passTime) := goodIn_app (goodIn_of _ (by decide +kernel)) ggX6_run_X4_passTime
set_option maxRecDepth 20000 in
theorem ggX6_run_X4_asks : GoodIn wsX6_run wsX4_asks := goodIn_r _ [46, 11, 32, 41, 25, 26, 351, 352, 353, 354, 355, 356, 357, 358, 359, 360, 361, 362, 363, 364, 365, 366] rfl (by decide +kernel)
set_option maxRecDepth 20000 in
theorem gX6_run_X4_asks : GoodIn wsX6_run (wsV RX6 68 RX4 yX4_asks wsX4_asks) := goodIn_app (goodIn_of _ (by decide +kernel)) ggX6_run_X4_asks
set_option maxRecDepth 20000 in
theorem ggX6_run_X5_asks : GoodIn wsX6_run wsX5_asks := goodIn_r _ [51, 52, 367, 368, 369, 370, 371, 372, 373] rfl (by decide +kernel)
set_option maxRecDepth 20000 in
theorem gX6_run_X5_asks : GoodIn wsX6_run (wsV RX6 72 RX5 yX5_asks wsX5_asks) := goodIn_app (goodIn_of _ (by decide +kernel)) ggX6_run_X5_asks
set_option maxRecDepth 20000 in
theorem ggX6_run_X3_act : GoodIn wsX6_run wsX3_act := goodIn_r _ [57, 58, 59, 60, 61, 62, 63, 64, 65, 66, 67, 68, 69, 70, 71, 72, 73, 74, 75, 56, 76, 77, 78, 79, 80, 81, 82, 83, 84, 85, 86, 87, 88, 89, 90, 91, 92, 93, 94, 95, 96, 97, 98, 99, 100, 50, 101, 52, 102, 103, 104, 105, 106, 107, 108, 109, 110, 111, 112, 113, 114, 115, 116, 117, 118, 119, 120, 9, 121, 32, 11, 25, 26, 41, 16, 37, 122, 123, 124, 125, 42, 126, 127, 128, 129, 130, 131, 132, 133, 134, 135, 136, 137, 138, 139, 140, 141, 142, 143, 144, 145, 146, 147, 148, 149, 150, 151, 152, 153, 154, 155, 156, 157, 158, 159, 160, 161, 162, 163, 164, 165, 166, 44, 45, 46, 167, 168, 169, 170, 27, 171, 172, 173, 174, 175, 176, 177, 178, 179, 180, 181, 182, 183, 184, 185, 186, 187, 188, 189, 190, 191, 192, 193, 194, 195, 196, 197, 198, 199, 200, 201, 202, 203, 204, 205, 206, 207, 208, 209, 210, 211, 212, 213, 214, 215, 216, 217, 218, 219, 220, 221, 222, 223, 224, 225, 226, 227, 228, 229, 230, 231, 232, 233, 234, 235, 236, 237, 238, 239, 240, 241, 242, 243, 244, 245, 246, 247, 248, 249, 250, 251, 252, 253, 254, 255, 256, 257, 258, 259, 260, 261, 262, 263, 264, 265, 266, 267, 268, 269, 270, 271, 272, 273, 274, 275, 276, 277, 278, 279, 280, 281, 282, 283, 284, 285, 286, 287, 288, 289, 290, 291, 292, 293, 294, 295, 296, 297, 298, 299, 300, 301, 302, 303, 304, 305, 306, 307, 308, 309, 310, 311, 312, 313, 314, 315, 316, 317, 318, 319, 320, 321, 322, 323, 324, 325, 326, 327, 341, 342, 343, 344, 345, 346, 347, 348, 349, 350, 374, 375, 376, 377, 378, 379, 367, 368, 369, 370, 371, 372, 373, 351, 352, 353, 354, 355, 356, 357, 358, 359, 360, 361, 362, 363, 364, 365, 366, 380] rfl (by decide +kernel)
set_option maxRecDepth 20000 in
theorem gX6_run_X3_act : GoodIn wsX6_run (wsV RX6 73 RX3 yX3_act wsX3_act) := goodIn_app (goodIn_of _ (by decide +kernel)) ggX6_run_X3_act
set_option maxRecDepth 20000 in
theorem ggX6_run_X5_endStep : GoodIn wsX6_run wsX5_endStep := goodIn_r _ [331, 105, 332, 333, 334, 50, 335, 52, 367, 368, 369, 370, 371, 372, 373] rfl (by decide +kernel)
set_option maxRecDepth 20000 in
theorem gX6_run_X5_endStep : GoodIn wsX6_run (wsV RX6 76 RX5 yX5_endStep wsX5_endStep) := goodIn_app (goodIn_of _ (by decide +kernel)) ggX6_run_X5_endStep
theorem dX6_run_0 : decode cX6_run 0 = .ok (.iload_n 1, 1) := by decide +kernel
theorem dX6_run_1 : decode cX6_run 1 = .ok (.ifCond .lt 10, 3) := by decide +kernel
theorem dX6_run_4 : decode cX6_run 4 = .ok (.iload_n 1, 1) := by decide +kernel
theorem dX6_run_5 : decode cX6_run 5 = .ok (.sipush 3000, 3) := by decide +kernel
theorem dX6_run_8 : decode cX6_run 8 = .ok (.if_icmp .le 5, 3) := by decide +kernel
theorem dX6_run_11 : decode cX6_run 11 = .ok (.iconst (-1), 1) := by decide +kernel
theorem dX6_run_12 : decode cX6_run 12 = .ok (.ireturn, 1) := by decide +kernel
theorem dX6_run_13 : decode cX6_run 13 = .ok (.iconst 0, 1) := by decide +kernel
theorem dX6_run_14 : decode cX6_run 14 = .ok (.istore_n 2, 1) := by decide +kernel
theorem dX6_run_15 : decode cX6_run 15 = .ok (.iload_n 2, 1) := by decide +kernel
theorem dX6_run_16 : decode cX6_run 16 = .ok (.iload_n 1, 1) := by decide +kernel
theorem dX6_run_17 : decode cX6_run 17 = .ok (.if_icmp .ge 82, 3) := by decide +kernel
theorem dX6_run_20 : decode cX6_run 20 = .ok (.aload_n 0, 1) := by decide +kernel
theorem dX6_run_21 : decode cX6_run 21 = .ok (.getfield 42, 3) := by decide +kernel
theorem dX6_run_24 : decode cX6_run 24 = .ok (.getfield 61, 3) := by decide +kernel
theorem dX6_run_27 : decode cX6_run 27 = .ok (.ifCond .ne 72, 3) := by decide +kernel
theorem dX6_run_30 : decode cX6_run 30 = .ok (.aload_n 0, 1) := by decide +kernel
theorem dX6_run_31 : decode cX6_run 31 = .ok (.getfield 10, 3) := by decide +kernel
theorem dX6_run_34 : decode cX6_run 34 = .ok (.invokevirtual 65, 3) := by decide +kernel
theorem dX6_run_37 : decode cX6_run 37 = .ok (.aload_n 0, 1) := by decide +kernel
theorem dX6_run_38 : decode cX6_run 38 = .ok (.getfield 42, 3) := by decide +kernel
theorem dX6_run_41 : decode cX6_run 41 = .ok (.aload_n 0, 1) := by decide +kernel
theorem dX6_run_42 : decode cX6_run 42 = .ok (.getfield 10, 3) := by decide +kernel
theorem dX6_run_45 : decode cX6_run 45 = .ok (.invokevirtual 68, 3) := by decide +kernel
theorem dX6_run_48 : decode cX6_run 48 = .ok (.ifCond .ne 23, 3) := by decide +kernel
theorem dX6_run_51 : decode cX6_run 51 = .ok (.aload_n 0, 1) := by decide +kernel
theorem dX6_run_52 : decode cX6_run 52 = .ok (.getfield 21, 3) := by decide +kernel
theorem dX6_run_55 : decode cX6_run 55 = .ok (.invokevirtual 72, 3) := by decide +kernel
theorem dX6_run_58 : decode cX6_run 58 = .ok (.ifCond .ne 13, 3) := by decide +kernel
theorem dX6_run_61 : decode cX6_run 61 = .ok (.aload_n 0, 1) := by decide +kernel
theorem dX6_run_62 : decode cX6_run 62 = .ok (.getfield 25, 3) := by decide +kernel
theorem dX6_run_65 : decode cX6_run 65 = .ok (.invokevirtual 72, 3) := by decide +kernel
theorem dX6_run_68 : decode cX6_run 68 = .ok (.ifCond .eq 7, 3) := by decide +kernel
theorem dX6_run_71 : decode cX6_run 71 = .ok (.iconst 1, 1) := by decide +kernel
theorem dX6_run_72 : decode cX6_run 72 = .ok (.goto 4, 3) := by decide +kernel
theorem dX6_run_75 : decode cX6_run 75 = .ok (.iconst 0, 1) := by decide +kernel
theorem dX6_run_76 : decode cX6_run 76 = .ok (.invokevirtual 73, 3) := by decide +kernel
theorem dX6_run_79 : decode cX6_run 79 = .ok (.aload_n 0, 1) := by decide +kernel
theorem dX6_run_80 : decode cX6_run 80 = .ok (.getfield 21, 3) := by decide +kernel
theorem dX6_run_83 : decode cX6_run 83 = .ok (.invokevirtual 76, 3) := by decide +kernel
theorem dX6_run_86 : decode cX6_run 86 = .ok (.aload_n 0, 1) := by decide +kernel
theorem dX6_run_87 : decode cX6_run 87 = .ok (.getfield 25, 3) := by decide +kernel
theorem dX6_run_90 : decode cX6_run 90 = .ok (.invokevirtual 76, 3) := by decide +kernel
theorem dX6_run_93 : decode cX6_run 93 = .ok (.iinc 2 1, 3) := by decide +kernel
theorem dX6_run_96 : decode cX6_run 96 = .ok (.goto (-81), 3) := by decide +kernel
theorem dX6_run_99 : decode cX6_run 99 = .ok (.iload_n 2, 1) := by decide +kernel
theorem dX6_run_100 : decode cX6_run 100 = .ok (.ireturn, 1) := by decide +kernel
theorem dX6_register_0 : decode cX6_register 0 = .ok (.iload_n 1, 1) := by decide +kernel
theorem dX6_register_1 : decode cX6_register 1 = .ok (.tableswitch 130 0 7 #[47, 55, 63, 71, 79, 87, 98, 114], 47) := by decide +kernel
theorem dX6_register_48 : decode cX6_register 48 = .ok (.aload_n 0, 1) := by decide +kernel
theorem dX6_register_49 : decode cX6_register 49 = .ok (.getfield 42, 3) := by decide +kernel
theorem dX6_register_52 : decode cX6_register 52 = .ok (.getfield 79, 3) := by decide +kernel
theorem dX6_register_55 : decode cX6_register 55 = .ok (.ireturn, 1) := by decide +kernel
theorem dX6_register_56 : decode cX6_register 56 = .ok (.aload_n 0, 1) := by decide +kernel
theorem dX6_register_57 : decode cX6_register 57 = .ok (.getfield 42, 3) := by decide +kernel
theorem dX6_register_60 : decode cX6_register 60 = .ok (.getfield 83, 3) := by decide +kernel
theorem dX6_register_63 : decode cX6_register 63 = .ok (.ireturn, 1) := by decide +kernel
theorem dX6_register_64 : decode cX6_register 64 = .ok (.aload_n 0, 1) := by decide +kernel
theorem dX6_register_65 : decode cX6_register 65 = .ok (.getfield 42, 3) := by decide +kernel
theorem dX6_register_68 : decode cX6_register 68 = .ok (.getfield 86, 3) := by decide +kernel
theorem dX6_register_71 : decode cX6_register 71 = .ok (.ireturn, 1) := by decide +kernel
theorem dX6_register_72 : decode cX6_register 72 = .ok (.aload_n 0, 1) := by decide +kernel
theorem dX6_register_73 : decode cX6_register 73 = .ok (.getfield 42, 3) := by decide +kernel
theorem dX6_register_76 : decode cX6_register 76 = .ok (.getfield 89, 3) := by decide +kernel
theorem dX6_register_79 : decode cX6_register 79 = .ok (.ireturn, 1) := by decide +kernel
theorem dX6_register_80 : decode cX6_register 80 = .ok (.aload_n 0, 1) := by decide +kernel
theorem dX6_register_81 : decode cX6_register 81 = .ok (.getfield 42, 3) := by decide +kernel
theorem dX6_register_84 : decode cX6_register 84 = .ok (.getfield 92, 3) := by decide +kernel
theorem dX6_register_87 : decode cX6_register 87 = .ok (.ireturn, 1) := by decide +kernel
theorem dX6_register_88 : decode cX6_register 88 = .ok (.aload_n 0, 1) := by decide +kernel
theorem dX6_register_89 : decode cX6_register 89 = .ok (.getfield 42, 3) := by decide +kernel
theorem dX6_register_92 : decode cX6_register 92 = .ok (.getfield 95, 3) := by decide +kernel
theorem dX6_register_95 : decode cX6_register 95 = .ok (.getfield 99, 3) := by decide +kernel
theorem dX6_register_98 : decode cX6_register 98 = .ok (.ireturn, 1) := by decide +kernel
theorem dX6_register_99 : decode cX6_register 99 = .ok (.aload_n 0, 1) := by decide +kernel
theorem dX6_register_100 : decode cX6_register 100 = .ok (.getfield 42, 3) := by decide +kernel
theorem dX6_register_103 : decode cX6_register 103 = .ok (.getfield 104, 3) := by decide +kernel
theorem dX6_register_106 : decode cX6_register 106 = .ok (.ifCond .eq 7, 3) := by decide +kernel
theorem dX6_register_109 : decode cX6_register 109 = .ok (.iconst 1, 1) := by decide +kernel
theorem dX6_register_110 : decode cX6_register 110 = .ok (.goto 4, 3) := by decide +kernel
theorem dX6_register_113 : decode cX6_register 113 = .ok (.iconst 0, 1) := by decide +kernel
theorem dX6_register_114 : decode cX6_register 114 = .ok (.ireturn, 1) := by decide +kernel
theorem dX6_register_115 : decode cX6_register 115 = .ok (.aload_n 0, 1) := by decide +kernel
theorem dX6_register_116 : decode cX6_register 116 = .ok (.getfield 42, 3) := by decide +kernel
theorem dX6_register_119 : decode cX6_register 119 = .ok (.getfield 61, 3) := by decide +kernel
theorem dX6_register_122 : decode cX6_register 122 = .ok (.ifCond .eq 7, 3) := by decide +kernel
theorem dX6_register_125 : decode cX6_register 125 = .ok (.iconst 1, 1) := by decide +kernel
theorem dX6_register_126 : decode cX6_register 126 = .ok (.goto 4, 3) := by decide +kernel
theorem dX6_register_129 : decode cX6_register 129 = .ok (.iconst 0, 1) := by decide +kernel
theorem dX6_register_130 : decode cX6_register 130 = .ok (.ireturn, 1) := by decide +kernel
theorem dX6_register_131 : decode cX6_register 131 = .ok (.iconst (-1), 1) := by decide +kernel
theorem dX6_register_132 : decode cX6_register 132 = .ok (.ireturn, 1) := by decide +kernel
set_option maxRecDepth 20000 in
theorem ggX6_receive_X4_takeOnLine : GoodIn wsX6_receive wsX4_takeOnLine := goodIn_r _ [6, 7, 8, 9, 15, 16, 17, 18, 19, 20, 21, 22, 23, 24, 25, 26, 27, 28, 29, 30] rfl (by decide +kernel)
set_option maxRecDepth 20000 in
theorem gX6_receive_X4_takeOnLine : GoodIn wsX6_receive (wsV RX6 107 RX4 yX4_takeOnLine wsX4_takeOnLine) := goodIn_app (goodIn_of _ (by decide +kernel)) ggX6_receive_X4_takeOnLine
theorem dX6_receive_0 : decode cX6_receive 0 = .ok (.aload_n 0, 1) := by decide +kernel
theorem dX6_receive_1 : decode cX6_receive 1 = .ok (.getfield 10, 3) := by decide +kernel
theorem dX6_receive_4 : decode cX6_receive 4 = .ok (.iload_n 1, 1) := by decide +kernel
theorem dX6_receive_5 : decode cX6_receive 5 = .ok (.sipush 255, 3) := by decide +kernel
theorem dX6_receive_8 : decode cX6_receive 8 = .ok (.iand, 1) := by decide +kernel
theorem dX6_receive_9 : decode cX6_receive 9 = .ok (.invokevirtual 107, 3) := by decide +kernel
theorem dX6_receive_12 : decode cX6_receive 12 = .ok (.ireturn, 1) := by decide +kernel
theorem dX6_sent_0 : decode cX6_sent 0 = .ok (.aload_n 0, 1) := by decide +kernel
theorem dX6_sent_1 : decode cX6_sent 1 = .ok (.getfield 10, 3) := by decide +kernel
theorem dX6_sent_4 : decode cX6_sent 4 = .ok (.getfield 110, 3) := by decide +kernel
theorem dX6_sent_7 : decode cX6_sent 7 = .ok (.ireturn, 1) := by decide +kernel
set_option maxRecDepth 20000 in
theorem ggX6_sentByte_X4_sentAt : GoodIn wsX6_sentByte wsX4_sentAt := goodIn_r _ [6, 7, 8, 14, 15, 16, 17, 18, 19, 20, 21, 22, 23, 24, 25, 26, 27, 28, 29] rfl (by decide +kernel)
set_option maxRecDepth 20000 in
theorem gX6_sentByte_X4_sentAt : GoodIn wsX6_sentByte (wsV RX6 113 RX4 yX4_sentAt wsX4_sentAt) := goodIn_app (goodIn_of _ (by decide +kernel)) ggX6_sentByte_X4_sentAt
theorem dX6_sentByte_0 : decode cX6_sentByte 0 = .ok (.aload_n 0, 1) := by decide +kernel
theorem dX6_sentByte_1 : decode cX6_sentByte 1 = .ok (.getfield 10, 3) := by decide +kernel
theorem dX6_sentByte_4 : decode cX6_sentByte 4 = .ok (.iload_n 1, 1) := by decide +kernel
theorem dX6_sentByte_5 : decode cX6_sentByte 5 = .ok (.invokevirtual 113, 3) := by decide +kernel
theorem dX6_sentByte_8 : decode cX6_sentByte 8 = .ok (.ireturn, 1) := by decide +kernel
set_option maxRecDepth 20000 in
theorem ggX6_pins_X6_sideOf : GoodIn wsX6_pins wsX6_sideOf := goodIn_r _ [6, 7, 8, 16, 17, 18, 19, 20] rfl (by decide +kernel)
set_option maxRecDepth 20000 in
theorem gX6_pins_X6_sideOf : GoodIn wsX6_pins (wsV RX6 116 RX6 yX6_sideOf wsX6_sideOf) := goodIn_app (goodIn_of _ (by decide +kernel)) ggX6_pins_X6_sideOf
theorem dX6_pins_0 : decode cX6_pins 0 = .ok (.aload_n 0, 1) := by decide +kernel
theorem dX6_pins_1 : decode cX6_pins 1 = .ok (.iload_n 1, 1) := by decide +kernel
theorem dX6_pins_2 : decode cX6_pins 2 = .ok (.invokevirtual 116, 3) := by decide +kernel
theorem dX6_pins_5 : decode cX6_pins 5 = .ok (.astore_n 3, 1) := by decide +kernel
theorem dX6_pins_6 : decode cX6_pins 6 = .ok (.aload_n 3, 1) := by decide +kernel
theorem dX6_pins_7 : decode cX6_pins 7 = .ok (.ifnonnull 5, 3) := by decide +kernel
theorem dX6_pins_10 : decode cX6_pins 10 = .ok (.iconst 0, 1) := by decide +kernel
theorem dX6_pins_11 : decode cX6_pins 11 = .ok (.ireturn, 1) := by decide +kernel
theorem dX6_pins_12 : decode cX6_pins 12 = .ok (.aload_n 3, 1) := by decide +kernel
theorem dX6_pins_13 : decode cX6_pins 13 = .ok (.iload_n 2, 1) := by decide +kernel
theorem dX6_pins_14 : decode cX6_pins 14 = .ok (.sipush 255, 3) := by decide +kernel
theorem dX6_pins_17 : decode cX6_pins 17 = .ok (.iand, 1) := by decide +kernel
theorem dX6_pins_18 : decode cX6_pins 18 = .ok (.putfield 120, 3) := by decide +kernel
theorem dX6_pins_21 : decode cX6_pins 21 = .ok (.iconst 1, 1) := by decide +kernel
theorem dX6_pins_22 : decode cX6_pins 22 = .ok (.ireturn, 1) := by decide +kernel
set_option maxRecDepth 20000 in
theorem ggX6_line_X6_sideOf : GoodIn wsX6_line wsX6_sideOf := goodIn_r _ [5, 6, 7, 32, 33, 34, 35, 36] rfl (by decide +kernel)
set_option maxRecDepth 20000 in
theorem gX6_line_X6_sideOf : GoodIn wsX6_line (wsV RX6 116 RX6 yX6_sideOf wsX6_sideOf) := goodIn_app (goodIn_of _ (by decide +kernel)) ggX6_line_X6_sideOf
set_option maxRecDepth 20000 in
theorem ggX6_line_X5_setFirstLine : GoodIn wsX6_line wsX5_setFirstLine := goodIn_r _ [12, 13, 14, 15, 16, 17, 18, 11, 19, 20, 21, 22, 23, 37, 38, 39, 40, 41, 42, 43] rfl (by decide +kernel)
set_option maxRecDepth 20000 in
theorem gX6_line_X5_setFirstLine : GoodIn wsX6_line (wsV RX6 123 RX5 yX5_setFirstLine wsX5_setFirstLine) := goodIn_app (goodIn_of _ (by decide +kernel)) ggX6_line_X5_setFirstLine
set_option maxRecDepth 20000 in
theorem ggX6_line_X5_secondLineIsOutput : GoodIn wsX6_line wsX5_secondLineIsOutput := goodIn_r _ [27, 14, 37, 38, 39, 40, 41, 42, 43] rfl (by decide +kernel)
set_option maxRecDepth 20000 in
theorem gX6_line_X5_secondLineIsOutput : GoodIn wsX6_line (wsV RX6 127 RX5 yX5_secondLineIsOutput wsX5_secondLineIsOutput) := goodIn_app (goodIn_of _ (by decide +kernel)) ggX6_line_X5_secondLineIsOutput
set_option maxRecDepth 20000 in
theorem ggX6_line_X5_setSecondLine : GoodIn wsX6_line wsX5_setSecondLine := goodIn_r _ [31, 15, 14, 16, 17, 18, 11, 19, 37, 38, 39, 40, 41, 42, 43] rfl (by decide +kernel)
set_option maxRecDepth 20000 in
theorem gX6_line_X5_setSecondLine : GoodIn wsX6_line (wsV RX6 130 RX5 yX5_setSecondLine wsX5_setSecondLine) := goodIn_app (goodIn_of _ (by decide +kernel)) ggX6_line_X5_setSecondLine
theorem dX6_line_0 : decode cX6_line 0 = .ok (.aload_n 0, 1) := by decide +kernel
theorem dX6_line_1 : decode cX6_line 1 = .ok (.iload_n 1, 1) := by decide +kernel
theorem dX6_line_2 : decode cX6_line 2 = .ok (.invokevirtual 116, 3) := by decide +kernel
theorem dX6_line_5 : decode cX6_line 5 = .ok (.astore 4, 2) := by decide +kernel
theorem dX6_line_7 : decode cX6_line 7 = .ok (.aload 4, 2) := by decide +kernel
theorem dX6_line_9 : decode cX6_line 9 = .ok (.ifnonnull 5, 3) := by decide +kernel
theorem dX6_line_12 : decode cX6_line 12 = .ok (.iconst 0, 1) := by decide +kernel
theorem dX6_line_13 : decode cX6_line 13 = .ok (.ireturn, 1) := by decide +kernel
theorem dX6_line_14 : decode cX6_line 14 = .ok (.iload_n 3, 1) := by decide +kernel
theorem dX6_line_15 : decode cX6_line 15 = .ok (.ifCond .eq 7, 3) := by decide +kernel
theorem dX6_line_18 : decode cX6_line 18 = .ok (.iconst 1, 1) := by decide +kernel
theorem dX6_line_19 : decode cX6_line 19 = .ok (.goto 4, 3) := by decide +kernel
theorem dX6_line_22 : decode cX6_line 22 = .ok (.iconst 0, 1) := by decide +kernel
theorem dX6_line_23 : decode cX6_line 23 = .ok (.istore 5, 2) := by decide +kernel
theorem dX6_line_25 : decode cX6_line 25 = .ok (.iload_n 2, 1) := by decide +kernel
theorem dX6_line_26 : decode cX6_line 26 = .ok (.iconst 1, 1) := by decide +kernel
theorem dX6_line_27 : decode cX6_line 27 = .ok (.if_icmp .ne 12, 3) := by decide +kernel
theorem dX6_line_30 : decode cX6_line 30 = .ok (.aload 4, 2) := by decide +kernel
theorem dX6_line_32 : decode cX6_line 32 = .ok (.iload 5, 2) := by decide +kernel
theorem dX6_line_34 : decode cX6_line 34 = .ok (.invokevirtual 123, 3) := by decide +kernel
theorem dX6_line_37 : decode cX6_line 37 = .ok (.iconst 1, 1) := by decide +kernel
theorem dX6_line_38 : decode cX6_line 38 = .ok (.ireturn, 1) := by decide +kernel
theorem dX6_line_39 : decode cX6_line 39 = .ok (.iload_n 2, 1) := by decide +kernel
theorem dX6_line_40 : decode cX6_line 40 = .ok (.iconst 2, 1) := by decide +kernel
theorem dX6_line_41 : decode cX6_line 41 = .ok (.if_icmp .ne 11, 3) := by decide +kernel
theorem dX6_line_44 : decode cX6_line 44 = .ok (.aload 4, 2) := by decide +kernel
theorem dX6_line_46 : decode cX6_line 46 = .ok (.invokevirtual 127, 3) := by decide +kernel
theorem dX6_line_49 : decode cX6_line 49 = .ok (.ifCond .eq 5, 3) := by decide +kernel
theorem dX6_line_52 : decode cX6_line 52 = .ok (.iconst 0, 1) := by decide +kernel
theorem dX6_line_53 : decode cX6_line 53 = .ok (.ireturn, 1) := by decide +kernel
theorem dX6_line_54 : decode cX6_line 54 = .ok (.aload 4, 2) := by decide +kernel
theorem dX6_line_56 : decode cX6_line 56 = .ok (.iload 5, 2) := by decide +kernel
theorem dX6_line_58 : decode cX6_line 58 = .ok (.invokevirtual 130, 3) := by decide +kernel
theorem dX6_line_61 : decode cX6_line 61 = .ok (.iconst 1, 1) := by decide +kernel
theorem dX6_line_62 : decode cX6_line 62 = .ok (.ireturn, 1) := by decide +kernel
set_option maxRecDepth 20000 in
theorem ggX6_port_X6_sideOf : GoodIn wsX6_port wsX6_sideOf := goodIn_r _ [11, 12, 13, 21, 22, 23, 24, 25] rfl (by decide +kernel)
set_option maxRecDepth 20000 in
theorem gX6_port_X6_sideOf : GoodIn wsX6_port (wsV RX6 116 RX6 yX6_sideOf wsX6_sideOf) := goodIn_app (goodIn_of _ (by decide +kernel)) ggX6_port_X6_sideOf
theorem dX6_port_0 : decode cX6_port 0 = .ok (.aload_n 0, 1) := by decide +kernel
theorem dX6_port_1 : decode cX6_port 1 = .ok (.iload_n 1, 1) := by decide +kernel
theorem dX6_port_2 : decode cX6_port 2 = .ok (.invokevirtual 116, 3) := by decide +kernel
theorem dX6_port_5 : decode cX6_port 5 = .ok (.astore_n 3, 1) := by decide +kernel
theorem dX6_port_6 : decode cX6_port 6 = .ok (.aload_n 3, 1) := by decide +kernel
theorem dX6_port_7 : decode cX6_port 7 = .ok (.ifnonnull 5, 3) := by decide +kernel
theorem dX6_port_10 : decode cX6_port 10 = .ok (.iconst (-1), 1) := by decide +kernel
theorem dX6_port_11 : decode cX6_port 11 = .ok (.ireturn, 1) := by decide +kernel
theorem dX6_port_12 : decode cX6_port 12 = .ok (.iload_n 2, 1) := by decide +kernel
theorem dX6_port_13 : decode cX6_port 13 = .ok (.tableswitch 74 0 5 #[39, 49, 54, 59, 64, 69], 39) := by decide +kernel
theorem dX6_port_52 : decode cX6_port 52 = .ok (.aload_n 3, 1) := by decide +kernel
theorem dX6_port_53 : decode cX6_port 53 = .ok (.getfield 133, 3) := by decide +kernel
theorem dX6_port_56 : decode cX6_port 56 = .ok (.aload_n 3, 1) := by decide +kernel
theorem dX6_port_57 : decode cX6_port 57 = .ok (.getfield 136, 3) := by decide +kernel
theorem dX6_port_60 : decode cX6_port 60 = .ok (.iand, 1) := by decide +kernel
theorem dX6_port_61 : decode cX6_port 61 = .ok (.ireturn, 1) := by decide +kernel
theorem dX6_port_62 : decode cX6_port 62 = .ok (.aload_n 3, 1) := by decide +kernel
theorem dX6_port_63 : decode cX6_port 63 = .ok (.getfield 136, 3) := by decide +kernel
theorem dX6_port_66 : decode cX6_port 66 = .ok (.ireturn, 1) := by decide +kernel
theorem dX6_port_67 : decode cX6_port 67 = .ok (.aload_n 3, 1) := by decide +kernel
theorem dX6_port_68 : decode cX6_port 68 = .ok (.getfield 139, 3) := by decide +kernel
theorem dX6_port_71 : decode cX6_port 71 = .ok (.ireturn, 1) := by decide +kernel
theorem dX6_port_72 : decode cX6_port 72 = .ok (.aload_n 3, 1) := by decide +kernel
theorem dX6_port_73 : decode cX6_port 73 = .ok (.getfield 142, 3) := by decide +kernel
theorem dX6_port_76 : decode cX6_port 76 = .ok (.ireturn, 1) := by decide +kernel
theorem dX6_port_77 : decode cX6_port 77 = .ok (.aload_n 3, 1) := by decide +kernel
theorem dX6_port_78 : decode cX6_port 78 = .ok (.getfield 145, 3) := by decide +kernel
theorem dX6_port_81 : decode cX6_port 81 = .ok (.ireturn, 1) := by decide +kernel
theorem dX6_port_82 : decode cX6_port 82 = .ok (.aload_n 3, 1) := by decide +kernel
theorem dX6_port_83 : decode cX6_port 83 = .ok (.getfield 120, 3) := by decide +kernel
theorem dX6_port_86 : decode cX6_port 86 = .ok (.ireturn, 1) := by decide +kernel
theorem dX6_port_87 : decode cX6_port 87 = .ok (.iconst (-1), 1) := by decide +kernel
theorem dX6_port_88 : decode cX6_port 88 = .ok (.ireturn, 1) := by decide +kernel
set_option maxRecDepth 20000 in
theorem ggX6_serial_X4_status : GoodIn wsX6_serial wsX4_status := goodIn_r _ [10, 11, 12, 13, 14, 15, 16, 9, 17, 18, 19, 25, 26, 27, 28, 29, 30, 31, 32, 33, 34, 35, 36, 37, 38, 39, 40] rfl (by decide +kernel)
set_option maxRecDepth 20000 in
theorem gX6_serial_X4_status : GoodIn wsX6_serial (wsV RX6 148 RX4 yX4_status wsX4_status) := goodIn_app (goodIn_of _ (by decide +kernel)) ggX6_serial_X4_status
theorem dX6_serial_0 : decode cX6_serial 0 = .ok (.iload_n 1, 1) := by decide +kernel
theorem dX6_serial_1 : decode cX6_serial 1 = .ok (.tableswitch 75 0 4 #[35, 43, 51, 59, 67], 35) := by decide +kernel
theorem dX6_serial_36 : decode cX6_serial 36 = .ok (.aload_n 0, 1) := by decide +kernel
theorem dX6_serial_37 : decode cX6_serial 37 = .ok (.getfield 10, 3) := by decide +kernel
theorem dX6_serial_40 : decode cX6_serial 40 = .ok (.invokevirtual 148, 3) := by decide +kernel
theorem dX6_serial_43 : decode cX6_serial 43 = .ok (.ireturn, 1) := by decide +kernel
theorem dX6_serial_44 : decode cX6_serial 44 = .ok (.aload_n 0, 1) := by decide +kernel
theorem dX6_serial_45 : decode cX6_serial 45 = .ok (.getfield 10, 3) := by decide +kernel
theorem dX6_serial_48 : decode cX6_serial 48 = .ok (.getfield 152, 3) := by decide +kernel
theorem dX6_serial_51 : decode cX6_serial 51 = .ok (.ireturn, 1) := by decide +kernel
theorem dX6_serial_52 : decode cX6_serial 52 = .ok (.aload_n 0, 1) := by decide +kernel
theorem dX6_serial_53 : decode cX6_serial 53 = .ok (.getfield 10, 3) := by decide +kernel
theorem dX6_serial_56 : decode cX6_serial 56 = .ok (.getfield 155, 3) := by decide +kernel
theorem dX6_serial_59 : decode cX6_serial 59 = .ok (.ireturn, 1) := by decide +kernel
theorem dX6_serial_60 : decode cX6_serial 60 = .ok (.aload_n 0, 1) := by decide +kernel
theorem dX6_serial_61 : decode cX6_serial 61 = .ok (.getfield 10, 3) := by decide +kernel
theorem dX6_serial_64 : decode cX6_serial 64 = .ok (.getfield 158, 3) := by decide +kernel
theorem dX6_serial_67 : decode cX6_serial 67 = .ok (.ireturn, 1) := by decide +kernel
theorem dX6_serial_68 : decode cX6_serial 68 = .ok (.aload_n 0, 1) := by decide +kernel
theorem dX6_serial_69 : decode cX6_serial 69 = .ok (.getfield 10, 3) := by decide +kernel
theorem dX6_serial_72 : decode cX6_serial 72 = .ok (.getfield 161, 3) := by decide +kernel
theorem dX6_serial_75 : decode cX6_serial 75 = .ok (.ireturn, 1) := by decide +kernel
theorem dX6_serial_76 : decode cX6_serial 76 = .ok (.iconst (-1), 1) := by decide +kernel
theorem dX6_serial_77 : decode cX6_serial 77 = .ok (.ireturn, 1) := by decide +kernel
theorem dX6_sideOf_0 : decode cX6_sideOf 0 = .ok (.iload_n 1, 1) := by decide +kernel
theorem dX6_sideOf_1 : decode cX6_sideOf 1 = .ok (.ifCond .ne 8, 3) := by decide +kernel
theorem dX6_sideOf_4 : decode cX6_sideOf 4 = .ok (.aload_n 0, 1) := by decide +kernel
theorem dX6_sideOf_5 : decode cX6_sideOf 5 = .ok (.getfield 21, 3) := by decide +kernel
theorem dX6_sideOf_8 : decode cX6_sideOf 8 = .ok (.areturn, 1) := by decide +kernel
theorem dX6_sideOf_9 : decode cX6_sideOf 9 = .ok (.iload_n 1, 1) := by decide +kernel
theorem dX6_sideOf_10 : decode cX6_sideOf 10 = .ok (.iconst 1, 1) := by decide +kernel
theorem dX6_sideOf_11 : decode cX6_sideOf 11 = .ok (.if_icmp .ne 10, 3) := by decide +kernel
theorem dX6_sideOf_14 : decode cX6_sideOf 14 = .ok (.aload_n 0, 1) := by decide +kernel
theorem dX6_sideOf_15 : decode cX6_sideOf 15 = .ok (.getfield 25, 3) := by decide +kernel
theorem dX6_sideOf_18 : decode cX6_sideOf 18 = .ok (.goto 4, 3) := by decide +kernel
theorem dX6_sideOf_21 : decode cX6_sideOf 21 = .ok (.aconst_null, 1) := by decide +kernel
theorem dX6_sideOf_22 : decode cX6_sideOf 22 = .ok (.areturn, 1) := by decide +kernel
theorem dX7_init_0 : decode cX7_init 0 = .ok (.aload_n 0, 1) := by decide +kernel
theorem dX7_init_1 : decode cX7_init 1 = .ok (.invokespecial 1, 3) := by decide +kernel
theorem dX7_init_4 : decode cX7_init 4 = .ok (.aload_n 0, 1) := by decide +kernel
theorem dX7_init_5 : decode cX7_init 5 = .ok (.sipush 1024, 3) := by decide +kernel
theorem dX7_init_8 : decode cX7_init 8 = .ok (.newarray .int, 2) := by decide +kernel
theorem dX7_init_10 : decode cX7_init 10 = .ok (.putfield 7, 3) := by decide +kernel
theorem dX7_init_13 : decode cX7_init 13 = .ok (.aload_n 0, 1) := by decide +kernel
theorem dX7_init_14 : decode cX7_init 14 = .ok (.sipush 1024, 3) := by decide +kernel
theorem dX7_init_17 : decode cX7_init 17 = .ok (.newarray .int, 2) := by decide +kernel
theorem dX7_init_19 : decode cX7_init 19 = .ok (.putfield 13, 3) := by decide +kernel
theorem dX7_init_22 : decode cX7_init 22 = .ok (.aload_n 0, 1) := by decide +kernel
theorem dX7_init_23 : decode cX7_init 23 = .ok (.iconst 2, 1) := by decide +kernel
theorem dX7_init_24 : decode cX7_init 24 = .ok (.newarray .int, 2) := by decide +kernel
theorem dX7_init_26 : decode cX7_init 26 = .ok (.putfield 16, 3) := by decide +kernel
theorem dX7_init_29 : decode cX7_init 29 = .ok (.aload_n 0, 1) := by decide +kernel
theorem dX7_init_30 : decode cX7_init 30 = .ok (.iconst 2, 1) := by decide +kernel
theorem dX7_init_31 : decode cX7_init 31 = .ok (.newarray .int, 2) := by decide +kernel
theorem dX7_init_33 : decode cX7_init 33 = .ok (.putfield 19, 3) := by decide +kernel
theorem dX7_init_36 : decode cX7_init 36 = .ok (.aload_n 0, 1) := by decide +kernel
theorem dX7_init_37 : decode cX7_init 37 = .ok (.iconst 2, 1) := by decide +kernel
theorem dX7_init_38 : decode cX7_init 38 = .ok (.newarray .int, 2) := by decide +kernel
theorem dX7_init_40 : decode cX7_init 40 = .ok (.putfield 22, 3) := by decide +kernel
theorem dX7_init_43 : decode cX7_init 43 = .ok (.aload_n 0, 1) := by decide +kernel
theorem dX7_init_44 : decode cX7_init 44 = .ok (.iconst 2, 1) := by decide +kernel
theorem dX7_init_45 : decode cX7_init 45 = .ok (.newarray .int, 2) := by decide +kernel
theorem dX7_init_47 : decode cX7_init 47 = .ok (.putfield 25, 3) := by decide +kernel
theorem dX7_init_50 : decode cX7_init 50 = .ok (.aload_n 0, 1) := by decide +kernel
theorem dX7_init_51 : decode cX7_init 51 = .ok (.iconst 2, 1) := by decide +kernel
theorem dX7_init_52 : decode cX7_init 52 = .ok (.newarray .int, 2) := by decide +kernel
theorem dX7_init_54 : decode cX7_init 54 = .ok (.putfield 28, 3) := by decide +kernel
theorem dX7_init_57 : decode cX7_init 57 = .ok (.aload_n 0, 1) := by decide +kernel
theorem dX7_init_58 : decode cX7_init 58 = .ok (.iconst 2, 1) := by decide +kernel
theorem dX7_init_59 : decode cX7_init 59 = .ok (.newarray .int, 2) := by decide +kernel
theorem dX7_init_61 : decode cX7_init 61 = .ok (.putfield 31, 3) := by decide +kernel
theorem dX7_init_64 : decode cX7_init 64 = .ok (.aload_n 0, 1) := by decide +kernel
theorem dX7_init_65 : decode cX7_init 65 = .ok (.iconst 1, 1) := by decide +kernel
theorem dX7_init_66 : decode cX7_init 66 = .ok (.putfield 34, 3) := by decide +kernel
theorem dX7_init_69 : decode cX7_init 69 = .ok (.aload_n 0, 1) := by decide +kernel
theorem dX7_init_70 : decode cX7_init 70 = .ok (.bipush 64, 2) := by decide +kernel
theorem dX7_init_72 : decode cX7_init 72 = .ok (.newarray .int, 2) := by decide +kernel
theorem dX7_init_74 : decode cX7_init 74 = .ok (.putfield 38, 3) := by decide +kernel
theorem dX7_init_77 : decode cX7_init 77 = .ok (.aload_n 0, 1) := by decide +kernel
theorem dX7_init_78 : decode cX7_init 78 = .ok (.sipush 256, 3) := by decide +kernel
theorem dX7_init_81 : decode cX7_init 81 = .ok (.newarray .int, 2) := by decide +kernel
theorem dX7_init_83 : decode cX7_init 83 = .ok (.putfield 41, 3) := by decide +kernel
theorem dX7_init_86 : decode cX7_init 86 = .ok (.return_, 1) := by decide +kernel
theorem dX7_bytesTime_0 : decode cX7_bytesTime 0 = .ok (.aload_n 0, 1) := by decide +kernel
theorem dX7_bytesTime_1 : decode cX7_bytesTime 1 = .ok (.getfield 44, 3) := by decide +kernel
theorem dX7_bytesTime_4 : decode cX7_bytesTime 4 = .ok (.iconst 3, 1) := by decide +kernel
theorem dX7_bytesTime_5 : decode cX7_bytesTime 5 = .ok (.iand, 1) := by decide +kernel
theorem dX7_bytesTime_6 : decode cX7_bytesTime 6 = .ok (.ifCond .ne 7, 3) := by decide +kernel
theorem dX7_bytesTime_9 : decode cX7_bytesTime 9 = .ok (.iconst 1, 1) := by decide +kernel
theorem dX7_bytesTime_10 : decode cX7_bytesTime 10 = .ok (.goto 20, 3) := by decide +kernel
theorem dX7_bytesTime_13 : decode cX7_bytesTime 13 = .ok (.aload_n 0, 1) := by decide +kernel
theorem dX7_bytesTime_14 : decode cX7_bytesTime 14 = .ok (.getfield 44, 3) := by decide +kernel
theorem dX7_bytesTime_17 : decode cX7_bytesTime 17 = .ok (.iconst 3, 1) := by decide +kernel
theorem dX7_bytesTime_18 : decode cX7_bytesTime 18 = .ok (.iand, 1) := by decide +kernel
theorem dX7_bytesTime_19 : decode cX7_bytesTime 19 = .ok (.iconst 1, 1) := by decide +kernel
theorem dX7_bytesTime_20 : decode cX7_bytesTime 20 = .ok (.if_icmp .ne 8, 3) := by decide +kernel
theorem dX7_bytesTime_23 : decode cX7_bytesTime 23 = .ok (.bipush 16, 2) := by decide +kernel
theorem dX7_bytesTime_25 : decode cX7_bytesTime 25 = .ok (.goto 5, 3) := by decide +kernel
theorem dX7_bytesTime_28 : decode cX7_bytesTime 28 = .ok (.bipush 64, 2) := by decide +kernel
theorem dX7_bytesTime_30 : decode cX7_bytesTime 30 = .ok (.ireturn, 1) := by decide +kernel
theorem dX7_serialAsks_0 : decode cX7_serialAsks 0 = .ok (.aload_n 0, 1) := by decide +kernel
theorem dX7_serialAsks_1 : decode cX7_serialAsks 1 = .ok (.getfield 34, 3) := by decide +kernel
theorem dX7_serialAsks_4 : decode cX7_serialAsks 4 = .ok (.ifCond .eq 5, 3) := by decide +kernel
theorem dX7_serialAsks_7 : decode cX7_serialAsks 7 = .ok (.iconst 0, 1) := by decide +kernel
theorem dX7_serialAsks_8 : decode cX7_serialAsks 8 = .ok (.ireturn, 1) := by decide +kernel
theorem dX7_serialAsks_9 : decode cX7_serialAsks 9 = .ok (.aload_n 0, 1) := by decide +kernel
theorem dX7_serialAsks_10 : decode cX7_serialAsks 10 = .ok (.getfield 44, 3) := by decide +kernel
theorem dX7_serialAsks_13 : decode cX7_serialAsks 13 = .ok (.bipush 96, 2) := by decide +kernel
theorem dX7_serialAsks_15 : decode cX7_serialAsks 15 = .ok (.iand, 1) := by decide +kernel
theorem dX7_serialAsks_16 : decode cX7_serialAsks 16 = .ok (.bipush 32, 2) := by decide +kernel
theorem dX7_serialAsks_18 : decode cX7_serialAsks 18 = .ok (.if_icmp .ne 10, 3) := by decide +kernel
theorem dX7_serialAsks_21 : decode cX7_serialAsks 21 = .ok (.aload_n 0, 1) := by decide +kernel
theorem dX7_serialAsks_22 : decode cX7_serialAsks 22 = .ok (.getfield 48, 3) := by decide +kernel
theorem dX7_serialAsks_25 : decode cX7_serialAsks 25 = .ok (.ifCond .eq 28, 3) := by decide +kernel
theorem dX7_serialAsks_28 : decode cX7_serialAsks 28 = .ok (.aload_n 0, 1) := by decide +kernel
theorem dX7_serialAsks_29 : decode cX7_serialAsks 29 = .ok (.getfield 44, 3) := by decide +kernel
theorem dX7_serialAsks_32 : decode cX7_serialAsks 32 = .ok (.sipush 128, 3) := by decide +kernel
theorem dX7_serialAsks_35 : decode cX7_serialAsks 35 = .ok (.iand, 1) := by decide +kernel
theorem dX7_serialAsks_36 : decode cX7_serialAsks 36 = .ok (.ifCond .eq 21, 3) := by decide +kernel
theorem dX7_serialAsks_39 : decode cX7_serialAsks 39 = .ok (.aload_n 0, 1) := by decide +kernel
theorem dX7_serialAsks_40 : decode cX7_serialAsks 40 = .ok (.getfield 51, 3) := by decide +kernel
theorem dX7_serialAsks_43 : decode cX7_serialAsks 43 = .ok (.ifCond .ne 10, 3) := by decide +kernel
theorem dX7_serialAsks_46 : decode cX7_serialAsks 46 = .ok (.aload_n 0, 1) := by decide +kernel
theorem dX7_serialAsks_47 : decode cX7_serialAsks 47 = .ok (.getfield 54, 3) := by decide +kernel
theorem dX7_serialAsks_50 : decode cX7_serialAsks 50 = .ok (.ifCond .eq 7, 3) := by decide +kernel
theorem dX7_serialAsks_53 : decode cX7_serialAsks 53 = .ok (.iconst 1, 1) := by decide +kernel
theorem dX7_serialAsks_54 : decode cX7_serialAsks 54 = .ok (.goto 4, 3) := by decide +kernel
theorem dX7_serialAsks_57 : decode cX7_serialAsks 57 = .ok (.iconst 0, 1) := by decide +kernel
theorem dX7_serialAsks_58 : decode cX7_serialAsks 58 = .ok (.ireturn, 1) := by decide +kernel
set_option maxRecDepth 20000 in
theorem ggX7_serialStatus_X7_serialAsks : GoodIn wsX7_serialStatus wsX7_serialAsks := goodIn_r _ [8, 9, 10, 2, 1, 3, 11, 12, 13, 14, 15, 16, 17, 18, 19, 20, 21, 22, 23, 24, 25, 26, 27, 28, 29, 30, 31, 32, 33, 34, 35, 36, 37, 38, 39, 40, 41] rfl (by decide +kernel)
set_option maxRecDepth 20000 in
theorem gX7_serialStatus_X7_serialAsks : GoodIn wsX7_serialStatus (wsV RX7 57 RX7 yX7_serialAsks wsX7_serialAsks) := goodIn_app (goodIn_of _ (by decide +kernel)) ggX7_serialStatus_X7_serialAsks
theorem dX7_serialStatus_0 : decode cX7_serialStatus 0 = .ok (.aload_n 0, 1) := by decide +kernel
theorem dX7_serialStatus_1 : decode cX7_serialStatus 1 = .ok (.getfield 51, 3) := by decide +kernel
theorem dX7_serialStatus_4 : decode cX7_serialStatus 4 = .ok (.ifCond .eq 7, 3) := by decide +kernel
theorem dX7_serialStatus_7 : decode cX7_serialStatus 7 = .ok (.iconst 1, 1) := by decide +kernel
theorem dX7_serialStatus_8 : decode cX7_serialStatus 8 = .ok (.goto 4, 3) := by decide +kernel
theorem dX7_serialStatus_11 : decode cX7_serialStatus 11 = .ok (.iconst 0, 1) := by decide +kernel
theorem dX7_serialStatus_12 : decode cX7_serialStatus 12 = .ok (.aload_n 0, 1) := by decide +kernel
theorem dX7_serialStatus_13 : decode cX7_serialStatus 13 = .ok (.getfield 48, 3) := by decide +kernel
theorem dX7_serialStatus_16 : decode cX7_serialStatus 16 = .ok (.ifCond .eq 7, 3) := by decide +kernel
theorem dX7_serialStatus_19 : decode cX7_serialStatus 19 = .ok (.iconst 0, 1) := by decide +kernel
theorem dX7_serialStatus_20 : decode cX7_serialStatus 20 = .ok (.goto 4, 3) := by decide +kernel
theorem dX7_serialStatus_23 : decode cX7_serialStatus 23 = .ok (.iconst 2, 1) := by decide +kernel
theorem dX7_serialStatus_24 : decode cX7_serialStatus 24 = .ok (.iadd, 1) := by decide +kernel
theorem dX7_serialStatus_25 : decode cX7_serialStatus 25 = .ok (.aload_n 0, 1) := by decide +kernel
theorem dX7_serialStatus_26 : decode cX7_serialStatus 26 = .ok (.getfield 54, 3) := by decide +kernel
theorem dX7_serialStatus_29 : decode cX7_serialStatus 29 = .ok (.ifCond .eq 8, 3) := by decide +kernel
theorem dX7_serialStatus_32 : decode cX7_serialStatus 32 = .ok (.bipush 32, 2) := by decide +kernel
theorem dX7_serialStatus_34 : decode cX7_serialStatus 34 = .ok (.goto 4, 3) := by decide +kernel
theorem dX7_serialStatus_37 : decode cX7_serialStatus 37 = .ok (.iconst 0, 1) := by decide +kernel
theorem dX7_serialStatus_38 : decode cX7_serialStatus 38 = .ok (.iadd, 1) := by decide +kernel
theorem dX7_serialStatus_39 : decode cX7_serialStatus 39 = .ok (.aload_n 0, 1) := by decide +kernel
theorem dX7_serialStatus_40 : decode cX7_serialStatus 40 = .ok (.invokevirtual 57, 3) := by decide +kernel
theorem dX7_serialStatus_43 : decode cX7_serialStatus 43 = .ok (.ifCond .eq 9, 3) := by decide +kernel
theorem dX7_serialStatus_46 : decode cX7_serialStatus 46 = .ok (.sipush 128, 3) := by decide +kernel
theorem dX7_serialStatus_49 : decode cX7_serialStatus 49 = .ok (.goto 4, 3) := by decide +kernel
theorem dX7_serialStatus_52 : decode cX7_serialStatus 52 = .ok (.iconst 0, 1) := by decide +kernel
theorem dX7_serialStatus_53 : decode cX7_serialStatus 53 = .ok (.iadd, 1) := by decide +kernel
theorem dX7_serialStatus_54 : decode cX7_serialStatus 54 = .ok (.ireturn, 1) := by decide +kernel
theorem dX7_writeSerialControl_0 : decode cX7_writeSerialControl 0 = .ok (.aload_n 0, 1) := by decide +kernel
theorem dX7_writeSerialControl_1 : decode cX7_writeSerialControl 1 = .ok (.iload_n 1, 1) := by decide +kernel
theorem dX7_writeSerialControl_2 : decode cX7_writeSerialControl 2 = .ok (.putfield 44, 3) := by decide +kernel
theorem dX7_writeSerialControl_5 : decode cX7_writeSerialControl 5 = .ok (.aload_n 0, 1) := by decide +kernel
theorem dX7_writeSerialControl_6 : decode cX7_writeSerialControl 6 = .ok (.iload_n 1, 1) := by decide +kernel
theorem dX7_writeSerialControl_7 : decode cX7_writeSerialControl 7 = .ok (.iconst 3, 1) := by decide +kernel
theorem dX7_writeSerialControl_8 : decode cX7_writeSerialControl 8 = .ok (.iand, 1) := by decide +kernel
theorem dX7_writeSerialControl_9 : decode cX7_writeSerialControl 9 = .ok (.iconst 3, 1) := by decide +kernel
theorem dX7_writeSerialControl_10 : decode cX7_writeSerialControl 10 = .ok (.if_icmp .ne 7, 3) := by decide +kernel
theorem dX7_writeSerialControl_13 : decode cX7_writeSerialControl 13 = .ok (.iconst 1, 1) := by decide +kernel
theorem dX7_writeSerialControl_14 : decode cX7_writeSerialControl 14 = .ok (.goto 4, 3) := by decide +kernel
theorem dX7_writeSerialControl_17 : decode cX7_writeSerialControl 17 = .ok (.iconst 0, 1) := by decide +kernel
theorem dX7_writeSerialControl_18 : decode cX7_writeSerialControl 18 = .ok (.putfield 34, 3) := by decide +kernel
theorem dX7_writeSerialControl_21 : decode cX7_writeSerialControl 21 = .ok (.aload_n 0, 1) := by decide +kernel
theorem dX7_writeSerialControl_22 : decode cX7_writeSerialControl 22 = .ok (.getfield 34, 3) := by decide +kernel
theorem dX7_writeSerialControl_25 : decode cX7_writeSerialControl 25 = .ok (.ifCond .ne 4, 3) := by decide +kernel
theorem dX7_writeSerialControl_28 : decode cX7_writeSerialControl 28 = .ok (.return_, 1) := by decide +kernel
theorem dX7_writeSerialControl_29 : decode cX7_writeSerialControl 29 = .ok (.aload_n 0, 1) := by decide +kernel
theorem dX7_writeSerialControl_30 : decode cX7_writeSerialControl 30 = .ok (.iconst 0, 1) := by decide +kernel
theorem dX7_writeSerialControl_31 : decode cX7_writeSerialControl 31 = .ok (.putfield 51, 3) := by decide +kernel
theorem dX7_writeSerialControl_34 : decode cX7_writeSerialControl 34 = .ok (.aload_n 0, 1) := by decide +kernel
theorem dX7_writeSerialControl_35 : decode cX7_writeSerialControl 35 = .ok (.iconst 0, 1) := by decide +kernel
theorem dX7_writeSerialControl_36 : decode cX7_writeSerialControl 36 = .ok (.putfield 54, 3) := by decide +kernel
theorem dX7_writeSerialControl_39 : decode cX7_writeSerialControl 39 = .ok (.aload_n 0, 1) := by decide +kernel
theorem dX7_writeSerialControl_40 : decode cX7_writeSerialControl 40 = .ok (.iconst 0, 1) := by decide +kernel
theorem dX7_writeSerialControl_41 : decode cX7_writeSerialControl 41 = .ok (.putfield 48, 3) := by decide +kernel
theorem dX7_writeSerialControl_44 : decode cX7_writeSerialControl 44 = .ok (.aload_n 0, 1) := by decide +kernel
theorem dX7_writeSerialControl_45 : decode cX7_writeSerialControl 45 = .ok (.iconst 0, 1) := by decide +kernel
theorem dX7_writeSerialControl_46 : decode cX7_writeSerialControl 46 = .ok (.putfield 61, 3) := by decide +kernel
theorem dX7_writeSerialControl_49 : decode cX7_writeSerialControl 49 = .ok (.aload_n 0, 1) := by decide +kernel
theorem dX7_writeSerialControl_50 : decode cX7_writeSerialControl 50 = .ok (.iconst 0, 1) := by decide +kernel
theorem dX7_writeSerialControl_51 : decode cX7_writeSerialControl 51 = .ok (.putfield 64, 3) := by decide +kernel
theorem dX7_writeSerialControl_54 : decode cX7_writeSerialControl 54 = .ok (.return_, 1) := by decide +kernel
set_option maxRecDepth 20000 in
theorem ggX7_comesIn_X7_bytesTime : GoodIn wsX7_comesIn wsX7_bytesTime := goodIn_r _ [12, 13, 14, 15, 16, 17, 18, 19, 20, 21, 22, 23, 24, 25, 26, 27, 28, 29, 30, 31, 32, 33, 34, 35, 36, 37, 38, 39, 40, 41, 42, 43, 44] rfl (by decide +kernel)
set_option maxRecDepth 20000 in
theorem gX7_comesIn_X7_bytesTime : GoodIn wsX7_comesIn (wsV RX7 76 RX7 yX7_bytesTime wsX7_bytesTime) := goodIn_app (goodIn_of _ (by decide +kernel)) ggX7_comesIn_X7_bytesTime
theorem dX7_comesIn_0 : decode cX7_comesIn 0 = .ok (.aload_n 0, 1) := by decide +kernel
theorem dX7_comesIn_1 : decode cX7_comesIn 1 = .ok (.getfield 61, 3) := by decide +kernel
theorem dX7_comesIn_4 : decode cX7_comesIn 4 = .ok (.ifCond .le 52, 3) := by decide +kernel
theorem dX7_comesIn_7 : decode cX7_comesIn 7 = .ok (.aload_n 0, 1) := by decide +kernel
theorem dX7_comesIn_8 : decode cX7_comesIn 8 = .ok (.dup, 1) := by decide +kernel
theorem dX7_comesIn_9 : decode cX7_comesIn 9 = .ok (.getfield 61, 3) := by decide +kernel
theorem dX7_comesIn_12 : decode cX7_comesIn 12 = .ok (.iconst 1, 1) := by decide +kernel
theorem dX7_comesIn_13 : decode cX7_comesIn 13 = .ok (.isub, 1) := by decide +kernel
theorem dX7_comesIn_14 : decode cX7_comesIn 14 = .ok (.putfield 61, 3) := by decide +kernel
theorem dX7_comesIn_17 : decode cX7_comesIn 17 = .ok (.aload_n 0, 1) := by decide +kernel
theorem dX7_comesIn_18 : decode cX7_comesIn 18 = .ok (.getfield 61, 3) := by decide +kernel
theorem dX7_comesIn_21 : decode cX7_comesIn 21 = .ok (.ifCond .le 4, 3) := by decide +kernel
theorem dX7_comesIn_24 : decode cX7_comesIn 24 = .ok (.return_, 1) := by decide +kernel
theorem dX7_comesIn_25 : decode cX7_comesIn 25 = .ok (.aload_n 0, 1) := by decide +kernel
theorem dX7_comesIn_26 : decode cX7_comesIn 26 = .ok (.getfield 51, 3) := by decide +kernel
theorem dX7_comesIn_29 : decode cX7_comesIn 29 = .ok (.ifCond .eq 11, 3) := by decide +kernel
theorem dX7_comesIn_32 : decode cX7_comesIn 32 = .ok (.aload_n 0, 1) := by decide +kernel
theorem dX7_comesIn_33 : decode cX7_comesIn 33 = .ok (.iconst 1, 1) := by decide +kernel
theorem dX7_comesIn_34 : decode cX7_comesIn 34 = .ok (.putfield 54, 3) := by decide +kernel
theorem dX7_comesIn_37 : decode cX7_comesIn 37 = .ok (.goto 84, 3) := by decide +kernel
theorem dX7_comesIn_40 : decode cX7_comesIn 40 = .ok (.aload_n 0, 1) := by decide +kernel
theorem dX7_comesIn_41 : decode cX7_comesIn 41 = .ok (.iconst 1, 1) := by decide +kernel
theorem dX7_comesIn_42 : decode cX7_comesIn 42 = .ok (.putfield 51, 3) := by decide +kernel
theorem dX7_comesIn_45 : decode cX7_comesIn 45 = .ok (.aload_n 0, 1) := by decide +kernel
theorem dX7_comesIn_46 : decode cX7_comesIn 46 = .ok (.aload_n 0, 1) := by decide +kernel
theorem dX7_comesIn_47 : decode cX7_comesIn 47 = .ok (.getfield 67, 3) := by decide +kernel
theorem dX7_comesIn_50 : decode cX7_comesIn 50 = .ok (.putfield 70, 3) := by decide +kernel
theorem dX7_comesIn_53 : decode cX7_comesIn 53 = .ok (.goto 68, 3) := by decide +kernel
theorem dX7_comesIn_56 : decode cX7_comesIn 56 = .ok (.aload_n 0, 1) := by decide +kernel
theorem dX7_comesIn_57 : decode cX7_comesIn 57 = .ok (.getfield 73, 3) := by decide +kernel
theorem dX7_comesIn_60 : decode cX7_comesIn 60 = .ok (.ifCond .le 61, 3) := by decide +kernel
theorem dX7_comesIn_63 : decode cX7_comesIn 63 = .ok (.aload_n 0, 1) := by decide +kernel
theorem dX7_comesIn_64 : decode cX7_comesIn 64 = .ok (.aload_n 0, 1) := by decide +kernel
theorem dX7_comesIn_65 : decode cX7_comesIn 65 = .ok (.getfield 38, 3) := by decide +kernel
theorem dX7_comesIn_68 : decode cX7_comesIn 68 = .ok (.iconst 0, 1) := by decide +kernel
theorem dX7_comesIn_69 : decode cX7_comesIn 69 = .ok (.iaload, 1) := by decide +kernel
theorem dX7_comesIn_70 : decode cX7_comesIn 70 = .ok (.putfield 67, 3) := by decide +kernel
theorem dX7_comesIn_73 : decode cX7_comesIn 73 = .ok (.aload_n 0, 1) := by decide +kernel
theorem dX7_comesIn_74 : decode cX7_comesIn 74 = .ok (.dup, 1) := by decide +kernel
theorem dX7_comesIn_75 : decode cX7_comesIn 75 = .ok (.getfield 73, 3) := by decide +kernel
theorem dX7_comesIn_78 : decode cX7_comesIn 78 = .ok (.iconst 1, 1) := by decide +kernel
theorem dX7_comesIn_79 : decode cX7_comesIn 79 = .ok (.isub, 1) := by decide +kernel
theorem dX7_comesIn_80 : decode cX7_comesIn 80 = .ok (.putfield 73, 3) := by decide +kernel
theorem dX7_comesIn_83 : decode cX7_comesIn 83 = .ok (.iconst 0, 1) := by decide +kernel
theorem dX7_comesIn_84 : decode cX7_comesIn 84 = .ok (.istore_n 1, 1) := by decide +kernel
theorem dX7_comesIn_85 : decode cX7_comesIn 85 = .ok (.iload_n 1, 1) := by decide +kernel
theorem dX7_comesIn_86 : decode cX7_comesIn 86 = .ok (.aload_n 0, 1) := by decide +kernel
theorem dX7_comesIn_87 : decode cX7_comesIn 87 = .ok (.getfield 73, 3) := by decide +kernel
theorem dX7_comesIn_90 : decode cX7_comesIn 90 = .ok (.if_icmp .ge 23, 3) := by decide +kernel
theorem dX7_comesIn_93 : decode cX7_comesIn 93 = .ok (.aload_n 0, 1) := by decide +kernel
theorem dX7_comesIn_94 : decode cX7_comesIn 94 = .ok (.getfield 38, 3) := by decide +kernel
theorem dX7_comesIn_97 : decode cX7_comesIn 97 = .ok (.iload_n 1, 1) := by decide +kernel
theorem dX7_comesIn_98 : decode cX7_comesIn 98 = .ok (.aload_n 0, 1) := by decide +kernel
theorem dX7_comesIn_99 : decode cX7_comesIn 99 = .ok (.getfield 38, 3) := by decide +kernel
theorem dX7_comesIn_102 : decode cX7_comesIn 102 = .ok (.iload_n 1, 1) := by decide +kernel
theorem dX7_comesIn_103 : decode cX7_comesIn 103 = .ok (.iconst 1, 1) := by decide +kernel
theorem dX7_comesIn_104 : decode cX7_comesIn 104 = .ok (.iadd, 1) := by decide +kernel
theorem dX7_comesIn_105 : decode cX7_comesIn 105 = .ok (.iaload, 1) := by decide +kernel
theorem dX7_comesIn_106 : decode cX7_comesIn 106 = .ok (.iastore, 1) := by decide +kernel
theorem dX7_comesIn_107 : decode cX7_comesIn 107 = .ok (.iinc 1 1, 3) := by decide +kernel
theorem dX7_comesIn_110 : decode cX7_comesIn 110 = .ok (.goto (-25), 3) := by decide +kernel
theorem dX7_comesIn_113 : decode cX7_comesIn 113 = .ok (.aload_n 0, 1) := by decide +kernel
theorem dX7_comesIn_114 : decode cX7_comesIn 114 = .ok (.aload_n 0, 1) := by decide +kernel
theorem dX7_comesIn_115 : decode cX7_comesIn 115 = .ok (.invokevirtual 76, 3) := by decide +kernel
theorem dX7_comesIn_118 : decode cX7_comesIn 118 = .ok (.putfield 61, 3) := by decide +kernel
theorem dX7_comesIn_121 : decode cX7_comesIn 121 = .ok (.return_, 1) := by decide +kernel
set_option maxRecDepth 20000 in
theorem ggX7_goesOut_X7_bytesTime : GoodIn wsX7_goesOut wsX7_bytesTime := goodIn_r _ [11, 12, 13, 14, 15, 16, 17, 18, 19, 20, 21, 22, 23, 24, 25, 26, 27, 28, 29, 30, 31, 32, 33, 34, 35, 36, 37, 38, 39, 40, 41, 42, 43] rfl (by decide +kernel)
set_option maxRecDepth 20000 in
theorem gX7_goesOut_X7_bytesTime : GoodIn wsX7_goesOut (wsV RX7 76 RX7 yX7_bytesTime wsX7_bytesTime) := goodIn_app (goodIn_of _ (by decide +kernel)) ggX7_goesOut_X7_bytesTime
theorem dX7_goesOut_0 : decode cX7_goesOut 0 = .ok (.aload_n 0, 1) := by decide +kernel
theorem dX7_goesOut_1 : decode cX7_goesOut 1 = .ok (.getfield 64, 3) := by decide +kernel
theorem dX7_goesOut_4 : decode cX7_goesOut 4 = .ok (.ifCond .le 57, 3) := by decide +kernel
theorem dX7_goesOut_7 : decode cX7_goesOut 7 = .ok (.aload_n 0, 1) := by decide +kernel
theorem dX7_goesOut_8 : decode cX7_goesOut 8 = .ok (.dup, 1) := by decide +kernel
theorem dX7_goesOut_9 : decode cX7_goesOut 9 = .ok (.getfield 64, 3) := by decide +kernel
theorem dX7_goesOut_12 : decode cX7_goesOut 12 = .ok (.iconst 1, 1) := by decide +kernel
theorem dX7_goesOut_13 : decode cX7_goesOut 13 = .ok (.isub, 1) := by decide +kernel
theorem dX7_goesOut_14 : decode cX7_goesOut 14 = .ok (.putfield 64, 3) := by decide +kernel
theorem dX7_goesOut_17 : decode cX7_goesOut 17 = .ok (.aload_n 0, 1) := by decide +kernel
theorem dX7_goesOut_18 : decode cX7_goesOut 18 = .ok (.getfield 64, 3) := by decide +kernel
theorem dX7_goesOut_21 : decode cX7_goesOut 21 = .ok (.ifCond .gt 13, 3) := by decide +kernel
theorem dX7_goesOut_24 : decode cX7_goesOut 24 = .ok (.aload_n 0, 1) := by decide +kernel
theorem dX7_goesOut_25 : decode cX7_goesOut 25 = .ok (.getfield 80, 3) := by decide +kernel
theorem dX7_goesOut_28 : decode cX7_goesOut 28 = .ok (.sipush 256, 3) := by decide +kernel
theorem dX7_goesOut_31 : decode cX7_goesOut 31 = .ok (.if_icmp .ne 4, 3) := by decide +kernel
theorem dX7_goesOut_34 : decode cX7_goesOut 34 = .ok (.return_, 1) := by decide +kernel
theorem dX7_goesOut_35 : decode cX7_goesOut 35 = .ok (.aload_n 0, 1) := by decide +kernel
theorem dX7_goesOut_36 : decode cX7_goesOut 36 = .ok (.getfield 41, 3) := by decide +kernel
theorem dX7_goesOut_39 : decode cX7_goesOut 39 = .ok (.aload_n 0, 1) := by decide +kernel
theorem dX7_goesOut_40 : decode cX7_goesOut 40 = .ok (.getfield 80, 3) := by decide +kernel
theorem dX7_goesOut_43 : decode cX7_goesOut 43 = .ok (.aload_n 0, 1) := by decide +kernel
theorem dX7_goesOut_44 : decode cX7_goesOut 44 = .ok (.getfield 83, 3) := by decide +kernel
theorem dX7_goesOut_47 : decode cX7_goesOut 47 = .ok (.iastore, 1) := by decide +kernel
theorem dX7_goesOut_48 : decode cX7_goesOut 48 = .ok (.aload_n 0, 1) := by decide +kernel
theorem dX7_goesOut_49 : decode cX7_goesOut 49 = .ok (.dup, 1) := by decide +kernel
theorem dX7_goesOut_50 : decode cX7_goesOut 50 = .ok (.getfield 80, 3) := by decide +kernel
theorem dX7_goesOut_53 : decode cX7_goesOut 53 = .ok (.iconst 1, 1) := by decide +kernel
theorem dX7_goesOut_54 : decode cX7_goesOut 54 = .ok (.iadd, 1) := by decide +kernel
theorem dX7_goesOut_55 : decode cX7_goesOut 55 = .ok (.putfield 80, 3) := by decide +kernel
theorem dX7_goesOut_58 : decode cX7_goesOut 58 = .ok (.goto 31, 3) := by decide +kernel
theorem dX7_goesOut_61 : decode cX7_goesOut 61 = .ok (.aload_n 0, 1) := by decide +kernel
theorem dX7_goesOut_62 : decode cX7_goesOut 62 = .ok (.getfield 48, 3) := by decide +kernel
theorem dX7_goesOut_65 : decode cX7_goesOut 65 = .ok (.ifCond .eq 24, 3) := by decide +kernel
theorem dX7_goesOut_68 : decode cX7_goesOut 68 = .ok (.aload_n 0, 1) := by decide +kernel
theorem dX7_goesOut_69 : decode cX7_goesOut 69 = .ok (.aload_n 0, 1) := by decide +kernel
theorem dX7_goesOut_70 : decode cX7_goesOut 70 = .ok (.getfield 86, 3) := by decide +kernel
theorem dX7_goesOut_73 : decode cX7_goesOut 73 = .ok (.putfield 83, 3) := by decide +kernel
theorem dX7_goesOut_76 : decode cX7_goesOut 76 = .ok (.aload_n 0, 1) := by decide +kernel
theorem dX7_goesOut_77 : decode cX7_goesOut 77 = .ok (.iconst 0, 1) := by decide +kernel
theorem dX7_goesOut_78 : decode cX7_goesOut 78 = .ok (.putfield 48, 3) := by decide +kernel
theorem dX7_goesOut_81 : decode cX7_goesOut 81 = .ok (.aload_n 0, 1) := by decide +kernel
theorem dX7_goesOut_82 : decode cX7_goesOut 82 = .ok (.aload_n 0, 1) := by decide +kernel
theorem dX7_goesOut_83 : decode cX7_goesOut 83 = .ok (.invokevirtual 76, 3) := by decide +kernel
theorem dX7_goesOut_86 : decode cX7_goesOut 86 = .ok (.putfield 64, 3) := by decide +kernel
theorem dX7_goesOut_89 : decode cX7_goesOut 89 = .ok (.return_, 1) := by decide +kernel
theorem dX7_answers_0 : decode cX7_answers 0 = .ok (.aload_n 0, 1) := by decide +kernel
theorem dX7_answers_1 : decode cX7_answers 1 = .ok (.getfield 22, 3) := by decide +kernel
theorem dX7_answers_4 : decode cX7_answers 4 = .ok (.iload_n 1, 1) := by decide +kernel
theorem dX7_answers_5 : decode cX7_answers 5 = .ok (.iaload, 1) := by decide +kernel
theorem dX7_answers_6 : decode cX7_answers 6 = .ok (.bipush 48, 2) := by decide +kernel
theorem dX7_answers_8 : decode cX7_answers 8 = .ok (.iand, 1) := by decide +kernel
theorem dX7_answers_9 : decode cX7_answers 9 = .ok (.bipush 32, 2) := by decide +kernel
theorem dX7_answers_11 : decode cX7_answers 11 = .ok (.if_icmp .ne 7, 3) := by decide +kernel
theorem dX7_answers_14 : decode cX7_answers 14 = .ok (.iconst 1, 1) := by decide +kernel
theorem dX7_answers_15 : decode cX7_answers 15 = .ok (.goto 4, 3) := by decide +kernel
theorem dX7_answers_18 : decode cX7_answers 18 = .ok (.iconst 0, 1) := by decide +kernel
theorem dX7_answers_19 : decode cX7_answers 19 = .ok (.ireturn, 1) := by decide +kernel
set_option maxRecDepth 20000 in
theorem ggX7_writeSideControl_X7_answers : GoodIn wsX7_writeSideControl wsX7_answers := goodIn_r _ [7, 1, 8, 9, 10, 11, 12, 13, 14, 15, 16, 17, 18, 19, 20, 21, 22, 23, 24, 25, 26, 27, 28, 29, 30, 31, 32, 33, 34, 35, 36, 37, 38] rfl (by decide +kernel)
set_option maxRecDepth 20000 in
theorem gX7_writeSideControl_X7_answers : GoodIn wsX7_writeSideControl (wsV RX7 89 RX7 yX7_answers wsX7_answers) := goodIn_app (goodIn_of _ (by decide +kernel)) ggX7_writeSideControl_X7_answers
theorem dX7_writeSideControl_0 : decode cX7_writeSideControl 0 = .ok (.aload_n 0, 1) := by decide +kernel
theorem dX7_writeSideControl_1 : decode cX7_writeSideControl 1 = .ok (.getfield 22, 3) := by decide +kernel
theorem dX7_writeSideControl_4 : decode cX7_writeSideControl 4 = .ok (.iload_n 1, 1) := by decide +kernel
theorem dX7_writeSideControl_5 : decode cX7_writeSideControl 5 = .ok (.aload_n 0, 1) := by decide +kernel
theorem dX7_writeSideControl_6 : decode cX7_writeSideControl 6 = .ok (.getfield 22, 3) := by decide +kernel
theorem dX7_writeSideControl_9 : decode cX7_writeSideControl 9 = .ok (.iload_n 1, 1) := by decide +kernel
theorem dX7_writeSideControl_10 : decode cX7_writeSideControl 10 = .ok (.iaload, 1) := by decide +kernel
theorem dX7_writeSideControl_11 : decode cX7_writeSideControl 11 = .ok (.sipush 192, 3) := by decide +kernel
theorem dX7_writeSideControl_14 : decode cX7_writeSideControl 14 = .ok (.iand, 1) := by decide +kernel
theorem dX7_writeSideControl_15 : decode cX7_writeSideControl 15 = .ok (.iload_n 2, 1) := by decide +kernel
theorem dX7_writeSideControl_16 : decode cX7_writeSideControl 16 = .ok (.bipush 63, 2) := by decide +kernel
theorem dX7_writeSideControl_18 : decode cX7_writeSideControl 18 = .ok (.iand, 1) := by decide +kernel
theorem dX7_writeSideControl_19 : decode cX7_writeSideControl 19 = .ok (.ior, 1) := by decide +kernel
theorem dX7_writeSideControl_20 : decode cX7_writeSideControl 20 = .ok (.iastore, 1) := by decide +kernel
theorem dX7_writeSideControl_21 : decode cX7_writeSideControl 21 = .ok (.aload_n 0, 1) := by decide +kernel
theorem dX7_writeSideControl_22 : decode cX7_writeSideControl 22 = .ok (.iload_n 1, 1) := by decide +kernel
theorem dX7_writeSideControl_23 : decode cX7_writeSideControl 23 = .ok (.invokevirtual 89, 3) := by decide +kernel
theorem dX7_writeSideControl_26 : decode cX7_writeSideControl 26 = .ok (.ifCond .eq 13, 3) := by decide +kernel
theorem dX7_writeSideControl_29 : decode cX7_writeSideControl 29 = .ok (.aload_n 0, 1) := by decide +kernel
theorem dX7_writeSideControl_30 : decode cX7_writeSideControl 30 = .ok (.getfield 31, 3) := by decide +kernel
theorem dX7_writeSideControl_33 : decode cX7_writeSideControl 33 = .ok (.iload_n 1, 1) := by decide +kernel
theorem dX7_writeSideControl_34 : decode cX7_writeSideControl 34 = .ok (.iconst 1, 1) := by decide +kernel
theorem dX7_writeSideControl_35 : decode cX7_writeSideControl 35 = .ok (.iastore, 1) := by decide +kernel
theorem dX7_writeSideControl_36 : decode cX7_writeSideControl 36 = .ok (.goto 21, 3) := by decide +kernel
theorem dX7_writeSideControl_39 : decode cX7_writeSideControl 39 = .ok (.iload_n 2, 1) := by decide +kernel
theorem dX7_writeSideControl_40 : decode cX7_writeSideControl 40 = .ok (.bipush 32, 2) := by decide +kernel
theorem dX7_writeSideControl_42 : decode cX7_writeSideControl 42 = .ok (.iand, 1) := by decide +kernel
theorem dX7_writeSideControl_43 : decode cX7_writeSideControl 43 = .ok (.ifCond .eq 14, 3) := by decide +kernel
theorem dX7_writeSideControl_46 : decode cX7_writeSideControl 46 = .ok (.aload_n 0, 1) := by decide +kernel
theorem dX7_writeSideControl_47 : decode cX7_writeSideControl 47 = .ok (.getfield 31, 3) := by decide +kernel
theorem dX7_writeSideControl_50 : decode cX7_writeSideControl 50 = .ok (.iload_n 1, 1) := by decide +kernel
theorem dX7_writeSideControl_51 : decode cX7_writeSideControl 51 = .ok (.iload_n 2, 1) := by decide +kernel
theorem dX7_writeSideControl_52 : decode cX7_writeSideControl 52 = .ok (.iconst 3, 1) := by decide +kernel
theorem dX7_writeSideControl_53 : decode cX7_writeSideControl 53 = .ok (.ishr, 1) := by decide +kernel
theorem dX7_writeSideControl_54 : decode cX7_writeSideControl 54 = .ok (.iconst 1, 1) := by decide +kernel
theorem dX7_writeSideControl_55 : decode cX7_writeSideControl 55 = .ok (.iand, 1) := by decide +kernel
theorem dX7_writeSideControl_56 : decode cX7_writeSideControl 56 = .ok (.iastore, 1) := by decide +kernel
theorem dX7_writeSideControl_57 : decode cX7_writeSideControl 57 = .ok (.return_, 1) := by decide +kernel
set_option maxRecDepth 20000 in
theorem ggX7_readSide_X7_answers : GoodIn wsX7_readSide wsX7_answers := goodIn_r _ [10, 1, 11, 12, 13, 14, 15, 16, 17, 18, 19, 20, 21, 22, 23, 24, 25, 26, 27, 28, 29, 30, 31, 32, 33, 34, 35, 36, 37, 38, 39, 40, 41] rfl (by decide +kernel)
set_option maxRecDepth 20000 in
theorem gX7_readSide_X7_answers : GoodIn wsX7_readSide (wsV RX7 89 RX7 yX7_answers wsX7_answers) := goodIn_app (goodIn_of _ (by decide +kernel)) ggX7_readSide_X7_answers
theorem dX7_readSide_0 : decode cX7_readSide 0 = .ok (.aload_n 0, 1) := by decide +kernel
theorem dX7_readSide_1 : decode cX7_readSide 1 = .ok (.getfield 22, 3) := by decide +kernel
theorem dX7_readSide_4 : decode cX7_readSide 4 = .ok (.iload_n 1, 1) := by decide +kernel
theorem dX7_readSide_5 : decode cX7_readSide 5 = .ok (.iaload, 1) := by decide +kernel
theorem dX7_readSide_6 : decode cX7_readSide 6 = .ok (.iconst 4, 1) := by decide +kernel
theorem dX7_readSide_7 : decode cX7_readSide 7 = .ok (.iand, 1) := by decide +kernel
theorem dX7_readSide_8 : decode cX7_readSide 8 = .ok (.ifCond .ne 10, 3) := by decide +kernel
theorem dX7_readSide_11 : decode cX7_readSide 11 = .ok (.aload_n 0, 1) := by decide +kernel
theorem dX7_readSide_12 : decode cX7_readSide 12 = .ok (.getfield 19, 3) := by decide +kernel
theorem dX7_readSide_15 : decode cX7_readSide 15 = .ok (.iload_n 1, 1) := by decide +kernel
theorem dX7_readSide_16 : decode cX7_readSide 16 = .ok (.iaload, 1) := by decide +kernel
theorem dX7_readSide_17 : decode cX7_readSide 17 = .ok (.ireturn, 1) := by decide +kernel
theorem dX7_readSide_18 : decode cX7_readSide 18 = .ok (.aload_n 0, 1) := by decide +kernel
theorem dX7_readSide_19 : decode cX7_readSide 19 = .ok (.getfield 22, 3) := by decide +kernel
theorem dX7_readSide_22 : decode cX7_readSide 22 = .ok (.iload_n 1, 1) := by decide +kernel
theorem dX7_readSide_23 : decode cX7_readSide 23 = .ok (.dup2, 1) := by decide +kernel
theorem dX7_readSide_24 : decode cX7_readSide 24 = .ok (.iaload, 1) := by decide +kernel
theorem dX7_readSide_25 : decode cX7_readSide 25 = .ok (.bipush 63, 2) := by decide +kernel
theorem dX7_readSide_27 : decode cX7_readSide 27 = .ok (.iand, 1) := by decide +kernel
theorem dX7_readSide_28 : decode cX7_readSide 28 = .ok (.iastore, 1) := by decide +kernel
theorem dX7_readSide_29 : decode cX7_readSide 29 = .ok (.iload_n 1, 1) := by decide +kernel
theorem dX7_readSide_30 : decode cX7_readSide 30 = .ok (.ifCond .ne 18, 3) := by decide +kernel
theorem dX7_readSide_33 : decode cX7_readSide 33 = .ok (.aload_n 0, 1) := by decide +kernel
theorem dX7_readSide_34 : decode cX7_readSide 34 = .ok (.iconst 0, 1) := by decide +kernel
theorem dX7_readSide_35 : decode cX7_readSide 35 = .ok (.invokevirtual 89, 3) := by decide +kernel
theorem dX7_readSide_38 : decode cX7_readSide 38 = .ok (.ifCond .eq 10, 3) := by decide +kernel
theorem dX7_readSide_41 : decode cX7_readSide 41 = .ok (.aload_n 0, 1) := by decide +kernel
theorem dX7_readSide_42 : decode cX7_readSide 42 = .ok (.getfield 31, 3) := by decide +kernel
theorem dX7_readSide_45 : decode cX7_readSide 45 = .ok (.iconst 0, 1) := by decide +kernel
theorem dX7_readSide_46 : decode cX7_readSide 46 = .ok (.iconst 0, 1) := by decide +kernel
theorem dX7_readSide_47 : decode cX7_readSide 47 = .ok (.iastore, 1) := by decide +kernel
theorem dX7_readSide_48 : decode cX7_readSide 48 = .ok (.aload_n 0, 1) := by decide +kernel
theorem dX7_readSide_49 : decode cX7_readSide 49 = .ok (.getfield 16, 3) := by decide +kernel
theorem dX7_readSide_52 : decode cX7_readSide 52 = .ok (.iload_n 1, 1) := by decide +kernel
theorem dX7_readSide_53 : decode cX7_readSide 53 = .ok (.iaload, 1) := by decide +kernel
theorem dX7_readSide_54 : decode cX7_readSide 54 = .ok (.aload_n 0, 1) := by decide +kernel
theorem dX7_readSide_55 : decode cX7_readSide 55 = .ok (.getfield 19, 3) := by decide +kernel
theorem dX7_readSide_58 : decode cX7_readSide 58 = .ok (.iload_n 1, 1) := by decide +kernel
theorem dX7_readSide_59 : decode cX7_readSide 59 = .ok (.iaload, 1) := by decide +kernel
theorem dX7_readSide_60 : decode cX7_readSide 60 = .ok (.iand, 1) := by decide +kernel
theorem dX7_readSide_61 : decode cX7_readSide 61 = .ok (.aload_n 0, 1) := by decide +kernel
theorem dX7_readSide_62 : decode cX7_readSide 62 = .ok (.getfield 25, 3) := by decide +kernel
theorem dX7_readSide_65 : decode cX7_readSide 65 = .ok (.iload_n 1, 1) := by decide +kernel
theorem dX7_readSide_66 : decode cX7_readSide 66 = .ok (.iaload, 1) := by decide +kernel
theorem dX7_readSide_67 : decode cX7_readSide 67 = .ok (.aload_n 0, 1) := by decide +kernel
theorem dX7_readSide_68 : decode cX7_readSide 68 = .ok (.getfield 19, 3) := by decide +kernel
theorem dX7_readSide_71 : decode cX7_readSide 71 = .ok (.iload_n 1, 1) := by decide +kernel
theorem dX7_readSide_72 : decode cX7_readSide 72 = .ok (.iaload, 1) := by decide +kernel
theorem dX7_readSide_73 : decode cX7_readSide 73 = .ok (.iconst (-1), 1) := by decide +kernel
theorem dX7_readSide_74 : decode cX7_readSide 74 = .ok (.ixor, 1) := by decide +kernel
theorem dX7_readSide_75 : decode cX7_readSide 75 = .ok (.iand, 1) := by decide +kernel
theorem dX7_readSide_76 : decode cX7_readSide 76 = .ok (.sipush 255, 3) := by decide +kernel
theorem dX7_readSide_79 : decode cX7_readSide 79 = .ok (.iand, 1) := by decide +kernel
theorem dX7_readSide_80 : decode cX7_readSide 80 = .ok (.ior, 1) := by decide +kernel
theorem dX7_readSide_81 : decode cX7_readSide 81 = .ok (.ireturn, 1) := by decide +kernel
set_option maxRecDepth 20000 in
theorem ggX7_writeSide_X7_answers : GoodIn wsX7_writeSide wsX7_answers := goodIn_r _ [9, 1, 10, 11, 12, 13, 14, 15, 16, 17, 18, 19, 20, 21, 22, 23, 24, 25, 26, 27, 28, 29, 30, 31, 32, 33, 34, 35, 36, 37, 38, 39, 40] rfl (by decide +kernel)
set_option maxRecDepth 20000 in
theorem gX7_writeSide_X7_answers : GoodIn wsX7_writeSide (wsV RX7 89 RX7 yX7_answers wsX7_answers) := goodIn_app (goodIn_of _ (by decide +kernel)) ggX7_writeSide_X7_answers
theorem dX7_writeSide_0 : decode cX7_writeSide 0 = .ok (.aload_n 0, 1) := by decide +kernel
theorem dX7_writeSide_1 : decode cX7_writeSide 1 = .ok (.getfield 22, 3) := by decide +kernel
theorem dX7_writeSide_4 : decode cX7_writeSide 4 = .ok (.iload_n 1, 1) := by decide +kernel
theorem dX7_writeSide_5 : decode cX7_writeSide 5 = .ok (.iaload, 1) := by decide +kernel
theorem dX7_writeSide_6 : decode cX7_writeSide 6 = .ok (.iconst 4, 1) := by decide +kernel
theorem dX7_writeSide_7 : decode cX7_writeSide 7 = .ok (.iand, 1) := by decide +kernel
theorem dX7_writeSide_8 : decode cX7_writeSide 8 = .ok (.ifCond .ne 11, 3) := by decide +kernel
theorem dX7_writeSide_11 : decode cX7_writeSide 11 = .ok (.aload_n 0, 1) := by decide +kernel
theorem dX7_writeSide_12 : decode cX7_writeSide 12 = .ok (.getfield 19, 3) := by decide +kernel
theorem dX7_writeSide_15 : decode cX7_writeSide 15 = .ok (.iload_n 1, 1) := by decide +kernel
theorem dX7_writeSide_16 : decode cX7_writeSide 16 = .ok (.iload_n 2, 1) := by decide +kernel
theorem dX7_writeSide_17 : decode cX7_writeSide 17 = .ok (.iastore, 1) := by decide +kernel
theorem dX7_writeSide_18 : decode cX7_writeSide 18 = .ok (.return_, 1) := by decide +kernel
theorem dX7_writeSide_19 : decode cX7_writeSide 19 = .ok (.aload_n 0, 1) := by decide +kernel
theorem dX7_writeSide_20 : decode cX7_writeSide 20 = .ok (.getfield 16, 3) := by decide +kernel
theorem dX7_writeSide_23 : decode cX7_writeSide 23 = .ok (.iload_n 1, 1) := by decide +kernel
theorem dX7_writeSide_24 : decode cX7_writeSide 24 = .ok (.iload_n 2, 1) := by decide +kernel
theorem dX7_writeSide_25 : decode cX7_writeSide 25 = .ok (.iastore, 1) := by decide +kernel
theorem dX7_writeSide_26 : decode cX7_writeSide 26 = .ok (.iload_n 1, 1) := by decide +kernel
theorem dX7_writeSide_27 : decode cX7_writeSide 27 = .ok (.iconst 1, 1) := by decide +kernel
theorem dX7_writeSide_28 : decode cX7_writeSide 28 = .ok (.if_icmp .ne 18, 3) := by decide +kernel
theorem dX7_writeSide_31 : decode cX7_writeSide 31 = .ok (.aload_n 0, 1) := by decide +kernel
theorem dX7_writeSide_32 : decode cX7_writeSide 32 = .ok (.iconst 1, 1) := by decide +kernel
theorem dX7_writeSide_33 : decode cX7_writeSide 33 = .ok (.invokevirtual 89, 3) := by decide +kernel
theorem dX7_writeSide_36 : decode cX7_writeSide 36 = .ok (.ifCond .eq 10, 3) := by decide +kernel
theorem dX7_writeSide_39 : decode cX7_writeSide 39 = .ok (.aload_n 0, 1) := by decide +kernel
theorem dX7_writeSide_40 : decode cX7_writeSide 40 = .ok (.getfield 31, 3) := by decide +kernel
theorem dX7_writeSide_43 : decode cX7_writeSide 43 = .ok (.iconst 1, 1) := by decide +kernel
theorem dX7_writeSide_44 : decode cX7_writeSide 44 = .ok (.iconst 0, 1) := by decide +kernel
theorem dX7_writeSide_45 : decode cX7_writeSide 45 = .ok (.iastore, 1) := by decide +kernel
theorem dX7_writeSide_46 : decode cX7_writeSide 46 = .ok (.return_, 1) := by decide +kernel
theorem dX7_sideAsks_0 : decode cX7_sideAsks 0 = .ok (.aload_n 0, 1) := by decide +kernel
theorem dX7_sideAsks_1 : decode cX7_sideAsks 1 = .ok (.getfield 22, 3) := by decide +kernel
theorem dX7_sideAsks_4 : decode cX7_sideAsks 4 = .ok (.iload_n 1, 1) := by decide +kernel
theorem dX7_sideAsks_5 : decode cX7_sideAsks 5 = .ok (.iaload, 1) := by decide +kernel
theorem dX7_sideAsks_6 : decode cX7_sideAsks 6 = .ok (.sipush 129, 3) := by decide +kernel
theorem dX7_sideAsks_9 : decode cX7_sideAsks 9 = .ok (.iand, 1) := by decide +kernel
theorem dX7_sideAsks_10 : decode cX7_sideAsks 10 = .ok (.sipush 129, 3) := by decide +kernel
theorem dX7_sideAsks_13 : decode cX7_sideAsks 13 = .ok (.if_icmp .eq 17, 3) := by decide +kernel
theorem dX7_sideAsks_16 : decode cX7_sideAsks 16 = .ok (.aload_n 0, 1) := by decide +kernel
theorem dX7_sideAsks_17 : decode cX7_sideAsks 17 = .ok (.getfield 22, 3) := by decide +kernel
theorem dX7_sideAsks_20 : decode cX7_sideAsks 20 = .ok (.iload_n 1, 1) := by decide +kernel
theorem dX7_sideAsks_21 : decode cX7_sideAsks 21 = .ok (.iaload, 1) := by decide +kernel
theorem dX7_sideAsks_22 : decode cX7_sideAsks 22 = .ok (.bipush 104, 2) := by decide +kernel
theorem dX7_sideAsks_24 : decode cX7_sideAsks 24 = .ok (.iand, 1) := by decide +kernel
theorem dX7_sideAsks_25 : decode cX7_sideAsks 25 = .ok (.bipush 72, 2) := by decide +kernel
theorem dX7_sideAsks_27 : decode cX7_sideAsks 27 = .ok (.if_icmp .ne 7, 3) := by decide +kernel
theorem dX7_sideAsks_30 : decode cX7_sideAsks 30 = .ok (.iconst 1, 1) := by decide +kernel
theorem dX7_sideAsks_31 : decode cX7_sideAsks 31 = .ok (.goto 4, 3) := by decide +kernel
theorem dX7_sideAsks_34 : decode cX7_sideAsks 34 = .ok (.iconst 0, 1) := by decide +kernel
theorem dX7_sideAsks_35 : decode cX7_sideAsks 35 = .ok (.ireturn, 1) := by decide +kernel
set_option maxRecDepth 20000 in
theorem ggX7_endPulses_X7_answers : GoodIn wsX7_endPulses wsX7_answers := goodIn_r _ [7, 1, 8, 9, 10, 11, 12, 13, 14, 15, 16, 17, 18, 19, 20, 21, 22, 23, 24, 25, 26, 27, 28, 29, 30, 31, 32, 33, 34, 35, 36, 37, 38] rfl (by decide +kernel)
set_option maxRecDepth 20000 in
theorem gX7_endPulses_X7_answers : GoodIn wsX7_endPulses (wsV RX7 89 RX7 yX7_answers wsX7_answers) := goodIn_app (goodIn_of _ (by decide +kernel)) ggX7_endPulses_X7_answers
theorem dX7_endPulses_0 : decode cX7_endPulses 0 = .ok (.iconst 0, 1) := by decide +kernel
theorem dX7_endPulses_1 : decode cX7_endPulses 1 = .ok (.istore_n 1, 1) := by decide +kernel
theorem dX7_endPulses_2 : decode cX7_endPulses 2 = .ok (.iload_n 1, 1) := by decide +kernel
theorem dX7_endPulses_3 : decode cX7_endPulses 3 = .ok (.iconst 2, 1) := by decide +kernel
theorem dX7_endPulses_4 : decode cX7_endPulses 4 = .ok (.if_icmp .ge 36, 3) := by decide +kernel
theorem dX7_endPulses_7 : decode cX7_endPulses 7 = .ok (.aload_n 0, 1) := by decide +kernel
theorem dX7_endPulses_8 : decode cX7_endPulses 8 = .ok (.iload_n 1, 1) := by decide +kernel
theorem dX7_endPulses_9 : decode cX7_endPulses 9 = .ok (.invokevirtual 89, 3) := by decide +kernel
theorem dX7_endPulses_12 : decode cX7_endPulses 12 = .ok (.ifCond .eq 22, 3) := by decide +kernel
theorem dX7_endPulses_15 : decode cX7_endPulses 15 = .ok (.aload_n 0, 1) := by decide +kernel
theorem dX7_endPulses_16 : decode cX7_endPulses 16 = .ok (.getfield 22, 3) := by decide +kernel
theorem dX7_endPulses_19 : decode cX7_endPulses 19 = .ok (.iload_n 1, 1) := by decide +kernel
theorem dX7_endPulses_20 : decode cX7_endPulses 20 = .ok (.iaload, 1) := by decide +kernel
theorem dX7_endPulses_21 : decode cX7_endPulses 21 = .ok (.bipush 8, 2) := by decide +kernel
theorem dX7_endPulses_23 : decode cX7_endPulses 23 = .ok (.iand, 1) := by decide +kernel
theorem dX7_endPulses_24 : decode cX7_endPulses 24 = .ok (.ifCond .eq 10, 3) := by decide +kernel
theorem dX7_endPulses_27 : decode cX7_endPulses 27 = .ok (.aload_n 0, 1) := by decide +kernel
theorem dX7_endPulses_28 : decode cX7_endPulses 28 = .ok (.getfield 31, 3) := by decide +kernel
theorem dX7_endPulses_31 : decode cX7_endPulses 31 = .ok (.iload_n 1, 1) := by decide +kernel
theorem dX7_endPulses_32 : decode cX7_endPulses 32 = .ok (.iconst 1, 1) := by decide +kernel
theorem dX7_endPulses_33 : decode cX7_endPulses 33 = .ok (.iastore, 1) := by decide +kernel
theorem dX7_endPulses_34 : decode cX7_endPulses 34 = .ok (.iinc 1 1, 3) := by decide +kernel
theorem dX7_endPulses_37 : decode cX7_endPulses 37 = .ok (.goto (-35), 3) := by decide +kernel
theorem dX7_endPulses_40 : decode cX7_endPulses 40 = .ok (.return_, 1) := by decide +kernel
set_option maxRecDepth 20000 in
theorem ggX7_read_X7_readSide : GoodIn wsX7_read wsX7_readSide := goodIn_r _ [13, 5, 14, 15, 16, 17, 18, 19, 20, 12, 21, 33, 34, 35, 36, 37, 38, 39, 40, 41, 42, 43, 44, 45, 46, 47, 48, 49, 50, 51, 52, 53, 54, 55, 56, 57, 58, 59, 60, 61, 62, 63] rfl (by decide +kernel)
set_option maxRecDepth 20000 in
theorem gX7_read_X7_readSide : GoodIn wsX7_read (wsV RX7 95 RX7 yX7_readSide wsX7_readSide) := goodIn_app (goodIn_of _ (by decide +kernel)) ggX7_read_X7_readSide
set_option maxRecDepth 20000 in
theorem ggX7_read_X7_serialStatus : GoodIn wsX7_read wsX7_serialStatus := goodIn_r _ [25, 6, 26, 7, 27, 28, 29, 12, 30, 31, 32, 33, 34, 35, 36, 37, 38, 39, 40, 41, 42, 43, 44, 45, 46, 47, 48, 49, 50, 51, 52, 53, 54, 55, 56, 57, 58, 59, 60, 61, 62, 63] rfl (by decide +kernel)
set_option maxRecDepth 20000 in
theorem gX7_read_X7_serialStatus : GoodIn wsX7_read (wsV RX7 99 RX7 yX7_serialStatus wsX7_serialStatus) := goodIn_app (goodIn_of _ (by decide +kernel)) ggX7_read_X7_serialStatus
theorem dX7_read_0 : decode cX7_read 0 = .ok (.iload_n 1, 1) := by decide +kernel
theorem dX7_read_1 : decode cX7_read 1 = .ok (.ldc 93, 2) := by decide +kernel
theorem dX7_read_3 : decode cX7_read 3 = .ok (.iand, 1) := by decide +kernel
theorem dX7_read_4 : decode cX7_read 4 = .ok (.istore_n 2, 1) := by decide +kernel
theorem dX7_read_5 : decode cX7_read 5 = .ok (.iload_n 2, 1) := by decide +kernel
theorem dX7_read_6 : decode cX7_read 6 = .ok (.sipush 1024, 3) := by decide +kernel
theorem dX7_read_9 : decode cX7_read 9 = .ok (.if_icmp .ge 10, 3) := by decide +kernel
theorem dX7_read_12 : decode cX7_read 12 = .ok (.aload_n 0, 1) := by decide +kernel
theorem dX7_read_13 : decode cX7_read 13 = .ok (.getfield 7, 3) := by decide +kernel
theorem dX7_read_16 : decode cX7_read 16 = .ok (.iload_n 2, 1) := by decide +kernel
theorem dX7_read_17 : decode cX7_read 17 = .ok (.iaload, 1) := by decide +kernel
theorem dX7_read_18 : decode cX7_read 18 = .ok (.ireturn, 1) := by decide +kernel
theorem dX7_read_19 : decode cX7_read 19 = .ok (.iload_n 2, 1) := by decide +kernel
theorem dX7_read_20 : decode cX7_read 20 = .ok (.ldc 94, 2) := by decide +kernel
theorem dX7_read_22 : decode cX7_read 22 = .ok (.if_icmp .lt 13, 3) := by decide +kernel
theorem dX7_read_25 : decode cX7_read 25 = .ok (.aload_n 0, 1) := by decide +kernel
theorem dX7_read_26 : decode cX7_read 26 = .ok (.getfield 13, 3) := by decide +kernel
theorem dX7_read_29 : decode cX7_read 29 = .ok (.iload_n 2, 1) := by decide +kernel
theorem dX7_read_30 : decode cX7_read 30 = .ok (.ldc 94, 2) := by decide +kernel
theorem dX7_read_32 : decode cX7_read 32 = .ok (.isub, 1) := by decide +kernel
theorem dX7_read_33 : decode cX7_read 33 = .ok (.iaload, 1) := by decide +kernel
theorem dX7_read_34 : decode cX7_read 34 = .ok (.ireturn, 1) := by decide +kernel
theorem dX7_read_35 : decode cX7_read 35 = .ok (.iload_n 2, 1) := by decide +kernel
theorem dX7_read_36 : decode cX7_read 36 = .ok (.sipush 8192, 3) := by decide +kernel
theorem dX7_read_39 : decode cX7_read 39 = .ok (.if_icmp .lt 39, 3) := by decide +kernel
theorem dX7_read_42 : decode cX7_read 42 = .ok (.iload_n 2, 1) := by decide +kernel
theorem dX7_read_43 : decode cX7_read 43 = .ok (.sipush 8196, 3) := by decide +kernel
theorem dX7_read_46 : decode cX7_read 46 = .ok (.if_icmp .ge 32, 3) := by decide +kernel
theorem dX7_read_49 : decode cX7_read 49 = .ok (.iload_n 2, 1) := by decide +kernel
theorem dX7_read_50 : decode cX7_read 50 = .ok (.iconst 1, 1) := by decide +kernel
theorem dX7_read_51 : decode cX7_read 51 = .ok (.iand, 1) := by decide +kernel
theorem dX7_read_52 : decode cX7_read 52 = .ok (.ifCond .ne 15, 3) := by decide +kernel
theorem dX7_read_55 : decode cX7_read 55 = .ok (.aload_n 0, 1) := by decide +kernel
theorem dX7_read_56 : decode cX7_read 56 = .ok (.iload_n 2, 1) := by decide +kernel
theorem dX7_read_57 : decode cX7_read 57 = .ok (.iconst 1, 1) := by decide +kernel
theorem dX7_read_58 : decode cX7_read 58 = .ok (.ishr, 1) := by decide +kernel
theorem dX7_read_59 : decode cX7_read 59 = .ok (.iconst 1, 1) := by decide +kernel
theorem dX7_read_60 : decode cX7_read 60 = .ok (.iand, 1) := by decide +kernel
theorem dX7_read_61 : decode cX7_read 61 = .ok (.invokevirtual 95, 3) := by decide +kernel
theorem dX7_read_64 : decode cX7_read 64 = .ok (.goto 13, 3) := by decide +kernel
theorem dX7_read_67 : decode cX7_read 67 = .ok (.aload_n 0, 1) := by decide +kernel
theorem dX7_read_68 : decode cX7_read 68 = .ok (.getfield 22, 3) := by decide +kernel
theorem dX7_read_71 : decode cX7_read 71 = .ok (.iload_n 2, 1) := by decide +kernel
theorem dX7_read_72 : decode cX7_read 72 = .ok (.iconst 1, 1) := by decide +kernel
theorem dX7_read_73 : decode cX7_read 73 = .ok (.ishr, 1) := by decide +kernel
theorem dX7_read_74 : decode cX7_read 74 = .ok (.iconst 1, 1) := by decide +kernel
theorem dX7_read_75 : decode cX7_read 75 = .ok (.iand, 1) := by decide +kernel
theorem dX7_read_76 : decode cX7_read 76 = .ok (.iaload, 1) := by decide +kernel
theorem dX7_read_77 : decode cX7_read 77 = .ok (.ireturn, 1) := by decide +kernel
theorem dX7_read_78 : decode cX7_read 78 = .ok (.iload_n 2, 1) := by decide +kernel
theorem dX7_read_79 : decode cX7_read 79 = .ok (.sipush 8448, 3) := by decide +kernel
theorem dX7_read_82 : decode cX7_read 82 = .ok (.if_icmp .ne 8, 3) := by decide +kernel
theorem dX7_read_85 : decode cX7_read 85 = .ok (.aload_n 0, 1) := by decide +kernel
theorem dX7_read_86 : decode cX7_read 86 = .ok (.invokevirtual 99, 3) := by decide +kernel
theorem dX7_read_89 : decode cX7_read 89 = .ok (.ireturn, 1) := by decide +kernel
theorem dX7_read_90 : decode cX7_read 90 = .ok (.iload_n 2, 1) := by decide +kernel
theorem dX7_read_91 : decode cX7_read 91 = .ok (.sipush 8449, 3) := by decide +kernel
theorem dX7_read_94 : decode cX7_read 94 = .ok (.if_icmp .eq 5, 3) := by decide +kernel
theorem dX7_read_97 : decode cX7_read 97 = .ok (.iconst 0, 1) := by decide +kernel
theorem dX7_read_98 : decode cX7_read 98 = .ok (.ireturn, 1) := by decide +kernel
theorem dX7_read_99 : decode cX7_read 99 = .ok (.aload_n 0, 1) := by decide +kernel
theorem dX7_read_100 : decode cX7_read 100 = .ok (.iconst 0, 1) := by decide +kernel
theorem dX7_read_101 : decode cX7_read 101 = .ok (.putfield 51, 3) := by decide +kernel
theorem dX7_read_104 : decode cX7_read 104 = .ok (.aload_n 0, 1) := by decide +kernel
theorem dX7_read_105 : decode cX7_read 105 = .ok (.iconst 0, 1) := by decide +kernel
theorem dX7_read_106 : decode cX7_read 106 = .ok (.putfield 54, 3) := by decide +kernel
theorem dX7_read_109 : decode cX7_read 109 = .ok (.aload_n 0, 1) := by decide +kernel
theorem dX7_read_110 : decode cX7_read 110 = .ok (.getfield 70, 3) := by decide +kernel
theorem dX7_read_113 : decode cX7_read 113 = .ok (.ireturn, 1) := by decide +kernel
set_option maxRecDepth 20000 in
theorem ggX7_write_X7_writeSide : GoodIn wsX7_write wsX7_writeSide := goodIn_r _ [10, 11, 12, 13, 14, 15, 16, 17, 9, 18, 32, 33, 34, 35, 36, 37, 38, 39, 40, 41, 42, 43, 44, 45, 46, 47, 48, 49, 50, 51, 52, 53, 54, 55, 56, 57, 58, 59, 60, 61, 62] rfl (by decide +kernel)
set_option maxRecDepth 20000 in
theorem gX7_write_X7_writeSide : GoodIn wsX7_write (wsV RX7 102 RX7 yX7_writeSide wsX7_writeSide) := goodIn_app (goodIn_of _ (by decide +kernel)) ggX7_write_X7_writeSide
set_option maxRecDepth 20000 in
theorem ggX7_write_X7_writeSideControl : GoodIn wsX7_write wsX7_writeSideControl := goodIn_r _ [22, 11, 14, 15, 16, 17, 9, 18, 32, 33, 34, 35, 36, 37, 38, 39, 40, 41, 42, 43, 44, 45, 46, 47, 48, 49, 50, 51, 52, 53, 54, 55, 56, 57, 58, 59, 60, 61, 62] rfl (by decide +kernel)
set_option maxRecDepth 20000 in
theorem gX7_write_X7_writeSideControl : GoodIn wsX7_write (wsV RX7 106 RX7 yX7_writeSideControl wsX7_writeSideControl) := goodIn_app (goodIn_of _ (by decide +kernel)) ggX7_write_X7_writeSideControl
set_option maxRecDepth 20000 in
theorem ggX7_write_X7_writeSerialControl : GoodIn wsX7_write wsX7_writeSerialControl := goodIn_r _ [26, 27, 3, 28, 29, 5, 30, 31, 32, 33, 34, 35, 36, 37, 38, 39, 40, 41, 42, 43, 44, 45, 46, 47, 48, 49, 50, 51, 52, 53, 54, 55, 56, 57, 58, 59, 60, 61, 62] rfl (by decide +kernel)
set_option maxRecDepth 20000 in
theorem gX7_write_X7_writeSerialControl : GoodIn wsX7_write (wsV RX7 109 RX7 yX7_writeSerialControl wsX7_writeSerialControl) := goodIn_app (goodIn_of _ (by decide +kernel)) ggX7_write_X7_writeSerialControl
theorem dX7_write_0 : decode cX7_write 0 = .ok (.iload_n 1, 1) := by decide +kernel
theorem dX7_write_1 : decode cX7_write 1 = .ok (.ldc 93, 2) := by decide +kernel
theorem dX7_write_3 : decode cX7_write 3 = .ok (.iand, 1) := by decide +kernel
theorem dX7_write_4 : decode cX7_write 4 = .ok (.istore_n 3, 1) := by decide +kernel
theorem dX7_write_5 : decode cX7_write 5 = .ok (.iload_n 3, 1) := by decide +kernel
theorem dX7_write_6 : decode cX7_write 6 = .ok (.sipush 1024, 3) := by decide +kernel
theorem dX7_write_9 : decode cX7_write 9 = .ok (.if_icmp .ge 10, 3) := by decide +kernel
theorem dX7_write_12 : decode cX7_write 12 = .ok (.aload_n 0, 1) := by decide +kernel
theorem dX7_write_13 : decode cX7_write 13 = .ok (.getfield 7, 3) := by decide +kernel
theorem dX7_write_16 : decode cX7_write 16 = .ok (.iload_n 3, 1) := by decide +kernel
theorem dX7_write_17 : decode cX7_write 17 = .ok (.iload_n 2, 1) := by decide +kernel
theorem dX7_write_18 : decode cX7_write 18 = .ok (.iastore, 1) := by decide +kernel
theorem dX7_write_19 : decode cX7_write 19 = .ok (.iload_n 3, 1) := by decide +kernel
theorem dX7_write_20 : decode cX7_write 20 = .ok (.sipush 8192, 3) := by decide +kernel
theorem dX7_write_23 : decode cX7_write 23 = .ok (.if_icmp .lt 26, 3) := by decide +kernel
theorem dX7_write_26 : decode cX7_write 26 = .ok (.iload_n 3, 1) := by decide +kernel
theorem dX7_write_27 : decode cX7_write 27 = .ok (.sipush 8196, 3) := by decide +kernel
theorem dX7_write_30 : decode cX7_write 30 = .ok (.if_icmp .ge 19, 3) := by decide +kernel
theorem dX7_write_33 : decode cX7_write 33 = .ok (.iload_n 3, 1) := by decide +kernel
theorem dX7_write_34 : decode cX7_write 34 = .ok (.iconst 1, 1) := by decide +kernel
theorem dX7_write_35 : decode cX7_write 35 = .ok (.iand, 1) := by decide +kernel
theorem dX7_write_36 : decode cX7_write 36 = .ok (.ifCond .ne 13, 3) := by decide +kernel
theorem dX7_write_39 : decode cX7_write 39 = .ok (.aload_n 0, 1) := by decide +kernel
theorem dX7_write_40 : decode cX7_write 40 = .ok (.iload_n 3, 1) := by decide +kernel
theorem dX7_write_41 : decode cX7_write 41 = .ok (.iconst 1, 1) := by decide +kernel
theorem dX7_write_42 : decode cX7_write 42 = .ok (.ishr, 1) := by decide +kernel
theorem dX7_write_43 : decode cX7_write 43 = .ok (.iconst 1, 1) := by decide +kernel
theorem dX7_write_44 : decode cX7_write 44 = .ok (.iand, 1) := by decide +kernel
theorem dX7_write_45 : decode cX7_write 45 = .ok (.iload_n 2, 1) := by decide +kernel
theorem dX7_write_46 : decode cX7_write 46 = .ok (.invokevirtual 102, 3) := by decide +kernel
theorem dX7_write_49 : decode cX7_write 49 = .ok (.iload_n 3, 1) := by decide +kernel
theorem dX7_write_50 : decode cX7_write 50 = .ok (.sipush 8192, 3) := by decide +kernel
theorem dX7_write_53 : decode cX7_write 53 = .ok (.if_icmp .lt 27, 3) := by decide +kernel
theorem dX7_write_56 : decode cX7_write 56 = .ok (.iload_n 3, 1) := by decide +kernel
theorem dX7_write_57 : decode cX7_write 57 = .ok (.sipush 8196, 3) := by decide +kernel
theorem dX7_write_60 : decode cX7_write 60 = .ok (.if_icmp .ge 20, 3) := by decide +kernel
theorem dX7_write_63 : decode cX7_write 63 = .ok (.iload_n 3, 1) := by decide +kernel
theorem dX7_write_64 : decode cX7_write 64 = .ok (.iconst 1, 1) := by decide +kernel
theorem dX7_write_65 : decode cX7_write 65 = .ok (.iand, 1) := by decide +kernel
theorem dX7_write_66 : decode cX7_write 66 = .ok (.iconst 1, 1) := by decide +kernel
theorem dX7_write_67 : decode cX7_write 67 = .ok (.if_icmp .ne 13, 3) := by decide +kernel
theorem dX7_write_70 : decode cX7_write 70 = .ok (.aload_n 0, 1) := by decide +kernel
theorem dX7_write_71 : decode cX7_write 71 = .ok (.iload_n 3, 1) := by decide +kernel
theorem dX7_write_72 : decode cX7_write 72 = .ok (.iconst 1, 1) := by decide +kernel
theorem dX7_write_73 : decode cX7_write 73 = .ok (.ishr, 1) := by decide +kernel
theorem dX7_write_74 : decode cX7_write 74 = .ok (.iconst 1, 1) := by decide +kernel
theorem dX7_write_75 : decode cX7_write 75 = .ok (.iand, 1) := by decide +kernel
theorem dX7_write_76 : decode cX7_write 76 = .ok (.iload_n 2, 1) := by decide +kernel
theorem dX7_write_77 : decode cX7_write 77 = .ok (.invokevirtual 106, 3) := by decide +kernel
theorem dX7_write_80 : decode cX7_write 80 = .ok (.iload_n 3, 1) := by decide +kernel
theorem dX7_write_81 : decode cX7_write 81 = .ok (.sipush 8448, 3) := by decide +kernel
theorem dX7_write_84 : decode cX7_write 84 = .ok (.if_icmp .ne 8, 3) := by decide +kernel
theorem dX7_write_87 : decode cX7_write 87 = .ok (.aload_n 0, 1) := by decide +kernel
theorem dX7_write_88 : decode cX7_write 88 = .ok (.iload_n 2, 1) := by decide +kernel
theorem dX7_write_89 : decode cX7_write 89 = .ok (.invokevirtual 109, 3) := by decide +kernel
theorem dX7_write_92 : decode cX7_write 92 = .ok (.iload_n 3, 1) := by decide +kernel
theorem dX7_write_93 : decode cX7_write 93 = .ok (.sipush 8449, 3) := by decide +kernel
theorem dX7_write_96 : decode cX7_write 96 = .ok (.if_icmp .ne 20, 3) := by decide +kernel
theorem dX7_write_99 : decode cX7_write 99 = .ok (.aload_n 0, 1) := by decide +kernel
theorem dX7_write_100 : decode cX7_write 100 = .ok (.getfield 34, 3) := by decide +kernel
theorem dX7_write_103 : decode cX7_write 103 = .ok (.ifCond .ne 13, 3) := by decide +kernel
theorem dX7_write_106 : decode cX7_write 106 = .ok (.aload_n 0, 1) := by decide +kernel
theorem dX7_write_107 : decode cX7_write 107 = .ok (.iload_n 2, 1) := by decide +kernel
theorem dX7_write_108 : decode cX7_write 108 = .ok (.putfield 86, 3) := by decide +kernel
theorem dX7_write_111 : decode cX7_write 111 = .ok (.aload_n 0, 1) := by decide +kernel
theorem dX7_write_112 : decode cX7_write 112 = .ok (.iconst 1, 1) := by decide +kernel
theorem dX7_write_113 : decode cX7_write 113 = .ok (.putfield 48, 3) := by decide +kernel
theorem dX7_write_116 : decode cX7_write 116 = .ok (.return_, 1) := by decide +kernel
set_option maxRecDepth 20000 in
theorem ggX7_readWord_X7_read : GoodIn wsX7_readWord wsX7_read := goodIn_r _ [5, 6, 7, 8, 9, 10, 11, 12, 13, 14, 15, 16, 4, 17, 18, 19, 20, 21, 22, 23, 24, 25, 26, 27, 28, 29, 30, 31, 32, 33, 34, 35, 36, 37, 38, 39, 40, 41, 42, 43, 44, 45, 46, 47, 48, 49, 50, 51, 52, 53, 54, 55, 56, 57, 58, 59, 60, 61, 62, 63, 64, 65, 66, 67] rfl (by decide +kernel)
set_option maxRecDepth 20000 in
theorem gX7_readWord_X7_read : GoodIn wsX7_readWord (wsV RX7 113 RX7 yX7_read wsX7_read) := goodIn_app (goodIn_of _ (by decide +kernel)) ggX7_readWord_X7_read
theorem dX7_readWord_0 : decode cX7_readWord 0 = .ok (.aload_n 0, 1) := by decide +kernel
theorem dX7_readWord_1 : decode cX7_readWord 1 = .ok (.iload_n 1, 1) := by decide +kernel
theorem dX7_readWord_2 : decode cX7_readWord 2 = .ok (.invokevirtual 113, 3) := by decide +kernel
theorem dX7_readWord_5 : decode cX7_readWord 5 = .ok (.istore_n 2, 1) := by decide +kernel
theorem dX7_readWord_6 : decode cX7_readWord 6 = .ok (.iload_n 2, 1) := by decide +kernel
theorem dX7_readWord_7 : decode cX7_readWord 7 = .ok (.sipush 256, 3) := by decide +kernel
theorem dX7_readWord_10 : decode cX7_readWord 10 = .ok (.imul, 1) := by decide +kernel
theorem dX7_readWord_11 : decode cX7_readWord 11 = .ok (.aload_n 0, 1) := by decide +kernel
theorem dX7_readWord_12 : decode cX7_readWord 12 = .ok (.iload_n 1, 1) := by decide +kernel
theorem dX7_readWord_13 : decode cX7_readWord 13 = .ok (.iconst 1, 1) := by decide +kernel
theorem dX7_readWord_14 : decode cX7_readWord 14 = .ok (.iadd, 1) := by decide +kernel
theorem dX7_readWord_15 : decode cX7_readWord 15 = .ok (.invokevirtual 113, 3) := by decide +kernel
theorem dX7_readWord_18 : decode cX7_readWord 18 = .ok (.iadd, 1) := by decide +kernel
theorem dX7_readWord_19 : decode cX7_readWord 19 = .ok (.ireturn, 1) := by decide +kernel
set_option maxRecDepth 20000 in
theorem ggX7_writeWord_X7_write : GoodIn wsX7_writeWord wsX7_write := goodIn_r _ [5, 6, 7, 8, 9, 10, 11, 12, 13, 4, 14, 15, 16, 17, 18, 19, 20, 21, 22, 23, 24, 25, 26, 27, 28, 29, 30, 31, 32, 33, 34, 35, 36, 37, 38, 39, 40, 41, 42, 43, 44, 45, 46, 47, 48, 49, 50, 51, 52, 53, 54, 55, 56, 57, 58, 59, 60, 61, 62, 63, 64, 65, 66] rfl (by decide +kernel)
set_option maxRecDepth 20000 in
theorem gX7_writeWord_X7_write : GoodIn wsX7_writeWord (wsV RX7 116 RX7 yX7_write wsX7_write) := goodIn_app (goodIn_of _ (by decide +kernel)) ggX7_writeWord_X7_write
theorem dX7_writeWord_0 : decode cX7_writeWord 0 = .ok (.aload_n 0, 1) := by decide +kernel
theorem dX7_writeWord_1 : decode cX7_writeWord 1 = .ok (.iload_n 1, 1) := by decide +kernel
theorem dX7_writeWord_2 : decode cX7_writeWord 2 = .ok (.iload_n 2, 1) := by decide +kernel
theorem dX7_writeWord_3 : decode cX7_writeWord 3 = .ok (.bipush 8, 2) := by decide +kernel
theorem dX7_writeWord_5 : decode cX7_writeWord 5 = .ok (.ishr, 1) := by decide +kernel
theorem dX7_writeWord_6 : decode cX7_writeWord 6 = .ok (.sipush 255, 3) := by decide +kernel
theorem dX7_writeWord_9 : decode cX7_writeWord 9 = .ok (.iand, 1) := by decide +kernel
theorem dX7_writeWord_10 : decode cX7_writeWord 10 = .ok (.invokevirtual 116, 3) := by decide +kernel
theorem dX7_writeWord_13 : decode cX7_writeWord 13 = .ok (.aload_n 0, 1) := by decide +kernel
theorem dX7_writeWord_14 : decode cX7_writeWord 14 = .ok (.iload_n 1, 1) := by decide +kernel
theorem dX7_writeWord_15 : decode cX7_writeWord 15 = .ok (.iconst 1, 1) := by decide +kernel
theorem dX7_writeWord_16 : decode cX7_writeWord 16 = .ok (.iadd, 1) := by decide +kernel
theorem dX7_writeWord_17 : decode cX7_writeWord 17 = .ok (.iload_n 2, 1) := by decide +kernel
theorem dX7_writeWord_18 : decode cX7_writeWord 18 = .ok (.sipush 255, 3) := by decide +kernel
theorem dX7_writeWord_21 : decode cX7_writeWord 21 = .ok (.iand, 1) := by decide +kernel
theorem dX7_writeWord_22 : decode cX7_writeWord 22 = .ok (.invokevirtual 116, 3) := by decide +kernel
theorem dX7_writeWord_25 : decode cX7_writeWord 25 = .ok (.return_, 1) := by decide +kernel
set_option maxRecDepth 20000 in
theorem ggX7_next_X7_read : GoodIn wsX7_next wsX7_read := goodIn_r _ [7, 2, 8, 9, 10, 11, 12, 13, 14, 15, 16, 17, 6, 18, 19, 20, 21, 22, 23, 24, 25, 26, 27, 28, 29, 30, 31, 32, 33, 34, 35, 36, 37, 38, 39, 40, 41, 42, 43, 44, 45, 46, 47, 48, 49, 50, 51, 52, 53, 54, 55, 56, 57, 58, 59, 60, 61, 62, 63, 64, 65, 66, 67, 68] rfl (by decide +kernel)
set_option maxRecDepth 20000 in
theorem gX7_next_X7_read : GoodIn wsX7_next (wsV RX7 113 RX7 yX7_read wsX7_read) := goodIn_app (goodIn_of _ (by decide +kernel)) ggX7_next_X7_read
theorem dX7_next_0 : decode cX7_next 0 = .ok (.aload_n 0, 1) := by decide +kernel
theorem dX7_next_1 : decode cX7_next 1 = .ok (.aload_n 0, 1) := by decide +kernel
theorem dX7_next_2 : decode cX7_next 2 = .ok (.getfield 119, 3) := by decide +kernel
theorem dX7_next_5 : decode cX7_next 5 = .ok (.invokevirtual 113, 3) := by decide +kernel
theorem dX7_next_8 : decode cX7_next 8 = .ok (.istore_n 1, 1) := by decide +kernel
theorem dX7_next_9 : decode cX7_next 9 = .ok (.aload_n 0, 1) := by decide +kernel
theorem dX7_next_10 : decode cX7_next 10 = .ok (.aload_n 0, 1) := by decide +kernel
theorem dX7_next_11 : decode cX7_next 11 = .ok (.getfield 119, 3) := by decide +kernel
theorem dX7_next_14 : decode cX7_next 14 = .ok (.iconst 1, 1) := by decide +kernel
theorem dX7_next_15 : decode cX7_next 15 = .ok (.iadd, 1) := by decide +kernel
theorem dX7_next_16 : decode cX7_next 16 = .ok (.ldc 93, 2) := by decide +kernel
theorem dX7_next_18 : decode cX7_next 18 = .ok (.iand, 1) := by decide +kernel
theorem dX7_next_19 : decode cX7_next 19 = .ok (.putfield 119, 3) := by decide +kernel
theorem dX7_next_22 : decode cX7_next 22 = .ok (.iload_n 1, 1) := by decide +kernel
theorem dX7_next_23 : decode cX7_next 23 = .ok (.ireturn, 1) := by decide +kernel
set_option maxRecDepth 20000 in
theorem ggX7_nextWord_X7_next : GoodIn wsX7_nextWord wsX7_next := goodIn_r _ [5, 6, 7, 8, 9, 10, 4, 11, 12, 13, 14, 15, 16, 17, 18, 19, 20, 21, 22, 23, 24, 25, 26, 27, 28, 29, 30, 31, 32, 33, 34, 35, 36, 37, 38, 39, 40, 41, 42, 43, 44, 45, 46, 47, 48, 49, 50, 51, 52, 53, 54, 55, 56, 57, 58, 59, 60, 61, 62, 63, 64, 65, 66, 67, 68, 69, 70, 71, 72] rfl (by decide +kernel)
set_option maxRecDepth 20000 in
theorem gX7_nextWord_X7_next : GoodIn wsX7_nextWord (wsV RX7 122 RX7 yX7_next wsX7_next) := goodIn_app (goodIn_of _ (by decide +kernel)) ggX7_nextWord_X7_next
theorem dX7_nextWord_0 : decode cX7_nextWord 0 = .ok (.aload_n 0, 1) := by decide +kernel
theorem dX7_nextWord_1 : decode cX7_nextWord 1 = .ok (.invokevirtual 122, 3) := by decide +kernel
theorem dX7_nextWord_4 : decode cX7_nextWord 4 = .ok (.istore_n 1, 1) := by decide +kernel
theorem dX7_nextWord_5 : decode cX7_nextWord 5 = .ok (.iload_n 1, 1) := by decide +kernel
theorem dX7_nextWord_6 : decode cX7_nextWord 6 = .ok (.sipush 256, 3) := by decide +kernel
theorem dX7_nextWord_9 : decode cX7_nextWord 9 = .ok (.imul, 1) := by decide +kernel
theorem dX7_nextWord_10 : decode cX7_nextWord 10 = .ok (.aload_n 0, 1) := by decide +kernel
theorem dX7_nextWord_11 : decode cX7_nextWord 11 = .ok (.invokevirtual 122, 3) := by decide +kernel
theorem dX7_nextWord_14 : decode cX7_nextWord 14 = .ok (.iadd, 1) := by decide +kernel
theorem dX7_nextWord_15 : decode cX7_nextWord 15 = .ok (.ireturn, 1) := by decide +kernel
set_option maxRecDepth 20000 in
theorem ggX7_push_X7_write : GoodIn wsX7_push wsX7_write := goodIn_r _ [7, 2, 8, 9, 10, 11, 12, 13, 14, 6, 15, 16, 17, 18, 19, 20, 21, 22, 23, 24, 25, 26, 27, 28, 29, 30, 31, 32, 33, 34, 35, 36, 37, 38, 39, 40, 41, 42, 43, 44, 45, 46, 47, 48, 49, 50, 51, 52, 53, 54, 55, 56, 57, 58, 59, 60, 61, 62, 63, 64, 65, 66, 67] rfl (by decide +kernel)
set_option maxRecDepth 20000 in
theorem gX7_push_X7_write : GoodIn wsX7_push (wsV RX7 116 RX7 yX7_write wsX7_write) := goodIn_app (goodIn_of _ (by decide +kernel)) ggX7_push_X7_write
theorem dX7_push_0 : decode cX7_push 0 = .ok (.aload_n 0, 1) := by decide +kernel
theorem dX7_push_1 : decode cX7_push 1 = .ok (.aload_n 0, 1) := by decide +kernel
theorem dX7_push_2 : decode cX7_push 2 = .ok (.getfield 125, 3) := by decide +kernel
theorem dX7_push_5 : decode cX7_push 5 = .ok (.iload_n 1, 1) := by decide +kernel
theorem dX7_push_6 : decode cX7_push 6 = .ok (.sipush 255, 3) := by decide +kernel
theorem dX7_push_9 : decode cX7_push 9 = .ok (.iand, 1) := by decide +kernel
theorem dX7_push_10 : decode cX7_push 10 = .ok (.invokevirtual 116, 3) := by decide +kernel
theorem dX7_push_13 : decode cX7_push 13 = .ok (.aload_n 0, 1) := by decide +kernel
theorem dX7_push_14 : decode cX7_push 14 = .ok (.aload_n 0, 1) := by decide +kernel
theorem dX7_push_15 : decode cX7_push 15 = .ok (.getfield 125, 3) := by decide +kernel
theorem dX7_push_18 : decode cX7_push 18 = .ok (.iconst 1, 1) := by decide +kernel
theorem dX7_push_19 : decode cX7_push 19 = .ok (.isub, 1) := by decide +kernel
theorem dX7_push_20 : decode cX7_push 20 = .ok (.ldc 93, 2) := by decide +kernel
theorem dX7_push_22 : decode cX7_push 22 = .ok (.iand, 1) := by decide +kernel
theorem dX7_push_23 : decode cX7_push 23 = .ok (.putfield 125, 3) := by decide +kernel
theorem dX7_push_26 : decode cX7_push 26 = .ok (.return_, 1) := by decide +kernel
set_option maxRecDepth 20000 in
theorem ggX7_pushWord_X7_push : GoodIn wsX7_pushWord wsX7_push := goodIn_r _ [5, 6, 7, 8, 9, 10, 4, 11, 12, 13, 14, 15, 16, 17, 18, 19, 20, 21, 22, 23, 24, 25, 26, 27, 28, 29, 30, 31, 32, 33, 34, 35, 36, 37, 38, 39, 40, 41, 42, 43, 44, 45, 46, 47, 48, 49, 50, 51, 52, 53, 54, 55, 56, 57, 58, 59, 60, 61, 62, 63, 64, 65, 66, 67, 68, 69, 70, 71] rfl (by decide +kernel)
set_option maxRecDepth 20000 in
theorem gX7_pushWord_X7_push : GoodIn wsX7_pushWord (wsV RX7 128 RX7 yX7_push wsX7_push) := goodIn_app (goodIn_of _ (by decide +kernel)) ggX7_pushWord_X7_push
theorem dX7_pushWord_0 : decode cX7_pushWord 0 = .ok (.aload_n 0, 1) := by decide +kernel
theorem dX7_pushWord_1 : decode cX7_pushWord 1 = .ok (.iload_n 1, 1) := by decide +kernel
theorem dX7_pushWord_2 : decode cX7_pushWord 2 = .ok (.invokevirtual 128, 3) := by decide +kernel
theorem dX7_pushWord_5 : decode cX7_pushWord 5 = .ok (.aload_n 0, 1) := by decide +kernel
theorem dX7_pushWord_6 : decode cX7_pushWord 6 = .ok (.iload_n 1, 1) := by decide +kernel
theorem dX7_pushWord_7 : decode cX7_pushWord 7 = .ok (.bipush 8, 2) := by decide +kernel
theorem dX7_pushWord_9 : decode cX7_pushWord 9 = .ok (.ishr, 1) := by decide +kernel
theorem dX7_pushWord_10 : decode cX7_pushWord 10 = .ok (.invokevirtual 128, 3) := by decide +kernel
theorem dX7_pushWord_13 : decode cX7_pushWord 13 = .ok (.return_, 1) := by decide +kernel
set_option maxRecDepth 20000 in
theorem ggX7_pull_X7_read : GoodIn wsX7_pull wsX7_read := goodIn_r _ [7, 2, 8, 9, 10, 11, 12, 13, 14, 15, 16, 17, 6, 18, 19, 20, 21, 22, 23, 24, 25, 26, 27, 28, 29, 30, 31, 32, 33, 34, 35, 36, 37, 38, 39, 40, 41, 42, 43, 44, 45, 46, 47, 48, 49, 50, 51, 52, 53, 54, 55, 56, 57, 58, 59, 60, 61, 62, 63, 64, 65, 66, 67, 68] rfl (by decide +kernel)
set_option maxRecDepth 20000 in
theorem gX7_pull_X7_read : GoodIn wsX7_pull (wsV RX7 113 RX7 yX7_read wsX7_read) := goodIn_app (goodIn_of _ (by decide +kernel)) ggX7_pull_X7_read
theorem dX7_pull_0 : decode cX7_pull 0 = .ok (.aload_n 0, 1) := by decide +kernel
theorem dX7_pull_1 : decode cX7_pull 1 = .ok (.aload_n 0, 1) := by decide +kernel
theorem dX7_pull_2 : decode cX7_pull 2 = .ok (.getfield 125, 3) := by decide +kernel
theorem dX7_pull_5 : decode cX7_pull 5 = .ok (.iconst 1, 1) := by decide +kernel
theorem dX7_pull_6 : decode cX7_pull 6 = .ok (.iadd, 1) := by decide +kernel
theorem dX7_pull_7 : decode cX7_pull 7 = .ok (.ldc 93, 2) := by decide +kernel
theorem dX7_pull_9 : decode cX7_pull 9 = .ok (.iand, 1) := by decide +kernel
theorem dX7_pull_10 : decode cX7_pull 10 = .ok (.putfield 125, 3) := by decide +kernel
theorem dX7_pull_13 : decode cX7_pull 13 = .ok (.aload_n 0, 1) := by decide +kernel
theorem dX7_pull_14 : decode cX7_pull 14 = .ok (.aload_n 0, 1) := by decide +kernel
theorem dX7_pull_15 : decode cX7_pull 15 = .ok (.getfield 125, 3) := by decide +kernel
theorem dX7_pull_18 : decode cX7_pull 18 = .ok (.invokevirtual 113, 3) := by decide +kernel
theorem dX7_pull_21 : decode cX7_pull 21 = .ok (.ireturn, 1) := by decide +kernel
set_option maxRecDepth 20000 in
theorem ggX7_pullWord_X7_pull : GoodIn wsX7_pullWord wsX7_pull := goodIn_r _ [5, 6, 7, 8, 9, 10, 4, 11, 12, 13, 14, 15, 16, 17, 18, 19, 20, 21, 22, 23, 24, 25, 26, 27, 28, 29, 30, 31, 32, 33, 34, 35, 36, 37, 38, 39, 40, 41, 42, 43, 44, 45, 46, 47, 48, 49, 50, 51, 52, 53, 54, 55, 56, 57, 58, 59, 60, 61, 62, 63, 64, 65, 66, 67, 68, 69, 70, 71, 72] rfl (by decide +kernel)
set_option maxRecDepth 20000 in
theorem gX7_pullWord_X7_pull : GoodIn wsX7_pullWord (wsV RX7 131 RX7 yX7_pull wsX7_pull) := goodIn_app (goodIn_of _ (by decide +kernel)) ggX7_pullWord_X7_pull
theorem dX7_pullWord_0 : decode cX7_pullWord 0 = .ok (.aload_n 0, 1) := by decide +kernel
theorem dX7_pullWord_1 : decode cX7_pullWord 1 = .ok (.invokevirtual 131, 3) := by decide +kernel
theorem dX7_pullWord_4 : decode cX7_pullWord 4 = .ok (.istore_n 1, 1) := by decide +kernel
theorem dX7_pullWord_5 : decode cX7_pullWord 5 = .ok (.iload_n 1, 1) := by decide +kernel
theorem dX7_pullWord_6 : decode cX7_pullWord 6 = .ok (.sipush 256, 3) := by decide +kernel
theorem dX7_pullWord_9 : decode cX7_pullWord 9 = .ok (.imul, 1) := by decide +kernel
theorem dX7_pullWord_10 : decode cX7_pullWord 10 = .ok (.aload_n 0, 1) := by decide +kernel
theorem dX7_pullWord_11 : decode cX7_pullWord 11 = .ok (.invokevirtual 131, 3) := by decide +kernel
theorem dX7_pullWord_14 : decode cX7_pullWord 14 = .ok (.iadd, 1) := by decide +kernel
theorem dX7_pullWord_15 : decode cX7_pullWord 15 = .ok (.ireturn, 1) := by decide +kernel
set_option maxRecDepth 20000 in
theorem ggX7_pushAll_X7_pushWord : GoodIn wsX7_pushAll wsX7_pushWord := goodIn_r _ [10, 11, 12, 13, 9, 14, 15, 16, 17, 18, 19, 20, 21, 22, 23, 24, 25, 26, 27, 28, 29, 30, 31, 32, 33, 34, 35, 36, 37, 38, 39, 40, 41, 42, 43, 44, 45, 46, 47, 48, 49, 50, 51, 52, 53, 54, 55, 56, 57, 58, 59, 60, 61, 62, 63, 64, 65, 66, 67, 68, 69, 70, 71, 72, 73, 74, 75, 76, 77, 78, 79, 80] rfl (by decide +kernel)
set_option maxRecDepth 20000 in
theorem gX7_pushAll_X7_pushWord : GoodIn wsX7_pushAll (wsV RX7 134 RX7 yX7_pushWord wsX7_pushWord) := goodIn_app (goodIn_of _ (by decide +kernel)) ggX7_pushAll_X7_pushWord
set_option maxRecDepth 20000 in
theorem ggX7_pushAll_X7_push : GoodIn wsX7_pushAll wsX7_push := goodIn_r _ [14, 15, 16, 17, 18, 19, 9, 20, 21, 22, 23, 24, 25, 26, 27, 28, 29, 30, 31, 32, 33, 34, 35, 36, 37, 38, 39, 40, 41, 42, 43, 44, 45, 46, 47, 48, 49, 50, 51, 52, 53, 54, 55, 56, 57, 58, 59, 60, 61, 62, 63, 64, 65, 66, 67, 68, 69, 70, 71, 72, 73, 74, 75, 76, 77, 78, 79, 80] rfl (by decide +kernel)
set_option maxRecDepth 20000 in
theorem gX7_pushAll_X7_push : GoodIn wsX7_pushAll (wsV RX7 128 RX7 yX7_push wsX7_push) := goodIn_app (goodIn_of _ (by decide +kernel)) ggX7_pushAll_X7_push
theorem dX7_pushAll_0 : decode cX7_pushAll 0 = .ok (.aload_n 0, 1) := by decide +kernel
theorem dX7_pushAll_1 : decode cX7_pushAll 1 = .ok (.aload_n 0, 1) := by decide +kernel
theorem dX7_pushAll_2 : decode cX7_pushAll 2 = .ok (.getfield 119, 3) := by decide +kernel
theorem dX7_pushAll_5 : decode cX7_pushAll 5 = .ok (.invokevirtual 134, 3) := by decide +kernel
theorem dX7_pushAll_8 : decode cX7_pushAll 8 = .ok (.aload_n 0, 1) := by decide +kernel
theorem dX7_pushAll_9 : decode cX7_pushAll 9 = .ok (.aload_n 0, 1) := by decide +kernel
theorem dX7_pushAll_10 : decode cX7_pushAll 10 = .ok (.getfield 137, 3) := by decide +kernel
theorem dX7_pushAll_13 : decode cX7_pushAll 13 = .ok (.invokevirtual 134, 3) := by decide +kernel
theorem dX7_pushAll_16 : decode cX7_pushAll 16 = .ok (.aload_n 0, 1) := by decide +kernel
theorem dX7_pushAll_17 : decode cX7_pushAll 17 = .ok (.aload_n 0, 1) := by decide +kernel
theorem dX7_pushAll_18 : decode cX7_pushAll 18 = .ok (.getfield 140, 3) := by decide +kernel
theorem dX7_pushAll_21 : decode cX7_pushAll 21 = .ok (.invokevirtual 128, 3) := by decide +kernel
theorem dX7_pushAll_24 : decode cX7_pushAll 24 = .ok (.aload_n 0, 1) := by decide +kernel
theorem dX7_pushAll_25 : decode cX7_pushAll 25 = .ok (.aload_n 0, 1) := by decide +kernel
theorem dX7_pushAll_26 : decode cX7_pushAll 26 = .ok (.getfield 143, 3) := by decide +kernel
theorem dX7_pushAll_29 : decode cX7_pushAll 29 = .ok (.invokevirtual 128, 3) := by decide +kernel
theorem dX7_pushAll_32 : decode cX7_pushAll 32 = .ok (.aload_n 0, 1) := by decide +kernel
theorem dX7_pushAll_33 : decode cX7_pushAll 33 = .ok (.aload_n 0, 1) := by decide +kernel
theorem dX7_pushAll_34 : decode cX7_pushAll 34 = .ok (.getfield 146, 3) := by decide +kernel
theorem dX7_pushAll_37 : decode cX7_pushAll 37 = .ok (.sipush 192, 3) := by decide +kernel
theorem dX7_pushAll_40 : decode cX7_pushAll 40 = .ok (.ior, 1) := by decide +kernel
theorem dX7_pushAll_41 : decode cX7_pushAll 41 = .ok (.invokevirtual 128, 3) := by decide +kernel
theorem dX7_pushAll_44 : decode cX7_pushAll 44 = .ok (.return_, 1) := by decide +kernel
theorem dX7_is_0 : decode cX7_is 0 = .ok (.aload_n 0, 1) := by decide +kernel
theorem dX7_is_1 : decode cX7_is 1 = .ok (.getfield 146, 3) := by decide +kernel
theorem dX7_is_4 : decode cX7_is 4 = .ok (.iload_n 1, 1) := by decide +kernel
theorem dX7_is_5 : decode cX7_is 5 = .ok (.iand, 1) := by decide +kernel
theorem dX7_is_6 : decode cX7_is 6 = .ok (.ifCond .eq 7, 3) := by decide +kernel
theorem dX7_is_9 : decode cX7_is 9 = .ok (.iconst 1, 1) := by decide +kernel
theorem dX7_is_10 : decode cX7_is 10 = .ok (.goto 4, 3) := by decide +kernel
