theorem dX7_is_13 : decode cX7_is 13 = .ok (.iconst 0, 1) := by decide +kernel
theorem dX7_is_14 : decode cX7_is 14 = .ok (.ireturn, 1) := by decide +kernel
theorem dX7_tell_0 : decode cX7_tell 0 = .ok (.aload_n 0, 1) := by decide +kernel
theorem dX7_tell_1 : decode cX7_tell 1 = .ok (.iload_n 2, 1) := by decide +kernel
theorem dX7_tell_2 : decode cX7_tell 2 = .ok (.ifCond .eq 12, 3) := by decide +kernel
theorem dX7_tell_5 : decode cX7_tell 5 = .ok (.aload_n 0, 1) := by decide +kernel
theorem dX7_tell_6 : decode cX7_tell 6 = .ok (.getfield 146, 3) := by decide +kernel
theorem dX7_tell_9 : decode cX7_tell 9 = .ok (.iload_n 1, 1) := by decide +kernel
theorem dX7_tell_10 : decode cX7_tell 10 = .ok (.ior, 1) := by decide +kernel
theorem dX7_tell_11 : decode cX7_tell 11 = .ok (.goto 11, 3) := by decide +kernel
theorem dX7_tell_14 : decode cX7_tell 14 = .ok (.aload_n 0, 1) := by decide +kernel
theorem dX7_tell_15 : decode cX7_tell 15 = .ok (.getfield 146, 3) := by decide +kernel
theorem dX7_tell_18 : decode cX7_tell 18 = .ok (.iload_n 1, 1) := by decide +kernel
theorem dX7_tell_19 : decode cX7_tell 19 = .ok (.iconst (-1), 1) := by decide +kernel
theorem dX7_tell_20 : decode cX7_tell 20 = .ok (.ixor, 1) := by decide +kernel
theorem dX7_tell_21 : decode cX7_tell 21 = .ok (.iand, 1) := by decide +kernel
theorem dX7_tell_22 : decode cX7_tell 22 = .ok (.putfield 146, 3) := by decide +kernel
theorem dX7_tell_25 : decode cX7_tell 25 = .ok (.return_, 1) := by decide +kernel
set_option maxRecDepth 20000 in
theorem ggX7_nz_X7_tell : GoodIn wsX7_nz wsX7_tell := goodIn_r _ [5, 6, 7, 8, 9, 10, 11, 12, 13, 14, 15, 16, 17, 18, 19, 20, 21, 22, 23, 24, 25, 26, 27, 28, 29, 30, 31, 32, 33, 34, 35, 36, 37] rfl (by decide +kernel)
set_option maxRecDepth 20000 in
theorem gX7_nz_X7_tell : GoodIn wsX7_nz (wsV RX7 149 RX7 yX7_tell wsX7_tell) := goodIn_app (goodIn_of _ (by decide +kernel)) ggX7_nz_X7_tell
theorem dX7_nz_0 : decode cX7_nz 0 = .ok (.aload_n 0, 1) := by decide +kernel
theorem dX7_nz_1 : decode cX7_nz 1 = .ok (.bipush 8, 2) := by decide +kernel
theorem dX7_nz_3 : decode cX7_nz 3 = .ok (.iload_n 1, 1) := by decide +kernel
theorem dX7_nz_4 : decode cX7_nz 4 = .ok (.sipush 128, 3) := by decide +kernel
theorem dX7_nz_7 : decode cX7_nz 7 = .ok (.iand, 1) := by decide +kernel
theorem dX7_nz_8 : decode cX7_nz 8 = .ok (.ifCond .eq 7, 3) := by decide +kernel
theorem dX7_nz_11 : decode cX7_nz 11 = .ok (.iconst 1, 1) := by decide +kernel
theorem dX7_nz_12 : decode cX7_nz 12 = .ok (.goto 4, 3) := by decide +kernel
theorem dX7_nz_15 : decode cX7_nz 15 = .ok (.iconst 0, 1) := by decide +kernel
theorem dX7_nz_16 : decode cX7_nz 16 = .ok (.invokevirtual 149, 3) := by decide +kernel
theorem dX7_nz_19 : decode cX7_nz 19 = .ok (.aload_n 0, 1) := by decide +kernel
theorem dX7_nz_20 : decode cX7_nz 20 = .ok (.iconst 4, 1) := by decide +kernel
theorem dX7_nz_21 : decode cX7_nz 21 = .ok (.iload_n 1, 1) := by decide +kernel
theorem dX7_nz_22 : decode cX7_nz 22 = .ok (.sipush 255, 3) := by decide +kernel
theorem dX7_nz_25 : decode cX7_nz 25 = .ok (.iand, 1) := by decide +kernel
theorem dX7_nz_26 : decode cX7_nz 26 = .ok (.ifCond .ne 7, 3) := by decide +kernel
theorem dX7_nz_29 : decode cX7_nz 29 = .ok (.iconst 1, 1) := by decide +kernel
theorem dX7_nz_30 : decode cX7_nz 30 = .ok (.goto 4, 3) := by decide +kernel
theorem dX7_nz_33 : decode cX7_nz 33 = .ok (.iconst 0, 1) := by decide +kernel
theorem dX7_nz_34 : decode cX7_nz 34 = .ok (.invokevirtual 149, 3) := by decide +kernel
theorem dX7_nz_37 : decode cX7_nz 37 = .ok (.iload_n 1, 1) := by decide +kernel
theorem dX7_nz_38 : decode cX7_nz 38 = .ok (.sipush 255, 3) := by decide +kernel
theorem dX7_nz_41 : decode cX7_nz 41 = .ok (.iand, 1) := by decide +kernel
theorem dX7_nz_42 : decode cX7_nz 42 = .ok (.ireturn, 1) := by decide +kernel
set_option maxRecDepth 20000 in
theorem ggX7_nzv_X7_tell : GoodIn wsX7_nzv wsX7_tell := goodIn_r _ [5, 6, 11, 12, 13, 14, 15, 16, 17, 18, 19, 20, 21, 22, 23, 24, 25, 26, 27, 28, 29, 30, 31, 32, 33, 34, 35, 36, 37, 38, 39, 40, 41] rfl (by decide +kernel)
set_option maxRecDepth 20000 in
theorem gX7_nzv_X7_tell : GoodIn wsX7_nzv (wsV RX7 149 RX7 yX7_tell wsX7_tell) := goodIn_app (goodIn_of _ (by decide +kernel)) ggX7_nzv_X7_tell
set_option maxRecDepth 20000 in
theorem ggX7_nzv_X7_nz : GoodIn wsX7_nzv wsX7_nz := goodIn_r _ [10, 1, 2, 3, 4, 5, 6, 11, 12, 13, 14, 15, 16, 17, 18, 19, 20, 21, 22, 23, 24, 25, 26, 27, 28, 29, 30, 31, 32, 33, 34, 35, 36, 37, 38, 39, 40, 41] rfl (by decide +kernel)
set_option maxRecDepth 20000 in
theorem gX7_nzv_X7_nz : GoodIn wsX7_nzv (wsV RX7 153 RX7 yX7_nz wsX7_nz) := goodIn_app (goodIn_of _ (by decide +kernel)) ggX7_nzv_X7_nz
theorem dX7_nzv_0 : decode cX7_nzv 0 = .ok (.aload_n 0, 1) := by decide +kernel
theorem dX7_nzv_1 : decode cX7_nzv 1 = .ok (.iconst 2, 1) := by decide +kernel
theorem dX7_nzv_2 : decode cX7_nzv 2 = .ok (.iconst 0, 1) := by decide +kernel
theorem dX7_nzv_3 : decode cX7_nzv 3 = .ok (.invokevirtual 149, 3) := by decide +kernel
theorem dX7_nzv_6 : decode cX7_nzv 6 = .ok (.aload_n 0, 1) := by decide +kernel
theorem dX7_nzv_7 : decode cX7_nzv 7 = .ok (.iload_n 1, 1) := by decide +kernel
theorem dX7_nzv_8 : decode cX7_nzv 8 = .ok (.invokevirtual 153, 3) := by decide +kernel
theorem dX7_nzv_11 : decode cX7_nzv 11 = .ok (.ireturn, 1) := by decide +kernel
set_option maxRecDepth 20000 in
theorem ggX7_nzWord_X7_tell : GoodIn wsX7_nzWord wsX7_tell := goodIn_r _ [7, 8, 9, 10, 11, 12, 13, 14, 15, 16, 17, 18, 19, 20, 21, 22, 23, 24, 25, 26, 27, 28, 29, 30, 31, 32, 33, 34, 35, 36, 37, 38, 39] rfl (by decide +kernel)
set_option maxRecDepth 20000 in
theorem gX7_nzWord_X7_tell : GoodIn wsX7_nzWord (wsV RX7 149 RX7 yX7_tell wsX7_tell) := goodIn_app (goodIn_of _ (by decide +kernel)) ggX7_nzWord_X7_tell
theorem dX7_nzWord_0 : decode cX7_nzWord 0 = .ok (.aload_n 0, 1) := by decide +kernel
theorem dX7_nzWord_1 : decode cX7_nzWord 1 = .ok (.bipush 8, 2) := by decide +kernel
theorem dX7_nzWord_3 : decode cX7_nzWord 3 = .ok (.iload_n 1, 1) := by decide +kernel
theorem dX7_nzWord_4 : decode cX7_nzWord 4 = .ok (.ldc 156, 2) := by decide +kernel
theorem dX7_nzWord_6 : decode cX7_nzWord 6 = .ok (.iand, 1) := by decide +kernel
theorem dX7_nzWord_7 : decode cX7_nzWord 7 = .ok (.ifCond .eq 7, 3) := by decide +kernel
theorem dX7_nzWord_10 : decode cX7_nzWord 10 = .ok (.iconst 1, 1) := by decide +kernel
theorem dX7_nzWord_11 : decode cX7_nzWord 11 = .ok (.goto 4, 3) := by decide +kernel
theorem dX7_nzWord_14 : decode cX7_nzWord 14 = .ok (.iconst 0, 1) := by decide +kernel
theorem dX7_nzWord_15 : decode cX7_nzWord 15 = .ok (.invokevirtual 149, 3) := by decide +kernel
theorem dX7_nzWord_18 : decode cX7_nzWord 18 = .ok (.aload_n 0, 1) := by decide +kernel
theorem dX7_nzWord_19 : decode cX7_nzWord 19 = .ok (.iconst 4, 1) := by decide +kernel
theorem dX7_nzWord_20 : decode cX7_nzWord 20 = .ok (.iload_n 1, 1) := by decide +kernel
theorem dX7_nzWord_21 : decode cX7_nzWord 21 = .ok (.ldc 93, 2) := by decide +kernel
theorem dX7_nzWord_23 : decode cX7_nzWord 23 = .ok (.iand, 1) := by decide +kernel
theorem dX7_nzWord_24 : decode cX7_nzWord 24 = .ok (.ifCond .ne 7, 3) := by decide +kernel
theorem dX7_nzWord_27 : decode cX7_nzWord 27 = .ok (.iconst 1, 1) := by decide +kernel
theorem dX7_nzWord_28 : decode cX7_nzWord 28 = .ok (.goto 4, 3) := by decide +kernel
theorem dX7_nzWord_31 : decode cX7_nzWord 31 = .ok (.iconst 0, 1) := by decide +kernel
theorem dX7_nzWord_32 : decode cX7_nzWord 32 = .ok (.invokevirtual 149, 3) := by decide +kernel
theorem dX7_nzWord_35 : decode cX7_nzWord 35 = .ok (.iload_n 1, 1) := by decide +kernel
theorem dX7_nzWord_36 : decode cX7_nzWord 36 = .ok (.ldc 93, 2) := by decide +kernel
theorem dX7_nzWord_38 : decode cX7_nzWord 38 = .ok (.iand, 1) := by decide +kernel
theorem dX7_nzWord_39 : decode cX7_nzWord 39 = .ok (.ireturn, 1) := by decide +kernel
theorem dX7_signed_0 : decode cX7_signed 0 = .ok (.iload_n 0, 1) := by decide +kernel
theorem dX7_signed_1 : decode cX7_signed 1 = .ok (.bipush 127, 2) := by decide +kernel
theorem dX7_signed_3 : decode cX7_signed 3 = .ok (.if_icmp .le 11, 3) := by decide +kernel
theorem dX7_signed_6 : decode cX7_signed 6 = .ok (.iload_n 0, 1) := by decide +kernel
theorem dX7_signed_7 : decode cX7_signed 7 = .ok (.sipush 256, 3) := by decide +kernel
theorem dX7_signed_10 : decode cX7_signed 10 = .ok (.isub, 1) := by decide +kernel
theorem dX7_signed_11 : decode cX7_signed 11 = .ok (.goto 4, 3) := by decide +kernel
theorem dX7_signed_14 : decode cX7_signed 14 = .ok (.iload_n 0, 1) := by decide +kernel
theorem dX7_signed_15 : decode cX7_signed 15 = .ok (.ireturn, 1) := by decide +kernel
set_option maxRecDepth 20000 in
theorem ggX7_less_X7_signed : GoodIn wsX7_less wsX7_signed := goodIn_r _ [4] rfl (by decide +kernel)
set_option maxRecDepth 20000 in
theorem gX7_less_X7_signed : GoodIn wsX7_less (va_wsS RX7 157 yX7_signed wsX7_signed) := goodIn_app (goodIn_of _ (by decide +kernel)) ggX7_less_X7_signed
set_option maxRecDepth 20000 in
theorem ggX7_less_X7_tell : GoodIn wsX7_less wsX7_tell := goodIn_r _ [8, 9, 14, 15, 16, 17, 18, 19, 20, 21, 22, 23, 24, 25, 26, 27, 28, 29, 30, 31, 32, 33, 34, 35, 36, 37, 38, 39, 40, 41, 42, 43, 44] rfl (by decide +kernel)
set_option maxRecDepth 20000 in
theorem gX7_less_X7_tell : GoodIn wsX7_less (wsV RX7 149 RX7 yX7_tell wsX7_tell) := goodIn_app (goodIn_of _ (by decide +kernel)) ggX7_less_X7_tell
set_option maxRecDepth 20000 in
theorem ggX7_less_X7_nz : GoodIn wsX7_less wsX7_nz := goodIn_r _ [13, 5, 6, 7, 3, 8, 9, 14, 15, 16, 17, 18, 19, 20, 21, 22, 23, 24, 25, 26, 27, 28, 29, 30, 31, 32, 33, 34, 35, 36, 37, 38, 39, 40, 41, 42, 43, 44] rfl (by decide +kernel)
set_option maxRecDepth 20000 in
theorem gX7_less_X7_nz : GoodIn wsX7_less (wsV RX7 153 RX7 yX7_nz wsX7_nz) := goodIn_app (goodIn_of _ (by decide +kernel)) ggX7_less_X7_nz
theorem dX7_less_0 : decode cX7_less 0 = .ok (.iload_n 1, 1) := by decide +kernel
theorem dX7_less_1 : decode cX7_less 1 = .ok (.invokestatic 157, 3) := by decide +kernel
theorem dX7_less_4 : decode cX7_less 4 = .ok (.iload_n 2, 1) := by decide +kernel
theorem dX7_less_5 : decode cX7_less 5 = .ok (.invokestatic 157, 3) := by decide +kernel
theorem dX7_less_8 : decode cX7_less 8 = .ok (.isub, 1) := by decide +kernel
theorem dX7_less_9 : decode cX7_less 9 = .ok (.iload_n 3, 1) := by decide +kernel
theorem dX7_less_10 : decode cX7_less 10 = .ok (.isub, 1) := by decide +kernel
theorem dX7_less_11 : decode cX7_less 11 = .ok (.istore 4, 2) := by decide +kernel
theorem dX7_less_13 : decode cX7_less 13 = .ok (.aload_n 0, 1) := by decide +kernel
theorem dX7_less_14 : decode cX7_less 14 = .ok (.iconst 2, 1) := by decide +kernel
theorem dX7_less_15 : decode cX7_less 15 = .ok (.iload 4, 2) := by decide +kernel
theorem dX7_less_17 : decode cX7_less 17 = .ok (.bipush (-128), 2) := by decide +kernel
theorem dX7_less_19 : decode cX7_less 19 = .ok (.if_icmp .lt 10, 3) := by decide +kernel
theorem dX7_less_22 : decode cX7_less 22 = .ok (.iload 4, 2) := by decide +kernel
theorem dX7_less_24 : decode cX7_less 24 = .ok (.bipush 127, 2) := by decide +kernel
theorem dX7_less_26 : decode cX7_less 26 = .ok (.if_icmp .le 7, 3) := by decide +kernel
theorem dX7_less_29 : decode cX7_less 29 = .ok (.iconst 1, 1) := by decide +kernel
theorem dX7_less_30 : decode cX7_less 30 = .ok (.goto 4, 3) := by decide +kernel
theorem dX7_less_33 : decode cX7_less 33 = .ok (.iconst 0, 1) := by decide +kernel
theorem dX7_less_34 : decode cX7_less 34 = .ok (.invokevirtual 149, 3) := by decide +kernel
theorem dX7_less_37 : decode cX7_less 37 = .ok (.aload_n 0, 1) := by decide +kernel
theorem dX7_less_38 : decode cX7_less 38 = .ok (.iconst 1, 1) := by decide +kernel
theorem dX7_less_39 : decode cX7_less 39 = .ok (.iload_n 1, 1) := by decide +kernel
theorem dX7_less_40 : decode cX7_less 40 = .ok (.iload_n 2, 1) := by decide +kernel
theorem dX7_less_41 : decode cX7_less 41 = .ok (.isub, 1) := by decide +kernel
theorem dX7_less_42 : decode cX7_less 42 = .ok (.iload_n 3, 1) := by decide +kernel
theorem dX7_less_43 : decode cX7_less 43 = .ok (.isub, 1) := by decide +kernel
theorem dX7_less_44 : decode cX7_less 44 = .ok (.ifCond .ge 7, 3) := by decide +kernel
theorem dX7_less_47 : decode cX7_less 47 = .ok (.iconst 1, 1) := by decide +kernel
theorem dX7_less_48 : decode cX7_less 48 = .ok (.goto 4, 3) := by decide +kernel
theorem dX7_less_51 : decode cX7_less 51 = .ok (.iconst 0, 1) := by decide +kernel
theorem dX7_less_52 : decode cX7_less 52 = .ok (.invokevirtual 149, 3) := by decide +kernel
theorem dX7_less_55 : decode cX7_less 55 = .ok (.aload_n 0, 1) := by decide +kernel
theorem dX7_less_56 : decode cX7_less 56 = .ok (.iload_n 1, 1) := by decide +kernel
theorem dX7_less_57 : decode cX7_less 57 = .ok (.iload_n 2, 1) := by decide +kernel
theorem dX7_less_58 : decode cX7_less 58 = .ok (.isub, 1) := by decide +kernel
theorem dX7_less_59 : decode cX7_less 59 = .ok (.iload_n 3, 1) := by decide +kernel
theorem dX7_less_60 : decode cX7_less 60 = .ok (.isub, 1) := by decide +kernel
theorem dX7_less_61 : decode cX7_less 61 = .ok (.invokevirtual 153, 3) := by decide +kernel
theorem dX7_less_64 : decode cX7_less 64 = .ok (.ireturn, 1) := by decide +kernel
set_option maxRecDepth 20000 in
theorem ggX7_plus_X7_signed : GoodIn wsX7_plus wsX7_signed := goodIn_r _ [4] rfl (by decide +kernel)
set_option maxRecDepth 20000 in
theorem gX7_plus_X7_signed : GoodIn wsX7_plus (va_wsS RX7 157 yX7_signed wsX7_signed) := goodIn_app (goodIn_of _ (by decide +kernel)) ggX7_plus_X7_signed
set_option maxRecDepth 20000 in
theorem ggX7_plus_X7_tell : GoodIn wsX7_plus wsX7_tell := goodIn_r _ [8, 9, 14, 15, 16, 17, 18, 19, 20, 21, 22, 23, 24, 25, 26, 27, 28, 29, 30, 31, 32, 33, 34, 35, 36, 37, 38, 39, 40, 41, 42, 43, 44] rfl (by decide +kernel)
set_option maxRecDepth 20000 in
theorem gX7_plus_X7_tell : GoodIn wsX7_plus (wsV RX7 149 RX7 yX7_tell wsX7_tell) := goodIn_app (goodIn_of _ (by decide +kernel)) ggX7_plus_X7_tell
set_option maxRecDepth 20000 in
theorem ggX7_plus_X7_nz : GoodIn wsX7_plus wsX7_nz := goodIn_r _ [13, 5, 6, 7, 3, 8, 9, 14, 15, 16, 17, 18, 19, 20, 21, 22, 23, 24, 25, 26, 27, 28, 29, 30, 31, 32, 33, 34, 35, 36, 37, 38, 39, 40, 41, 42, 43, 44] rfl (by decide +kernel)
set_option maxRecDepth 20000 in
theorem gX7_plus_X7_nz : GoodIn wsX7_plus (wsV RX7 153 RX7 yX7_nz wsX7_nz) := goodIn_app (goodIn_of _ (by decide +kernel)) ggX7_plus_X7_nz
theorem dX7_plus_0 : decode cX7_plus 0 = .ok (.iload_n 1, 1) := by decide +kernel
theorem dX7_plus_1 : decode cX7_plus 1 = .ok (.invokestatic 157, 3) := by decide +kernel
theorem dX7_plus_4 : decode cX7_plus 4 = .ok (.iload_n 2, 1) := by decide +kernel
theorem dX7_plus_5 : decode cX7_plus 5 = .ok (.invokestatic 157, 3) := by decide +kernel
theorem dX7_plus_8 : decode cX7_plus 8 = .ok (.iadd, 1) := by decide +kernel
theorem dX7_plus_9 : decode cX7_plus 9 = .ok (.iload_n 3, 1) := by decide +kernel
theorem dX7_plus_10 : decode cX7_plus 10 = .ok (.iadd, 1) := by decide +kernel
theorem dX7_plus_11 : decode cX7_plus 11 = .ok (.istore 4, 2) := by decide +kernel
theorem dX7_plus_13 : decode cX7_plus 13 = .ok (.aload_n 0, 1) := by decide +kernel
theorem dX7_plus_14 : decode cX7_plus 14 = .ok (.bipush 32, 2) := by decide +kernel
theorem dX7_plus_16 : decode cX7_plus 16 = .ok (.iload_n 1, 1) := by decide +kernel
theorem dX7_plus_17 : decode cX7_plus 17 = .ok (.bipush 15, 2) := by decide +kernel
theorem dX7_plus_19 : decode cX7_plus 19 = .ok (.iand, 1) := by decide +kernel
theorem dX7_plus_20 : decode cX7_plus 20 = .ok (.iload_n 2, 1) := by decide +kernel
theorem dX7_plus_21 : decode cX7_plus 21 = .ok (.bipush 15, 2) := by decide +kernel
theorem dX7_plus_23 : decode cX7_plus 23 = .ok (.iand, 1) := by decide +kernel
theorem dX7_plus_24 : decode cX7_plus 24 = .ok (.iadd, 1) := by decide +kernel
theorem dX7_plus_25 : decode cX7_plus 25 = .ok (.iload_n 3, 1) := by decide +kernel
theorem dX7_plus_26 : decode cX7_plus 26 = .ok (.iadd, 1) := by decide +kernel
theorem dX7_plus_27 : decode cX7_plus 27 = .ok (.bipush 15, 2) := by decide +kernel
theorem dX7_plus_29 : decode cX7_plus 29 = .ok (.if_icmp .le 7, 3) := by decide +kernel
theorem dX7_plus_32 : decode cX7_plus 32 = .ok (.iconst 1, 1) := by decide +kernel
theorem dX7_plus_33 : decode cX7_plus 33 = .ok (.goto 4, 3) := by decide +kernel
theorem dX7_plus_36 : decode cX7_plus 36 = .ok (.iconst 0, 1) := by decide +kernel
theorem dX7_plus_37 : decode cX7_plus 37 = .ok (.invokevirtual 149, 3) := by decide +kernel
theorem dX7_plus_40 : decode cX7_plus 40 = .ok (.aload_n 0, 1) := by decide +kernel
theorem dX7_plus_41 : decode cX7_plus 41 = .ok (.iconst 2, 1) := by decide +kernel
theorem dX7_plus_42 : decode cX7_plus 42 = .ok (.iload 4, 2) := by decide +kernel
theorem dX7_plus_44 : decode cX7_plus 44 = .ok (.bipush (-128), 2) := by decide +kernel
theorem dX7_plus_46 : decode cX7_plus 46 = .ok (.if_icmp .lt 10, 3) := by decide +kernel
theorem dX7_plus_49 : decode cX7_plus 49 = .ok (.iload 4, 2) := by decide +kernel
theorem dX7_plus_51 : decode cX7_plus 51 = .ok (.bipush 127, 2) := by decide +kernel
theorem dX7_plus_53 : decode cX7_plus 53 = .ok (.if_icmp .le 7, 3) := by decide +kernel
theorem dX7_plus_56 : decode cX7_plus 56 = .ok (.iconst 1, 1) := by decide +kernel
theorem dX7_plus_57 : decode cX7_plus 57 = .ok (.goto 4, 3) := by decide +kernel
theorem dX7_plus_60 : decode cX7_plus 60 = .ok (.iconst 0, 1) := by decide +kernel
theorem dX7_plus_61 : decode cX7_plus 61 = .ok (.invokevirtual 149, 3) := by decide +kernel
theorem dX7_plus_64 : decode cX7_plus 64 = .ok (.aload_n 0, 1) := by decide +kernel
theorem dX7_plus_65 : decode cX7_plus 65 = .ok (.iconst 1, 1) := by decide +kernel
theorem dX7_plus_66 : decode cX7_plus 66 = .ok (.iload_n 1, 1) := by decide +kernel
theorem dX7_plus_67 : decode cX7_plus 67 = .ok (.iload_n 2, 1) := by decide +kernel
theorem dX7_plus_68 : decode cX7_plus 68 = .ok (.iadd, 1) := by decide +kernel
theorem dX7_plus_69 : decode cX7_plus 69 = .ok (.iload_n 3, 1) := by decide +kernel
theorem dX7_plus_70 : decode cX7_plus 70 = .ok (.iadd, 1) := by decide +kernel
theorem dX7_plus_71 : decode cX7_plus 71 = .ok (.sipush 255, 3) := by decide +kernel
theorem dX7_plus_74 : decode cX7_plus 74 = .ok (.if_icmp .le 7, 3) := by decide +kernel
theorem dX7_plus_77 : decode cX7_plus 77 = .ok (.iconst 1, 1) := by decide +kernel
theorem dX7_plus_78 : decode cX7_plus 78 = .ok (.goto 4, 3) := by decide +kernel
theorem dX7_plus_81 : decode cX7_plus 81 = .ok (.iconst 0, 1) := by decide +kernel
theorem dX7_plus_82 : decode cX7_plus 82 = .ok (.invokevirtual 149, 3) := by decide +kernel
theorem dX7_plus_85 : decode cX7_plus 85 = .ok (.aload_n 0, 1) := by decide +kernel
theorem dX7_plus_86 : decode cX7_plus 86 = .ok (.iload_n 1, 1) := by decide +kernel
theorem dX7_plus_87 : decode cX7_plus 87 = .ok (.iload_n 2, 1) := by decide +kernel
theorem dX7_plus_88 : decode cX7_plus 88 = .ok (.iadd, 1) := by decide +kernel
theorem dX7_plus_89 : decode cX7_plus 89 = .ok (.iload_n 3, 1) := by decide +kernel
theorem dX7_plus_90 : decode cX7_plus 90 = .ok (.iadd, 1) := by decide +kernel
theorem dX7_plus_91 : decode cX7_plus 91 = .ok (.invokevirtual 153, 3) := by decide +kernel
theorem dX7_plus_94 : decode cX7_plus 94 = .ok (.ireturn, 1) := by decide +kernel
set_option maxRecDepth 20000 in
theorem ggX7_branches_X7_is : GoodIn wsX7_branches wsX7_is := goodIn_r _ [5, 6, 7, 8, 9, 10, 11, 12, 13, 14, 15, 16, 17, 18, 19, 20, 21, 22, 23, 24, 25, 26, 27, 28, 29, 30, 31, 32, 33, 34, 35, 36, 37] rfl (by decide +kernel)
set_option maxRecDepth 20000 in
theorem gX7_branches_X7_is : GoodIn wsX7_branches (wsV RX7 160 RX7 yX7_is wsX7_is) := goodIn_app (goodIn_of _ (by decide +kernel)) ggX7_branches_X7_is
theorem dX7_branches_0 : decode cX7_branches 0 = .ok (.iload_n 1, 1) := by decide +kernel
theorem dX7_branches_1 : decode cX7_branches 1 = .ok (.iconst 1, 1) := by decide +kernel
theorem dX7_branches_2 : decode cX7_branches 2 = .ok (.ishr, 1) := by decide +kernel
theorem dX7_branches_3 : decode cX7_branches 3 = .ok (.tableswitch 160 0 6 #[41, 43, 68, 85, 102, 119, 137], 41) := by decide +kernel
theorem dX7_branches_44 : decode cX7_branches 44 = .ok (.iconst 1, 1) := by decide +kernel
theorem dX7_branches_45 : decode cX7_branches 45 = .ok (.ireturn, 1) := by decide +kernel
theorem dX7_branches_46 : decode cX7_branches 46 = .ok (.aload_n 0, 1) := by decide +kernel
theorem dX7_branches_47 : decode cX7_branches 47 = .ok (.iconst 1, 1) := by decide +kernel
theorem dX7_branches_48 : decode cX7_branches 48 = .ok (.invokevirtual 160, 3) := by decide +kernel
theorem dX7_branches_51 : decode cX7_branches 51 = .ok (.ifCond .ne 15, 3) := by decide +kernel
theorem dX7_branches_54 : decode cX7_branches 54 = .ok (.aload_n 0, 1) := by decide +kernel
theorem dX7_branches_55 : decode cX7_branches 55 = .ok (.iconst 4, 1) := by decide +kernel
theorem dX7_branches_56 : decode cX7_branches 56 = .ok (.invokevirtual 160, 3) := by decide +kernel
theorem dX7_branches_59 : decode cX7_branches 59 = .ok (.ifCond .ne 7, 3) := by decide +kernel
theorem dX7_branches_62 : decode cX7_branches 62 = .ok (.iconst 1, 1) := by decide +kernel
theorem dX7_branches_63 : decode cX7_branches 63 = .ok (.goto 4, 3) := by decide +kernel
theorem dX7_branches_66 : decode cX7_branches 66 = .ok (.iconst 0, 1) := by decide +kernel
theorem dX7_branches_67 : decode cX7_branches 67 = .ok (.istore_n 2, 1) := by decide +kernel
theorem dX7_branches_68 : decode cX7_branches 68 = .ok (.goto 123, 3) := by decide +kernel
theorem dX7_branches_71 : decode cX7_branches 71 = .ok (.aload_n 0, 1) := by decide +kernel
theorem dX7_branches_72 : decode cX7_branches 72 = .ok (.iconst 1, 1) := by decide +kernel
theorem dX7_branches_73 : decode cX7_branches 73 = .ok (.invokevirtual 160, 3) := by decide +kernel
theorem dX7_branches_76 : decode cX7_branches 76 = .ok (.ifCond .ne 7, 3) := by decide +kernel
theorem dX7_branches_79 : decode cX7_branches 79 = .ok (.iconst 1, 1) := by decide +kernel
theorem dX7_branches_80 : decode cX7_branches 80 = .ok (.goto 4, 3) := by decide +kernel
theorem dX7_branches_83 : decode cX7_branches 83 = .ok (.iconst 0, 1) := by decide +kernel
theorem dX7_branches_84 : decode cX7_branches 84 = .ok (.istore_n 2, 1) := by decide +kernel
theorem dX7_branches_85 : decode cX7_branches 85 = .ok (.goto 106, 3) := by decide +kernel
theorem dX7_branches_88 : decode cX7_branches 88 = .ok (.aload_n 0, 1) := by decide +kernel
theorem dX7_branches_89 : decode cX7_branches 89 = .ok (.iconst 4, 1) := by decide +kernel
theorem dX7_branches_90 : decode cX7_branches 90 = .ok (.invokevirtual 160, 3) := by decide +kernel
theorem dX7_branches_93 : decode cX7_branches 93 = .ok (.ifCond .ne 7, 3) := by decide +kernel
theorem dX7_branches_96 : decode cX7_branches 96 = .ok (.iconst 1, 1) := by decide +kernel
theorem dX7_branches_97 : decode cX7_branches 97 = .ok (.goto 4, 3) := by decide +kernel
theorem dX7_branches_100 : decode cX7_branches 100 = .ok (.iconst 0, 1) := by decide +kernel
theorem dX7_branches_101 : decode cX7_branches 101 = .ok (.istore_n 2, 1) := by decide +kernel
theorem dX7_branches_102 : decode cX7_branches 102 = .ok (.goto 89, 3) := by decide +kernel
theorem dX7_branches_105 : decode cX7_branches 105 = .ok (.aload_n 0, 1) := by decide +kernel
theorem dX7_branches_106 : decode cX7_branches 106 = .ok (.iconst 2, 1) := by decide +kernel
theorem dX7_branches_107 : decode cX7_branches 107 = .ok (.invokevirtual 160, 3) := by decide +kernel
theorem dX7_branches_110 : decode cX7_branches 110 = .ok (.ifCond .ne 7, 3) := by decide +kernel
theorem dX7_branches_113 : decode cX7_branches 113 = .ok (.iconst 1, 1) := by decide +kernel
theorem dX7_branches_114 : decode cX7_branches 114 = .ok (.goto 4, 3) := by decide +kernel
theorem dX7_branches_117 : decode cX7_branches 117 = .ok (.iconst 0, 1) := by decide +kernel
theorem dX7_branches_118 : decode cX7_branches 118 = .ok (.istore_n 2, 1) := by decide +kernel
theorem dX7_branches_119 : decode cX7_branches 119 = .ok (.goto 72, 3) := by decide +kernel
theorem dX7_branches_122 : decode cX7_branches 122 = .ok (.aload_n 0, 1) := by decide +kernel
theorem dX7_branches_123 : decode cX7_branches 123 = .ok (.bipush 8, 2) := by decide +kernel
theorem dX7_branches_125 : decode cX7_branches 125 = .ok (.invokevirtual 160, 3) := by decide +kernel
theorem dX7_branches_128 : decode cX7_branches 128 = .ok (.ifCond .ne 7, 3) := by decide +kernel
theorem dX7_branches_131 : decode cX7_branches 131 = .ok (.iconst 1, 1) := by decide +kernel
theorem dX7_branches_132 : decode cX7_branches 132 = .ok (.goto 4, 3) := by decide +kernel
theorem dX7_branches_135 : decode cX7_branches 135 = .ok (.iconst 0, 1) := by decide +kernel
theorem dX7_branches_136 : decode cX7_branches 136 = .ok (.istore_n 2, 1) := by decide +kernel
theorem dX7_branches_137 : decode cX7_branches 137 = .ok (.goto 54, 3) := by decide +kernel
theorem dX7_branches_140 : decode cX7_branches 140 = .ok (.aload_n 0, 1) := by decide +kernel
theorem dX7_branches_141 : decode cX7_branches 141 = .ok (.bipush 8, 2) := by decide +kernel
theorem dX7_branches_143 : decode cX7_branches 143 = .ok (.invokevirtual 160, 3) := by decide +kernel
theorem dX7_branches_146 : decode cX7_branches 146 = .ok (.aload_n 0, 1) := by decide +kernel
theorem dX7_branches_147 : decode cX7_branches 147 = .ok (.iconst 2, 1) := by decide +kernel
theorem dX7_branches_148 : decode cX7_branches 148 = .ok (.invokevirtual 160, 3) := by decide +kernel
theorem dX7_branches_151 : decode cX7_branches 151 = .ok (.if_icmp .ne 7, 3) := by decide +kernel
theorem dX7_branches_154 : decode cX7_branches 154 = .ok (.iconst 1, 1) := by decide +kernel
theorem dX7_branches_155 : decode cX7_branches 155 = .ok (.goto 4, 3) := by decide +kernel
theorem dX7_branches_158 : decode cX7_branches 158 = .ok (.iconst 0, 1) := by decide +kernel
theorem dX7_branches_159 : decode cX7_branches 159 = .ok (.istore_n 2, 1) := by decide +kernel
theorem dX7_branches_160 : decode cX7_branches 160 = .ok (.goto 31, 3) := by decide +kernel
theorem dX7_branches_163 : decode cX7_branches 163 = .ok (.aload_n 0, 1) := by decide +kernel
theorem dX7_branches_164 : decode cX7_branches 164 = .ok (.iconst 4, 1) := by decide +kernel
theorem dX7_branches_165 : decode cX7_branches 165 = .ok (.invokevirtual 160, 3) := by decide +kernel
theorem dX7_branches_168 : decode cX7_branches 168 = .ok (.ifCond .ne 21, 3) := by decide +kernel
theorem dX7_branches_171 : decode cX7_branches 171 = .ok (.aload_n 0, 1) := by decide +kernel
theorem dX7_branches_172 : decode cX7_branches 172 = .ok (.bipush 8, 2) := by decide +kernel
theorem dX7_branches_174 : decode cX7_branches 174 = .ok (.invokevirtual 160, 3) := by decide +kernel
theorem dX7_branches_177 : decode cX7_branches 177 = .ok (.aload_n 0, 1) := by decide +kernel
theorem dX7_branches_178 : decode cX7_branches 178 = .ok (.iconst 2, 1) := by decide +kernel
theorem dX7_branches_179 : decode cX7_branches 179 = .ok (.invokevirtual 160, 3) := by decide +kernel
theorem dX7_branches_182 : decode cX7_branches 182 = .ok (.if_icmp .ne 7, 3) := by decide +kernel
theorem dX7_branches_185 : decode cX7_branches 185 = .ok (.iconst 1, 1) := by decide +kernel
theorem dX7_branches_186 : decode cX7_branches 186 = .ok (.goto 4, 3) := by decide +kernel
theorem dX7_branches_189 : decode cX7_branches 189 = .ok (.iconst 0, 1) := by decide +kernel
theorem dX7_branches_190 : decode cX7_branches 190 = .ok (.istore_n 2, 1) := by decide +kernel
theorem dX7_branches_191 : decode cX7_branches 191 = .ok (.iload_n 2, 1) := by decide +kernel
theorem dX7_branches_192 : decode cX7_branches 192 = .ok (.iload_n 1, 1) := by decide +kernel
theorem dX7_branches_193 : decode cX7_branches 193 = .ok (.iconst 1, 1) := by decide +kernel
theorem dX7_branches_194 : decode cX7_branches 194 = .ok (.iand, 1) := by decide +kernel
theorem dX7_branches_195 : decode cX7_branches 195 = .ok (.ifCond .ne 7, 3) := by decide +kernel
theorem dX7_branches_198 : decode cX7_branches 198 = .ok (.iconst 1, 1) := by decide +kernel
theorem dX7_branches_199 : decode cX7_branches 199 = .ok (.goto 4, 3) := by decide +kernel
theorem dX7_branches_202 : decode cX7_branches 202 = .ok (.iconst 0, 1) := by decide +kernel
theorem dX7_branches_203 : decode cX7_branches 203 = .ok (.if_icmp .ne 7, 3) := by decide +kernel
theorem dX7_branches_206 : decode cX7_branches 206 = .ok (.iconst 1, 1) := by decide +kernel
theorem dX7_branches_207 : decode cX7_branches 207 = .ok (.goto 4, 3) := by decide +kernel
theorem dX7_branches_210 : decode cX7_branches 210 = .ok (.iconst 0, 1) := by decide +kernel
theorem dX7_branches_211 : decode cX7_branches 211 = .ok (.ireturn, 1) := by decide +kernel
set_option maxRecDepth 20000 in
theorem ggX7_branch_X7_next : GoodIn wsX7_branch wsX7_next := goodIn_r _ [7, 1, 2, 8, 9, 10, 6, 11, 12, 13, 14, 15, 16, 17, 18, 19, 20, 21, 22, 23, 24, 25, 26, 27, 28, 29, 30, 31, 32, 33, 34, 35, 36, 37, 38, 39, 40, 41, 45, 46, 47, 48, 49, 50, 51, 52, 53, 54, 55, 56, 57, 58, 59, 60, 61, 62, 63, 64, 65, 66, 67, 68, 69, 70, 71, 72, 73, 74, 75] rfl (by decide +kernel)
set_option maxRecDepth 20000 in
theorem gX7_branch_X7_next : GoodIn wsX7_branch (wsV RX7 122 RX7 yX7_next wsX7_next) := goodIn_app (goodIn_of _ (by decide +kernel)) ggX7_branch_X7_next
set_option maxRecDepth 20000 in
theorem ggX7_branch_X7_signed : GoodIn wsX7_branch wsX7_signed := goodIn_r _ [44] rfl (by decide +kernel)
set_option maxRecDepth 20000 in
theorem gX7_branch_X7_signed : GoodIn wsX7_branch (va_wsS RX7 157 yX7_signed wsX7_signed) := goodIn_app (goodIn_of _ (by decide +kernel)) ggX7_branch_X7_signed
theorem dX7_branch_0 : decode cX7_branch 0 = .ok (.aload_n 0, 1) := by decide +kernel
theorem dX7_branch_1 : decode cX7_branch 1 = .ok (.invokevirtual 122, 3) := by decide +kernel
theorem dX7_branch_4 : decode cX7_branch 4 = .ok (.invokestatic 157, 3) := by decide +kernel
theorem dX7_branch_7 : decode cX7_branch 7 = .ok (.istore_n 2, 1) := by decide +kernel
theorem dX7_branch_8 : decode cX7_branch 8 = .ok (.iload_n 1, 1) := by decide +kernel
theorem dX7_branch_9 : decode cX7_branch 9 = .ok (.ifCond .eq 16, 3) := by decide +kernel
theorem dX7_branch_12 : decode cX7_branch 12 = .ok (.aload_n 0, 1) := by decide +kernel
theorem dX7_branch_13 : decode cX7_branch 13 = .ok (.aload_n 0, 1) := by decide +kernel
theorem dX7_branch_14 : decode cX7_branch 14 = .ok (.getfield 119, 3) := by decide +kernel
theorem dX7_branch_17 : decode cX7_branch 17 = .ok (.iload_n 2, 1) := by decide +kernel
theorem dX7_branch_18 : decode cX7_branch 18 = .ok (.iadd, 1) := by decide +kernel
theorem dX7_branch_19 : decode cX7_branch 19 = .ok (.ldc 93, 2) := by decide +kernel
theorem dX7_branch_21 : decode cX7_branch 21 = .ok (.iand, 1) := by decide +kernel
theorem dX7_branch_22 : decode cX7_branch 22 = .ok (.putfield 119, 3) := by decide +kernel
theorem dX7_branch_25 : decode cX7_branch 25 = .ok (.return_, 1) := by decide +kernel
set_option maxRecDepth 20000 in
theorem ggX7_adjust_X7_is : GoodIn wsX7_adjust wsX7_is := goodIn_r _ [6, 7, 20, 21, 22, 23, 24, 25, 26, 27, 28, 29, 30, 31, 32, 33, 34, 35, 36, 37, 38, 39, 40, 41, 42, 43, 44, 45, 46, 47, 48, 49, 50] rfl (by decide +kernel)
set_option maxRecDepth 20000 in
theorem gX7_adjust_X7_is : GoodIn wsX7_adjust (wsV RX7 160 RX7 yX7_is wsX7_is) := goodIn_app (goodIn_of _ (by decide +kernel)) ggX7_adjust_X7_is
set_option maxRecDepth 20000 in
theorem ggX7_adjust_X7_nzv : GoodIn wsX7_adjust wsX7_nzv := goodIn_r _ [11, 12, 13, 14, 5, 15, 7, 16, 17, 18, 19, 20, 21, 22, 23, 24, 25, 26, 27, 28, 29, 30, 31, 32, 33, 34, 35, 36, 37, 38, 39, 40, 41, 42, 43, 44, 45, 46, 47, 48, 49, 50] rfl (by decide +kernel)
set_option maxRecDepth 20000 in
theorem gX7_adjust_X7_nzv : GoodIn wsX7_adjust (wsV RX7 163 RX7 yX7_nzv wsX7_nzv) := goodIn_app (goodIn_of _ (by decide +kernel)) ggX7_adjust_X7_nzv
set_option maxRecDepth 20000 in
theorem ggX7_adjust_X7_tell : GoodIn wsX7_adjust wsX7_tell := goodIn_r _ [15, 7, 20, 21, 22, 23, 24, 25, 26, 27, 28, 29, 30, 31, 32, 33, 34, 35, 36, 37, 38, 39, 40, 41, 42, 43, 44, 45, 46, 47, 48, 49, 50] rfl (by decide +kernel)
set_option maxRecDepth 20000 in
theorem gX7_adjust_X7_tell : GoodIn wsX7_adjust (wsV RX7 149 RX7 yX7_tell wsX7_tell) := goodIn_app (goodIn_of _ (by decide +kernel)) ggX7_adjust_X7_tell
theorem dX7_adjust_0 : decode cX7_adjust 0 = .ok (.aload_n 0, 1) := by decide +kernel
theorem dX7_adjust_1 : decode cX7_adjust 1 = .ok (.getfield 140, 3) := by decide +kernel
theorem dX7_adjust_4 : decode cX7_adjust 4 = .ok (.iconst 4, 1) := by decide +kernel
theorem dX7_adjust_5 : decode cX7_adjust 5 = .ok (.ishr, 1) := by decide +kernel
theorem dX7_adjust_6 : decode cX7_adjust 6 = .ok (.istore_n 1, 1) := by decide +kernel
theorem dX7_adjust_7 : decode cX7_adjust 7 = .ok (.aload_n 0, 1) := by decide +kernel
theorem dX7_adjust_8 : decode cX7_adjust 8 = .ok (.getfield 140, 3) := by decide +kernel
theorem dX7_adjust_11 : decode cX7_adjust 11 = .ok (.bipush 15, 2) := by decide +kernel
theorem dX7_adjust_13 : decode cX7_adjust 13 = .ok (.iand, 1) := by decide +kernel
theorem dX7_adjust_14 : decode cX7_adjust 14 = .ok (.istore_n 2, 1) := by decide +kernel
theorem dX7_adjust_15 : decode cX7_adjust 15 = .ok (.iload_n 2, 1) := by decide +kernel
theorem dX7_adjust_16 : decode cX7_adjust 16 = .ok (.bipush 9, 2) := by decide +kernel
theorem dX7_adjust_18 : decode cX7_adjust 18 = .ok (.if_icmp .gt 12, 3) := by decide +kernel
theorem dX7_adjust_21 : decode cX7_adjust 21 = .ok (.aload_n 0, 1) := by decide +kernel
theorem dX7_adjust_22 : decode cX7_adjust 22 = .ok (.bipush 32, 2) := by decide +kernel
theorem dX7_adjust_24 : decode cX7_adjust 24 = .ok (.invokevirtual 160, 3) := by decide +kernel
theorem dX7_adjust_27 : decode cX7_adjust 27 = .ok (.ifCond .eq 7, 3) := by decide +kernel
theorem dX7_adjust_30 : decode cX7_adjust 30 = .ok (.iconst 1, 1) := by decide +kernel
theorem dX7_adjust_31 : decode cX7_adjust 31 = .ok (.goto 4, 3) := by decide +kernel
theorem dX7_adjust_34 : decode cX7_adjust 34 = .ok (.iconst 0, 1) := by decide +kernel
theorem dX7_adjust_35 : decode cX7_adjust 35 = .ok (.istore_n 3, 1) := by decide +kernel
theorem dX7_adjust_36 : decode cX7_adjust 36 = .ok (.iload_n 1, 1) := by decide +kernel
theorem dX7_adjust_37 : decode cX7_adjust 37 = .ok (.bipush 9, 2) := by decide +kernel
theorem dX7_adjust_39 : decode cX7_adjust 39 = .ok (.if_icmp .gt 23, 3) := by decide +kernel
theorem dX7_adjust_42 : decode cX7_adjust 42 = .ok (.aload_n 0, 1) := by decide +kernel
theorem dX7_adjust_43 : decode cX7_adjust 43 = .ok (.iconst 1, 1) := by decide +kernel
theorem dX7_adjust_44 : decode cX7_adjust 44 = .ok (.invokevirtual 160, 3) := by decide +kernel
theorem dX7_adjust_47 : decode cX7_adjust 47 = .ok (.ifCond .ne 15, 3) := by decide +kernel
theorem dX7_adjust_50 : decode cX7_adjust 50 = .ok (.iload_n 1, 1) := by decide +kernel
theorem dX7_adjust_51 : decode cX7_adjust 51 = .ok (.bipush 9, 2) := by decide +kernel
theorem dX7_adjust_53 : decode cX7_adjust 53 = .ok (.if_icmp .ne 13, 3) := by decide +kernel
theorem dX7_adjust_56 : decode cX7_adjust 56 = .ok (.iload_n 2, 1) := by decide +kernel
theorem dX7_adjust_57 : decode cX7_adjust 57 = .ok (.bipush 9, 2) := by decide +kernel
theorem dX7_adjust_59 : decode cX7_adjust 59 = .ok (.if_icmp .le 7, 3) := by decide +kernel
theorem dX7_adjust_62 : decode cX7_adjust 62 = .ok (.iconst 1, 1) := by decide +kernel
theorem dX7_adjust_63 : decode cX7_adjust 63 = .ok (.goto 4, 3) := by decide +kernel
theorem dX7_adjust_66 : decode cX7_adjust 66 = .ok (.iconst 0, 1) := by decide +kernel
theorem dX7_adjust_67 : decode cX7_adjust 67 = .ok (.istore 4, 2) := by decide +kernel
theorem dX7_adjust_69 : decode cX7_adjust 69 = .ok (.aload_n 0, 1) := by decide +kernel
theorem dX7_adjust_70 : decode cX7_adjust 70 = .ok (.aload_n 0, 1) := by decide +kernel
theorem dX7_adjust_71 : decode cX7_adjust 71 = .ok (.aload_n 0, 1) := by decide +kernel
theorem dX7_adjust_72 : decode cX7_adjust 72 = .ok (.getfield 140, 3) := by decide +kernel
theorem dX7_adjust_75 : decode cX7_adjust 75 = .ok (.iload_n 3, 1) := by decide +kernel
theorem dX7_adjust_76 : decode cX7_adjust 76 = .ok (.ifCond .eq 8, 3) := by decide +kernel
theorem dX7_adjust_79 : decode cX7_adjust 79 = .ok (.bipush 6, 2) := by decide +kernel
theorem dX7_adjust_81 : decode cX7_adjust 81 = .ok (.goto 4, 3) := by decide +kernel
theorem dX7_adjust_84 : decode cX7_adjust 84 = .ok (.iconst 0, 1) := by decide +kernel
theorem dX7_adjust_85 : decode cX7_adjust 85 = .ok (.iadd, 1) := by decide +kernel
theorem dX7_adjust_86 : decode cX7_adjust 86 = .ok (.iload 4, 2) := by decide +kernel
theorem dX7_adjust_88 : decode cX7_adjust 88 = .ok (.ifCond .eq 8, 3) := by decide +kernel
theorem dX7_adjust_91 : decode cX7_adjust 91 = .ok (.bipush 96, 2) := by decide +kernel
theorem dX7_adjust_93 : decode cX7_adjust 93 = .ok (.goto 4, 3) := by decide +kernel
theorem dX7_adjust_96 : decode cX7_adjust 96 = .ok (.iconst 0, 1) := by decide +kernel
theorem dX7_adjust_97 : decode cX7_adjust 97 = .ok (.iadd, 1) := by decide +kernel
theorem dX7_adjust_98 : decode cX7_adjust 98 = .ok (.invokevirtual 163, 3) := by decide +kernel
theorem dX7_adjust_101 : decode cX7_adjust 101 = .ok (.putfield 140, 3) := by decide +kernel
theorem dX7_adjust_104 : decode cX7_adjust 104 = .ok (.iload 4, 2) := by decide +kernel
theorem dX7_adjust_106 : decode cX7_adjust 106 = .ok (.ifCond .eq 9, 3) := by decide +kernel
theorem dX7_adjust_109 : decode cX7_adjust 109 = .ok (.aload_n 0, 1) := by decide +kernel
theorem dX7_adjust_110 : decode cX7_adjust 110 = .ok (.iconst 1, 1) := by decide +kernel
theorem dX7_adjust_111 : decode cX7_adjust 111 = .ok (.iconst 1, 1) := by decide +kernel
theorem dX7_adjust_112 : decode cX7_adjust 112 = .ok (.invokevirtual 149, 3) := by decide +kernel
theorem dX7_adjust_115 : decode cX7_adjust 115 = .ok (.return_, 1) := by decide +kernel
set_option maxRecDepth 20000 in
theorem ggX7_first_X7_tell : GoodIn wsX7_first wsX7_tell := goodIn_r _ [10, 2, 38, 39, 40, 41, 42, 43, 44, 45, 46, 47, 48, 49, 50, 51, 52, 53, 54, 55, 56, 57, 58, 59, 60, 61, 62, 63, 64, 65, 66, 67, 68] rfl (by decide +kernel)
set_option maxRecDepth 20000 in
theorem gX7_first_X7_tell : GoodIn wsX7_first (wsV RX7 149 RX7 yX7_tell wsX7_tell) := goodIn_app (goodIn_of _ (by decide +kernel)) ggX7_first_X7_tell
set_option maxRecDepth 20000 in
theorem ggX7_first_X7_less : GoodIn wsX7_first wsX7_less := goodIn_r _ [14, 15, 16, 9, 17, 6, 7, 8, 10, 2, 18, 19, 20, 21, 38, 39, 40, 41, 42, 43, 44, 45, 46, 47, 48, 49, 50, 51, 52, 53, 54, 55, 56, 57, 58, 59, 60, 61, 62, 63, 64, 65, 66, 67, 68] rfl (by decide +kernel)
set_option maxRecDepth 20000 in
theorem gX7_first_X7_less : GoodIn wsX7_first (wsV RX7 166 RX7 yX7_less wsX7_less) := goodIn_app (goodIn_of _ (by decide +kernel)) ggX7_first_X7_less
set_option maxRecDepth 20000 in
theorem ggX7_first_X7_nzv : GoodIn wsX7_first wsX7_nzv := goodIn_r _ [25, 6, 7, 8, 9, 10, 2, 18, 19, 20, 21, 38, 39, 40, 41, 42, 43, 44, 45, 46, 47, 48, 49, 50, 51, 52, 53, 54, 55, 56, 57, 58, 59, 60, 61, 62, 63, 64, 65, 66, 67, 68] rfl (by decide +kernel)
set_option maxRecDepth 20000 in
theorem gX7_first_X7_nzv : GoodIn wsX7_first (wsV RX7 163 RX7 yX7_nzv wsX7_nzv) := goodIn_app (goodIn_of _ (by decide +kernel)) ggX7_first_X7_nzv
set_option maxRecDepth 20000 in
theorem ggX7_first_X7_adjust : GoodIn wsX7_first wsX7_adjust := goodIn_r _ [29, 1, 30, 31, 32, 9, 33, 2, 22, 23, 24, 25, 6, 7, 8, 10, 18, 19, 20, 21, 38, 39, 40, 41, 42, 43, 44, 45, 46, 47, 48, 49, 50, 51, 52, 53, 54, 55, 56, 57, 58, 59, 60, 61, 62, 63, 64, 65, 66, 67, 68] rfl (by decide +kernel)
set_option maxRecDepth 20000 in
theorem gX7_first_X7_adjust : GoodIn wsX7_first (wsV RX7 170 RX7 yX7_adjust wsX7_adjust) := goodIn_app (goodIn_of _ (by decide +kernel)) ggX7_first_X7_adjust
set_option maxRecDepth 20000 in
theorem ggX7_first_X7_plus : GoodIn wsX7_first wsX7_plus := goodIn_r _ [37, 15, 16, 9, 17, 6, 7, 8, 10, 2, 18, 19, 20, 21, 38, 39, 40, 41, 42, 43, 44, 45, 46, 47, 48, 49, 50, 51, 52, 53, 54, 55, 56, 57, 58, 59, 60, 61, 62, 63, 64, 65, 66, 67, 68] rfl (by decide +kernel)
set_option maxRecDepth 20000 in
theorem gX7_first_X7_plus : GoodIn wsX7_first (wsV RX7 173 RX7 yX7_plus wsX7_plus) := goodIn_app (goodIn_of _ (by decide +kernel)) ggX7_first_X7_plus
theorem dX7_first_0 : decode cX7_first 0 = .ok (.iload_n 1, 1) := by decide +kernel
theorem dX7_first_1 : decode cX7_first 1 = .ok (.tableswitch 359 1 27 #[123, 359, 359, 359, 359, 125, 138, 152, 184, 216, 216, 234, 234, 252, 252, 271, 290, 359, 359, 359, 359, 306, 320, 359, 334, 359, 340], 123) := by decide +kernel
theorem dX7_first_124 : decode cX7_first 124 = .ok (.iconst 1, 1) := by decide +kernel
theorem dX7_first_125 : decode cX7_first 125 = .ok (.ireturn, 1) := by decide +kernel
theorem dX7_first_126 : decode cX7_first 126 = .ok (.aload_n 0, 1) := by decide +kernel
theorem dX7_first_127 : decode cX7_first 127 = .ok (.aload_n 0, 1) := by decide +kernel
theorem dX7_first_128 : decode cX7_first 128 = .ok (.getfield 140, 3) := by decide +kernel
theorem dX7_first_131 : decode cX7_first 131 = .ok (.bipush 63, 2) := by decide +kernel
theorem dX7_first_133 : decode cX7_first 133 = .ok (.iand, 1) := by decide +kernel
theorem dX7_first_134 : decode cX7_first 134 = .ok (.putfield 146, 3) := by decide +kernel
theorem dX7_first_137 : decode cX7_first 137 = .ok (.iconst 1, 1) := by decide +kernel
theorem dX7_first_138 : decode cX7_first 138 = .ok (.ireturn, 1) := by decide +kernel
theorem dX7_first_139 : decode cX7_first 139 = .ok (.aload_n 0, 1) := by decide +kernel
theorem dX7_first_140 : decode cX7_first 140 = .ok (.aload_n 0, 1) := by decide +kernel
theorem dX7_first_141 : decode cX7_first 141 = .ok (.getfield 146, 3) := by decide +kernel
theorem dX7_first_144 : decode cX7_first 144 = .ok (.sipush 192, 3) := by decide +kernel
theorem dX7_first_147 : decode cX7_first 147 = .ok (.ior, 1) := by decide +kernel
theorem dX7_first_148 : decode cX7_first 148 = .ok (.putfield 140, 3) := by decide +kernel
theorem dX7_first_151 : decode cX7_first 151 = .ok (.iconst 1, 1) := by decide +kernel
theorem dX7_first_152 : decode cX7_first 152 = .ok (.ireturn, 1) := by decide +kernel
theorem dX7_first_153 : decode cX7_first 153 = .ok (.aload_n 0, 1) := by decide +kernel
theorem dX7_first_154 : decode cX7_first 154 = .ok (.aload_n 0, 1) := by decide +kernel
theorem dX7_first_155 : decode cX7_first 155 = .ok (.getfield 137, 3) := by decide +kernel
theorem dX7_first_158 : decode cX7_first 158 = .ok (.iconst 1, 1) := by decide +kernel
theorem dX7_first_159 : decode cX7_first 159 = .ok (.iadd, 1) := by decide +kernel
theorem dX7_first_160 : decode cX7_first 160 = .ok (.ldc 93, 2) := by decide +kernel
theorem dX7_first_162 : decode cX7_first 162 = .ok (.iand, 1) := by decide +kernel
theorem dX7_first_163 : decode cX7_first 163 = .ok (.putfield 137, 3) := by decide +kernel
theorem dX7_first_166 : decode cX7_first 166 = .ok (.aload_n 0, 1) := by decide +kernel
theorem dX7_first_167 : decode cX7_first 167 = .ok (.iconst 4, 1) := by decide +kernel
theorem dX7_first_168 : decode cX7_first 168 = .ok (.aload_n 0, 1) := by decide +kernel
theorem dX7_first_169 : decode cX7_first 169 = .ok (.getfield 137, 3) := by decide +kernel
theorem dX7_first_172 : decode cX7_first 172 = .ok (.ifCond .ne 7, 3) := by decide +kernel
theorem dX7_first_175 : decode cX7_first 175 = .ok (.iconst 1, 1) := by decide +kernel
theorem dX7_first_176 : decode cX7_first 176 = .ok (.goto 4, 3) := by decide +kernel
theorem dX7_first_179 : decode cX7_first 179 = .ok (.iconst 0, 1) := by decide +kernel
theorem dX7_first_180 : decode cX7_first 180 = .ok (.invokevirtual 149, 3) := by decide +kernel
theorem dX7_first_183 : decode cX7_first 183 = .ok (.iconst 1, 1) := by decide +kernel
theorem dX7_first_184 : decode cX7_first 184 = .ok (.ireturn, 1) := by decide +kernel
theorem dX7_first_185 : decode cX7_first 185 = .ok (.aload_n 0, 1) := by decide +kernel
theorem dX7_first_186 : decode cX7_first 186 = .ok (.aload_n 0, 1) := by decide +kernel
theorem dX7_first_187 : decode cX7_first 187 = .ok (.getfield 137, 3) := by decide +kernel
theorem dX7_first_190 : decode cX7_first 190 = .ok (.iconst 1, 1) := by decide +kernel
theorem dX7_first_191 : decode cX7_first 191 = .ok (.isub, 1) := by decide +kernel
theorem dX7_first_192 : decode cX7_first 192 = .ok (.ldc 93, 2) := by decide +kernel
theorem dX7_first_194 : decode cX7_first 194 = .ok (.iand, 1) := by decide +kernel
theorem dX7_first_195 : decode cX7_first 195 = .ok (.putfield 137, 3) := by decide +kernel
theorem dX7_first_198 : decode cX7_first 198 = .ok (.aload_n 0, 1) := by decide +kernel
theorem dX7_first_199 : decode cX7_first 199 = .ok (.iconst 4, 1) := by decide +kernel
theorem dX7_first_200 : decode cX7_first 200 = .ok (.aload_n 0, 1) := by decide +kernel
theorem dX7_first_201 : decode cX7_first 201 = .ok (.getfield 137, 3) := by decide +kernel
theorem dX7_first_204 : decode cX7_first 204 = .ok (.ifCond .ne 7, 3) := by decide +kernel
theorem dX7_first_207 : decode cX7_first 207 = .ok (.iconst 1, 1) := by decide +kernel
theorem dX7_first_208 : decode cX7_first 208 = .ok (.goto 4, 3) := by decide +kernel
theorem dX7_first_211 : decode cX7_first 211 = .ok (.iconst 0, 1) := by decide +kernel
theorem dX7_first_212 : decode cX7_first 212 = .ok (.invokevirtual 149, 3) := by decide +kernel
theorem dX7_first_215 : decode cX7_first 215 = .ok (.iconst 1, 1) := by decide +kernel
theorem dX7_first_216 : decode cX7_first 216 = .ok (.ireturn, 1) := by decide +kernel
theorem dX7_first_217 : decode cX7_first 217 = .ok (.aload_n 0, 1) := by decide +kernel
theorem dX7_first_218 : decode cX7_first 218 = .ok (.iconst 2, 1) := by decide +kernel
theorem dX7_first_219 : decode cX7_first 219 = .ok (.iload_n 1, 1) := by decide +kernel
theorem dX7_first_220 : decode cX7_first 220 = .ok (.bipush 11, 2) := by decide +kernel
theorem dX7_first_222 : decode cX7_first 222 = .ok (.if_icmp .ne 7, 3) := by decide +kernel
theorem dX7_first_225 : decode cX7_first 225 = .ok (.iconst 1, 1) := by decide +kernel
theorem dX7_first_226 : decode cX7_first 226 = .ok (.goto 4, 3) := by decide +kernel
theorem dX7_first_229 : decode cX7_first 229 = .ok (.iconst 0, 1) := by decide +kernel
theorem dX7_first_230 : decode cX7_first 230 = .ok (.invokevirtual 149, 3) := by decide +kernel
theorem dX7_first_233 : decode cX7_first 233 = .ok (.iconst 1, 1) := by decide +kernel
theorem dX7_first_234 : decode cX7_first 234 = .ok (.ireturn, 1) := by decide +kernel
theorem dX7_first_235 : decode cX7_first 235 = .ok (.aload_n 0, 1) := by decide +kernel
theorem dX7_first_236 : decode cX7_first 236 = .ok (.iconst 1, 1) := by decide +kernel
theorem dX7_first_237 : decode cX7_first 237 = .ok (.iload_n 1, 1) := by decide +kernel
theorem dX7_first_238 : decode cX7_first 238 = .ok (.bipush 13, 2) := by decide +kernel
theorem dX7_first_240 : decode cX7_first 240 = .ok (.if_icmp .ne 7, 3) := by decide +kernel
theorem dX7_first_243 : decode cX7_first 243 = .ok (.iconst 1, 1) := by decide +kernel
theorem dX7_first_244 : decode cX7_first 244 = .ok (.goto 4, 3) := by decide +kernel
theorem dX7_first_247 : decode cX7_first 247 = .ok (.iconst 0, 1) := by decide +kernel
theorem dX7_first_248 : decode cX7_first 248 = .ok (.invokevirtual 149, 3) := by decide +kernel
theorem dX7_first_251 : decode cX7_first 251 = .ok (.iconst 1, 1) := by decide +kernel
theorem dX7_first_252 : decode cX7_first 252 = .ok (.ireturn, 1) := by decide +kernel
theorem dX7_first_253 : decode cX7_first 253 = .ok (.aload_n 0, 1) := by decide +kernel
theorem dX7_first_254 : decode cX7_first 254 = .ok (.bipush 16, 2) := by decide +kernel
theorem dX7_first_256 : decode cX7_first 256 = .ok (.iload_n 1, 1) := by decide +kernel
theorem dX7_first_257 : decode cX7_first 257 = .ok (.bipush 15, 2) := by decide +kernel
theorem dX7_first_259 : decode cX7_first 259 = .ok (.if_icmp .ne 7, 3) := by decide +kernel
theorem dX7_first_262 : decode cX7_first 262 = .ok (.iconst 1, 1) := by decide +kernel
theorem dX7_first_263 : decode cX7_first 263 = .ok (.goto 4, 3) := by decide +kernel
theorem dX7_first_266 : decode cX7_first 266 = .ok (.iconst 0, 1) := by decide +kernel
theorem dX7_first_267 : decode cX7_first 267 = .ok (.invokevirtual 149, 3) := by decide +kernel
theorem dX7_first_270 : decode cX7_first 270 = .ok (.iconst 1, 1) := by decide +kernel
theorem dX7_first_271 : decode cX7_first 271 = .ok (.ireturn, 1) := by decide +kernel
theorem dX7_first_272 : decode cX7_first 272 = .ok (.aload_n 0, 1) := by decide +kernel
theorem dX7_first_273 : decode cX7_first 273 = .ok (.aload_n 0, 1) := by decide +kernel
theorem dX7_first_274 : decode cX7_first 274 = .ok (.aload_n 0, 1) := by decide +kernel
theorem dX7_first_275 : decode cX7_first 275 = .ok (.getfield 140, 3) := by decide +kernel
theorem dX7_first_278 : decode cX7_first 278 = .ok (.aload_n 0, 1) := by decide +kernel
theorem dX7_first_279 : decode cX7_first 279 = .ok (.getfield 143, 3) := by decide +kernel
theorem dX7_first_282 : decode cX7_first 282 = .ok (.iconst 0, 1) := by decide +kernel
theorem dX7_first_283 : decode cX7_first 283 = .ok (.invokevirtual 166, 3) := by decide +kernel
theorem dX7_first_286 : decode cX7_first 286 = .ok (.putfield 140, 3) := by decide +kernel
theorem dX7_first_289 : decode cX7_first 289 = .ok (.iconst 1, 1) := by decide +kernel
theorem dX7_first_290 : decode cX7_first 290 = .ok (.ireturn, 1) := by decide +kernel
theorem dX7_first_291 : decode cX7_first 291 = .ok (.aload_n 0, 1) := by decide +kernel
theorem dX7_first_292 : decode cX7_first 292 = .ok (.aload_n 0, 1) := by decide +kernel
theorem dX7_first_293 : decode cX7_first 293 = .ok (.getfield 140, 3) := by decide +kernel
theorem dX7_first_296 : decode cX7_first 296 = .ok (.aload_n 0, 1) := by decide +kernel
theorem dX7_first_297 : decode cX7_first 297 = .ok (.getfield 143, 3) := by decide +kernel
theorem dX7_first_300 : decode cX7_first 300 = .ok (.iconst 0, 1) := by decide +kernel
theorem dX7_first_301 : decode cX7_first 301 = .ok (.invokevirtual 166, 3) := by decide +kernel
theorem dX7_first_304 : decode cX7_first 304 = .ok (.pop, 1) := by decide +kernel
theorem dX7_first_305 : decode cX7_first 305 = .ok (.iconst 1, 1) := by decide +kernel
theorem dX7_first_306 : decode cX7_first 306 = .ok (.ireturn, 1) := by decide +kernel
theorem dX7_first_307 : decode cX7_first 307 = .ok (.aload_n 0, 1) := by decide +kernel
theorem dX7_first_308 : decode cX7_first 308 = .ok (.aload_n 0, 1) := by decide +kernel
theorem dX7_first_309 : decode cX7_first 309 = .ok (.aload_n 0, 1) := by decide +kernel
theorem dX7_first_310 : decode cX7_first 310 = .ok (.getfield 140, 3) := by decide +kernel
theorem dX7_first_313 : decode cX7_first 313 = .ok (.invokevirtual 163, 3) := by decide +kernel
theorem dX7_first_316 : decode cX7_first 316 = .ok (.putfield 143, 3) := by decide +kernel
theorem dX7_first_319 : decode cX7_first 319 = .ok (.iconst 1, 1) := by decide +kernel
theorem dX7_first_320 : decode cX7_first 320 = .ok (.ireturn, 1) := by decide +kernel
theorem dX7_first_321 : decode cX7_first 321 = .ok (.aload_n 0, 1) := by decide +kernel
theorem dX7_first_322 : decode cX7_first 322 = .ok (.aload_n 0, 1) := by decide +kernel
theorem dX7_first_323 : decode cX7_first 323 = .ok (.aload_n 0, 1) := by decide +kernel
theorem dX7_first_324 : decode cX7_first 324 = .ok (.getfield 143, 3) := by decide +kernel
theorem dX7_first_327 : decode cX7_first 327 = .ok (.invokevirtual 163, 3) := by decide +kernel
theorem dX7_first_330 : decode cX7_first 330 = .ok (.putfield 140, 3) := by decide +kernel
theorem dX7_first_333 : decode cX7_first 333 = .ok (.iconst 1, 1) := by decide +kernel
theorem dX7_first_334 : decode cX7_first 334 = .ok (.ireturn, 1) := by decide +kernel
theorem dX7_first_335 : decode cX7_first 335 = .ok (.aload_n 0, 1) := by decide +kernel
theorem dX7_first_336 : decode cX7_first 336 = .ok (.invokevirtual 170, 3) := by decide +kernel
theorem dX7_first_339 : decode cX7_first 339 = .ok (.iconst 1, 1) := by decide +kernel
theorem dX7_first_340 : decode cX7_first 340 = .ok (.ireturn, 1) := by decide +kernel
theorem dX7_first_341 : decode cX7_first 341 = .ok (.aload_n 0, 1) := by decide +kernel
theorem dX7_first_342 : decode cX7_first 342 = .ok (.aload_n 0, 1) := by decide +kernel
theorem dX7_first_343 : decode cX7_first 343 = .ok (.aload_n 0, 1) := by decide +kernel
theorem dX7_first_344 : decode cX7_first 344 = .ok (.getfield 140, 3) := by decide +kernel
theorem dX7_first_347 : decode cX7_first 347 = .ok (.aload_n 0, 1) := by decide +kernel
theorem dX7_first_348 : decode cX7_first 348 = .ok (.getfield 143, 3) := by decide +kernel
theorem dX7_first_351 : decode cX7_first 351 = .ok (.iconst 0, 1) := by decide +kernel
theorem dX7_first_352 : decode cX7_first 352 = .ok (.invokevirtual 173, 3) := by decide +kernel
theorem dX7_first_355 : decode cX7_first 355 = .ok (.putfield 140, 3) := by decide +kernel
theorem dX7_first_358 : decode cX7_first 358 = .ok (.iconst 1, 1) := by decide +kernel
theorem dX7_first_359 : decode cX7_first 359 = .ok (.ireturn, 1) := by decide +kernel
theorem dX7_first_360 : decode cX7_first 360 = .ok (.iconst 0, 1) := by decide +kernel
theorem dX7_first_361 : decode cX7_first 361 = .ok (.ireturn, 1) := by decide +kernel
set_option maxRecDepth 20000 in
theorem ggX7_stacked_X7_pull : GoodIn wsX7_stacked wsX7_pull := goodIn_r _ [13, 1, 2, 14, 15, 16, 12, 17, 18, 19, 20, 21, 22, 23, 24, 25, 26, 27, 28, 29, 30, 31, 32, 33, 34, 35, 36, 37, 38, 39, 40, 41, 42, 43, 44, 45, 46, 47, 96, 97, 98, 99, 100, 101, 102, 103, 104, 105, 106, 107, 108, 109, 110, 111, 112, 113, 114, 115, 116, 117, 118, 119, 120, 121, 122, 123, 124, 125, 126] rfl (by decide +kernel)
set_option maxRecDepth 20000 in
theorem gX7_stacked_X7_pull : GoodIn wsX7_stacked (wsV RX7 131 RX7 yX7_pull wsX7_pull) := goodIn_app (goodIn_of _ (by decide +kernel)) ggX7_stacked_X7_pull
set_option maxRecDepth 20000 in
theorem ggX7_stacked_X7_push : GoodIn wsX7_stacked wsX7_push := goodIn_r _ [51, 1, 2, 52, 53, 54, 12, 55, 18, 46, 56, 41, 57, 58, 59, 60, 21, 29, 31, 30, 33, 34, 35, 36, 61, 62, 63, 64, 65, 66, 67, 68, 47, 22, 23, 69, 70, 96, 97, 98, 99, 100, 101, 102, 103, 104, 105, 106, 107, 108, 109, 110, 111, 112, 113, 114, 115, 116, 117, 118, 119, 120, 121, 122, 123, 124, 125, 126] rfl (by decide +kernel)
set_option maxRecDepth 20000 in
theorem gX7_stacked_X7_push : GoodIn wsX7_stacked (wsV RX7 128 RX7 yX7_push wsX7_push) := goodIn_app (goodIn_of _ (by decide +kernel)) ggX7_stacked_X7_push
set_option maxRecDepth 20000 in
theorem ggX7_stacked_X7_pullWord : GoodIn wsX7_stacked wsX7_pullWord := goodIn_r _ [74, 9, 10, 11, 12, 13, 1, 2, 14, 15, 16, 17, 18, 19, 20, 21, 22, 23, 24, 25, 26, 27, 28, 29, 30, 31, 32, 33, 34, 35, 36, 37, 38, 39, 40, 41, 42, 43, 44, 45, 46, 47, 96, 97, 98, 99, 100, 101, 102, 103, 104, 105, 106, 107, 108, 109, 110, 111, 112, 113, 114, 115, 116, 117, 118, 119, 120, 121, 122, 123, 124, 125, 126] rfl (by decide +kernel)
set_option maxRecDepth 20000 in
theorem gX7_stacked_X7_pullWord : GoodIn wsX7_stacked (wsV RX7 176 RX7 yX7_pullWord wsX7_pullWord) := goodIn_app (goodIn_of _ (by decide +kernel)) ggX7_stacked_X7_pullWord
set_option maxRecDepth 20000 in
theorem ggX7_stacked_X7_pullAll : GoodIn wsX7_stacked wsX7_pullAll := goodIn_r _ [78, 79, 5, 4, 3, 6, 9, 10, 11, 12, 13, 1, 2, 14, 15, 16, 17, 18, 19, 20, 21, 22, 23, 24, 25, 26, 27, 28, 29, 30, 31, 32, 33, 34, 35, 36, 37, 38, 39, 40, 41, 42, 43, 44, 45, 46, 47, 71, 72, 73, 74, 96, 97, 98, 99, 100, 101, 102, 103, 104, 105, 106, 107, 108, 109, 110, 111, 112, 113, 114, 115, 116, 117, 118, 119, 120, 121, 122, 123, 124, 125, 126] rfl (by decide +kernel)
set_option maxRecDepth 20000 in
theorem gX7_stacked_X7_pullAll : GoodIn wsX7_stacked (wsV RX7 179 RX7 yX7_pullAll wsX7_pullAll) := goodIn_app (goodIn_of _ (by decide +kernel)) ggX7_stacked_X7_pullAll
set_option maxRecDepth 20000 in
theorem ggX7_stacked_X7_pushAll : GoodIn wsX7_stacked wsX7_pushAll := goodIn_r _ [83, 6, 3, 4, 5, 79, 84, 85, 86, 12, 87, 48, 49, 50, 51, 1, 2, 52, 53, 54, 55, 18, 46, 56, 41, 57, 58, 59, 60, 21, 29, 31, 30, 33, 34, 35, 36, 61, 62, 63, 64, 65, 66, 67, 68, 47, 22, 23, 69, 70, 96, 97, 98, 99, 100, 101, 102, 103, 104, 105, 106, 107, 108, 109, 110, 111, 112, 113, 114, 115, 116, 117, 118, 119, 120, 121, 122, 123, 124, 125, 126] rfl (by decide +kernel)
set_option maxRecDepth 20000 in
theorem gX7_stacked_X7_pushAll : GoodIn wsX7_stacked (wsV RX7 182 RX7 yX7_pushAll wsX7_pushAll) := goodIn_app (goodIn_of _ (by decide +kernel)) ggX7_stacked_X7_pushAll
set_option maxRecDepth 20000 in
theorem ggX7_stacked_X7_tell : GoodIn wsX7_stacked wsX7_tell := goodIn_r _ [91, 79, 96, 97, 98, 99, 100, 101, 102, 103, 104, 105, 106, 107, 108, 109, 110, 111, 112, 113, 114, 115, 116, 117, 118, 119, 120, 121, 122, 123, 124, 125, 126] rfl (by decide +kernel)
set_option maxRecDepth 20000 in
theorem gX7_stacked_X7_tell : GoodIn wsX7_stacked (wsV RX7 149 RX7 yX7_tell wsX7_tell) := goodIn_app (goodIn_of _ (by decide +kernel)) ggX7_stacked_X7_tell
set_option maxRecDepth 20000 in
theorem ggX7_stacked_X7_readWord : GoodIn wsX7_stacked wsX7_readWord := goodIn_r _ [95, 14, 15, 16, 12, 17, 2, 18, 19, 20, 21, 22, 23, 24, 25, 26, 27, 28, 29, 30, 31, 32, 33, 34, 35, 36, 37, 38, 39, 40, 41, 42, 43, 44, 45, 46, 47, 96, 97, 98, 99, 100, 101, 102, 103, 104, 105, 106, 107, 108, 109, 110, 111, 112, 113, 114, 115, 116, 117, 118, 119, 120, 121, 122, 123, 124, 125, 126] rfl (by decide +kernel)
set_option maxRecDepth 20000 in
theorem gX7_stacked_X7_readWord : GoodIn wsX7_stacked (wsV RX7 189 RX7 yX7_readWord wsX7_readWord) := goodIn_app (goodIn_of _ (by decide +kernel)) ggX7_stacked_X7_readWord
theorem dX7_stacked_0 : decode cX7_stacked 0 = .ok (.iload_n 1, 1) := by decide +kernel
theorem dX7_stacked_1 : decode cX7_stacked 1 = .ok (.tableswitch 229 48 63 #[79, 94, 109, 119, 129, 144, 159, 169, 229, 179, 229, 189, 229, 229, 195, 206], 79) := by decide +kernel
theorem dX7_stacked_80 : decode cX7_stacked 80 = .ok (.aload_n 0, 1) := by decide +kernel
theorem dX7_stacked_81 : decode cX7_stacked 81 = .ok (.aload_n 0, 1) := by decide +kernel
theorem dX7_stacked_82 : decode cX7_stacked 82 = .ok (.getfield 125, 3) := by decide +kernel
theorem dX7_stacked_85 : decode cX7_stacked 85 = .ok (.iconst 1, 1) := by decide +kernel
theorem dX7_stacked_86 : decode cX7_stacked 86 = .ok (.iadd, 1) := by decide +kernel
theorem dX7_stacked_87 : decode cX7_stacked 87 = .ok (.ldc 93, 2) := by decide +kernel
theorem dX7_stacked_89 : decode cX7_stacked 89 = .ok (.iand, 1) := by decide +kernel
theorem dX7_stacked_90 : decode cX7_stacked 90 = .ok (.putfield 137, 3) := by decide +kernel
theorem dX7_stacked_93 : decode cX7_stacked 93 = .ok (.iconst 1, 1) := by decide +kernel
theorem dX7_stacked_94 : decode cX7_stacked 94 = .ok (.ireturn, 1) := by decide +kernel
theorem dX7_stacked_95 : decode cX7_stacked 95 = .ok (.aload_n 0, 1) := by decide +kernel
theorem dX7_stacked_96 : decode cX7_stacked 96 = .ok (.aload_n 0, 1) := by decide +kernel
theorem dX7_stacked_97 : decode cX7_stacked 97 = .ok (.getfield 125, 3) := by decide +kernel
theorem dX7_stacked_100 : decode cX7_stacked 100 = .ok (.iconst 1, 1) := by decide +kernel
theorem dX7_stacked_101 : decode cX7_stacked 101 = .ok (.iadd, 1) := by decide +kernel
theorem dX7_stacked_102 : decode cX7_stacked 102 = .ok (.ldc 93, 2) := by decide +kernel
theorem dX7_stacked_104 : decode cX7_stacked 104 = .ok (.iand, 1) := by decide +kernel
theorem dX7_stacked_105 : decode cX7_stacked 105 = .ok (.putfield 125, 3) := by decide +kernel
theorem dX7_stacked_108 : decode cX7_stacked 108 = .ok (.iconst 1, 1) := by decide +kernel
theorem dX7_stacked_109 : decode cX7_stacked 109 = .ok (.ireturn, 1) := by decide +kernel
theorem dX7_stacked_110 : decode cX7_stacked 110 = .ok (.aload_n 0, 1) := by decide +kernel
theorem dX7_stacked_111 : decode cX7_stacked 111 = .ok (.aload_n 0, 1) := by decide +kernel
theorem dX7_stacked_112 : decode cX7_stacked 112 = .ok (.invokevirtual 131, 3) := by decide +kernel
theorem dX7_stacked_115 : decode cX7_stacked 115 = .ok (.putfield 140, 3) := by decide +kernel
theorem dX7_stacked_118 : decode cX7_stacked 118 = .ok (.iconst 1, 1) := by decide +kernel
theorem dX7_stacked_119 : decode cX7_stacked 119 = .ok (.ireturn, 1) := by decide +kernel
theorem dX7_stacked_120 : decode cX7_stacked 120 = .ok (.aload_n 0, 1) := by decide +kernel
theorem dX7_stacked_121 : decode cX7_stacked 121 = .ok (.aload_n 0, 1) := by decide +kernel
theorem dX7_stacked_122 : decode cX7_stacked 122 = .ok (.invokevirtual 131, 3) := by decide +kernel
theorem dX7_stacked_125 : decode cX7_stacked 125 = .ok (.putfield 143, 3) := by decide +kernel
theorem dX7_stacked_128 : decode cX7_stacked 128 = .ok (.iconst 1, 1) := by decide +kernel
theorem dX7_stacked_129 : decode cX7_stacked 129 = .ok (.ireturn, 1) := by decide +kernel
theorem dX7_stacked_130 : decode cX7_stacked 130 = .ok (.aload_n 0, 1) := by decide +kernel
theorem dX7_stacked_131 : decode cX7_stacked 131 = .ok (.aload_n 0, 1) := by decide +kernel
theorem dX7_stacked_132 : decode cX7_stacked 132 = .ok (.getfield 125, 3) := by decide +kernel
theorem dX7_stacked_135 : decode cX7_stacked 135 = .ok (.iconst 1, 1) := by decide +kernel
theorem dX7_stacked_136 : decode cX7_stacked 136 = .ok (.isub, 1) := by decide +kernel
theorem dX7_stacked_137 : decode cX7_stacked 137 = .ok (.ldc 93, 2) := by decide +kernel
theorem dX7_stacked_139 : decode cX7_stacked 139 = .ok (.iand, 1) := by decide +kernel
theorem dX7_stacked_140 : decode cX7_stacked 140 = .ok (.putfield 125, 3) := by decide +kernel
theorem dX7_stacked_143 : decode cX7_stacked 143 = .ok (.iconst 1, 1) := by decide +kernel
theorem dX7_stacked_144 : decode cX7_stacked 144 = .ok (.ireturn, 1) := by decide +kernel
theorem dX7_stacked_145 : decode cX7_stacked 145 = .ok (.aload_n 0, 1) := by decide +kernel
theorem dX7_stacked_146 : decode cX7_stacked 146 = .ok (.aload_n 0, 1) := by decide +kernel
theorem dX7_stacked_147 : decode cX7_stacked 147 = .ok (.getfield 137, 3) := by decide +kernel
theorem dX7_stacked_150 : decode cX7_stacked 150 = .ok (.iconst 1, 1) := by decide +kernel
theorem dX7_stacked_151 : decode cX7_stacked 151 = .ok (.isub, 1) := by decide +kernel
theorem dX7_stacked_152 : decode cX7_stacked 152 = .ok (.ldc 93, 2) := by decide +kernel
theorem dX7_stacked_154 : decode cX7_stacked 154 = .ok (.iand, 1) := by decide +kernel
theorem dX7_stacked_155 : decode cX7_stacked 155 = .ok (.putfield 125, 3) := by decide +kernel
theorem dX7_stacked_158 : decode cX7_stacked 158 = .ok (.iconst 1, 1) := by decide +kernel
theorem dX7_stacked_159 : decode cX7_stacked 159 = .ok (.ireturn, 1) := by decide +kernel
theorem dX7_stacked_160 : decode cX7_stacked 160 = .ok (.aload_n 0, 1) := by decide +kernel
theorem dX7_stacked_161 : decode cX7_stacked 161 = .ok (.aload_n 0, 1) := by decide +kernel
theorem dX7_stacked_162 : decode cX7_stacked 162 = .ok (.getfield 140, 3) := by decide +kernel
theorem dX7_stacked_165 : decode cX7_stacked 165 = .ok (.invokevirtual 128, 3) := by decide +kernel
theorem dX7_stacked_168 : decode cX7_stacked 168 = .ok (.iconst 1, 1) := by decide +kernel
theorem dX7_stacked_169 : decode cX7_stacked 169 = .ok (.ireturn, 1) := by decide +kernel
theorem dX7_stacked_170 : decode cX7_stacked 170 = .ok (.aload_n 0, 1) := by decide +kernel
theorem dX7_stacked_171 : decode cX7_stacked 171 = .ok (.aload_n 0, 1) := by decide +kernel
theorem dX7_stacked_172 : decode cX7_stacked 172 = .ok (.getfield 143, 3) := by decide +kernel
theorem dX7_stacked_175 : decode cX7_stacked 175 = .ok (.invokevirtual 128, 3) := by decide +kernel
theorem dX7_stacked_178 : decode cX7_stacked 178 = .ok (.iconst 1, 1) := by decide +kernel
theorem dX7_stacked_179 : decode cX7_stacked 179 = .ok (.ireturn, 1) := by decide +kernel
theorem dX7_stacked_180 : decode cX7_stacked 180 = .ok (.aload_n 0, 1) := by decide +kernel
theorem dX7_stacked_181 : decode cX7_stacked 181 = .ok (.aload_n 0, 1) := by decide +kernel
theorem dX7_stacked_182 : decode cX7_stacked 182 = .ok (.invokevirtual 176, 3) := by decide +kernel
theorem dX7_stacked_185 : decode cX7_stacked 185 = .ok (.putfield 119, 3) := by decide +kernel
theorem dX7_stacked_188 : decode cX7_stacked 188 = .ok (.iconst 1, 1) := by decide +kernel
theorem dX7_stacked_189 : decode cX7_stacked 189 = .ok (.ireturn, 1) := by decide +kernel
theorem dX7_stacked_190 : decode cX7_stacked 190 = .ok (.aload_n 0, 1) := by decide +kernel
theorem dX7_stacked_191 : decode cX7_stacked 191 = .ok (.invokevirtual 179, 3) := by decide +kernel
theorem dX7_stacked_194 : decode cX7_stacked 194 = .ok (.iconst 1, 1) := by decide +kernel
theorem dX7_stacked_195 : decode cX7_stacked 195 = .ok (.ireturn, 1) := by decide +kernel
theorem dX7_stacked_196 : decode cX7_stacked 196 = .ok (.aload_n 0, 1) := by decide +kernel
theorem dX7_stacked_197 : decode cX7_stacked 197 = .ok (.invokevirtual 182, 3) := by decide +kernel
theorem dX7_stacked_200 : decode cX7_stacked 200 = .ok (.aload_n 0, 1) := by decide +kernel
theorem dX7_stacked_201 : decode cX7_stacked 201 = .ok (.iconst 1, 1) := by decide +kernel
theorem dX7_stacked_202 : decode cX7_stacked 202 = .ok (.putfield 185, 3) := by decide +kernel
theorem dX7_stacked_205 : decode cX7_stacked 205 = .ok (.iconst 1, 1) := by decide +kernel
theorem dX7_stacked_206 : decode cX7_stacked 206 = .ok (.ireturn, 1) := by decide +kernel
theorem dX7_stacked_207 : decode cX7_stacked 207 = .ok (.aload_n 0, 1) := by decide +kernel
theorem dX7_stacked_208 : decode cX7_stacked 208 = .ok (.invokevirtual 182, 3) := by decide +kernel
theorem dX7_stacked_211 : decode cX7_stacked 211 = .ok (.aload_n 0, 1) := by decide +kernel
theorem dX7_stacked_212 : decode cX7_stacked 212 = .ok (.bipush 16, 2) := by decide +kernel
theorem dX7_stacked_214 : decode cX7_stacked 214 = .ok (.iconst 1, 1) := by decide +kernel
theorem dX7_stacked_215 : decode cX7_stacked 215 = .ok (.invokevirtual 149, 3) := by decide +kernel
theorem dX7_stacked_218 : decode cX7_stacked 218 = .ok (.aload_n 0, 1) := by decide +kernel
theorem dX7_stacked_219 : decode cX7_stacked 219 = .ok (.aload_n 0, 1) := by decide +kernel
theorem dX7_stacked_220 : decode cX7_stacked 220 = .ok (.ldc 188, 2) := by decide +kernel
theorem dX7_stacked_222 : decode cX7_stacked 222 = .ok (.invokevirtual 189, 3) := by decide +kernel
theorem dX7_stacked_225 : decode cX7_stacked 225 = .ok (.putfield 119, 3) := by decide +kernel
theorem dX7_stacked_228 : decode cX7_stacked 228 = .ok (.iconst 1, 1) := by decide +kernel
theorem dX7_stacked_229 : decode cX7_stacked 229 = .ok (.ireturn, 1) := by decide +kernel
theorem dX7_stacked_230 : decode cX7_stacked 230 = .ok (.iconst 0, 1) := by decide +kernel
theorem dX7_stacked_231 : decode cX7_stacked 231 = .ok (.ireturn, 1) := by decide +kernel
set_option maxRecDepth 20000 in
theorem ggX7_pullAll_X7_pull : GoodIn wsX7_pullAll wsX7_pull := goodIn_r _ [10, 11, 12, 13, 14, 15, 9, 16, 17, 18, 19, 20, 21, 22, 23, 24, 25, 26, 27, 28, 29, 30, 31, 32, 33, 34, 35, 36, 37, 38, 39, 40, 41, 42, 43, 44, 45, 46, 51, 52, 53, 54, 55, 56, 57, 58, 59, 60, 61, 62, 63, 64, 65, 66, 67, 68, 69, 70, 71, 72, 73, 74, 75, 76, 77, 78, 79, 80, 81] rfl (by decide +kernel)
set_option maxRecDepth 20000 in
theorem gX7_pullAll_X7_pull : GoodIn wsX7_pullAll (wsV RX7 131 RX7 yX7_pull wsX7_pull) := goodIn_app (goodIn_of _ (by decide +kernel)) ggX7_pullAll_X7_pull
set_option maxRecDepth 20000 in
theorem ggX7_pullAll_X7_pullWord : GoodIn wsX7_pullAll wsX7_pullWord := goodIn_r _ [50, 6, 7, 8, 9, 10, 11, 12, 13, 14, 15, 16, 17, 18, 19, 20, 21, 22, 23, 24, 25, 26, 27, 28, 29, 30, 31, 32, 33, 34, 35, 36, 37, 38, 39, 40, 41, 42, 43, 44, 45, 46, 51, 52, 53, 54, 55, 56, 57, 58, 59, 60, 61, 62, 63, 64, 65, 66, 67, 68, 69, 70, 71, 72, 73, 74, 75, 76, 77, 78, 79, 80, 81] rfl (by decide +kernel)
set_option maxRecDepth 20000 in
theorem gX7_pullAll_X7_pullWord : GoodIn wsX7_pullAll (wsV RX7 176 RX7 yX7_pullWord wsX7_pullWord) := goodIn_app (goodIn_of _ (by decide +kernel)) ggX7_pullAll_X7_pullWord
theorem dX7_pullAll_0 : decode cX7_pullAll 0 = .ok (.aload_n 0, 1) := by decide +kernel
theorem dX7_pullAll_1 : decode cX7_pullAll 1 = .ok (.aload_n 0, 1) := by decide +kernel
theorem dX7_pullAll_2 : decode cX7_pullAll 2 = .ok (.invokevirtual 131, 3) := by decide +kernel
theorem dX7_pullAll_5 : decode cX7_pullAll 5 = .ok (.bipush 63, 2) := by decide +kernel
theorem dX7_pullAll_7 : decode cX7_pullAll 7 = .ok (.iand, 1) := by decide +kernel
theorem dX7_pullAll_8 : decode cX7_pullAll 8 = .ok (.putfield 146, 3) := by decide +kernel
theorem dX7_pullAll_11 : decode cX7_pullAll 11 = .ok (.aload_n 0, 1) := by decide +kernel
theorem dX7_pullAll_12 : decode cX7_pullAll 12 = .ok (.aload_n 0, 1) := by decide +kernel
theorem dX7_pullAll_13 : decode cX7_pullAll 13 = .ok (.invokevirtual 131, 3) := by decide +kernel
theorem dX7_pullAll_16 : decode cX7_pullAll 16 = .ok (.putfield 143, 3) := by decide +kernel
theorem dX7_pullAll_19 : decode cX7_pullAll 19 = .ok (.aload_n 0, 1) := by decide +kernel
theorem dX7_pullAll_20 : decode cX7_pullAll 20 = .ok (.aload_n 0, 1) := by decide +kernel
theorem dX7_pullAll_21 : decode cX7_pullAll 21 = .ok (.invokevirtual 131, 3) := by decide +kernel
theorem dX7_pullAll_24 : decode cX7_pullAll 24 = .ok (.putfield 140, 3) := by decide +kernel
theorem dX7_pullAll_27 : decode cX7_pullAll 27 = .ok (.aload_n 0, 1) := by decide +kernel
theorem dX7_pullAll_28 : decode cX7_pullAll 28 = .ok (.aload_n 0, 1) := by decide +kernel
theorem dX7_pullAll_29 : decode cX7_pullAll 29 = .ok (.invokevirtual 176, 3) := by decide +kernel
theorem dX7_pullAll_32 : decode cX7_pullAll 32 = .ok (.putfield 137, 3) := by decide +kernel
theorem dX7_pullAll_35 : decode cX7_pullAll 35 = .ok (.aload_n 0, 1) := by decide +kernel
theorem dX7_pullAll_36 : decode cX7_pullAll 36 = .ok (.aload_n 0, 1) := by decide +kernel
theorem dX7_pullAll_37 : decode cX7_pullAll 37 = .ok (.invokevirtual 176, 3) := by decide +kernel
theorem dX7_pullAll_40 : decode cX7_pullAll 40 = .ok (.putfield 119, 3) := by decide +kernel
theorem dX7_pullAll_43 : decode cX7_pullAll 43 = .ok (.return_, 1) := by decide +kernel
set_option maxRecDepth 20000 in
theorem ggX7_shifted_X7_tell : GoodIn wsX7_shifted wsX7_tell := goodIn_r _ [5, 6, 15, 16, 17, 18, 19, 20, 21, 22, 23, 24, 25, 26, 27, 28, 29, 30, 31, 32, 33, 34, 35, 36, 37, 38, 39, 40, 41, 42, 43, 44, 45] rfl (by decide +kernel)
set_option maxRecDepth 20000 in
theorem gX7_shifted_X7_tell : GoodIn wsX7_shifted (wsV RX7 149 RX7 yX7_tell wsX7_tell) := goodIn_app (goodIn_of _ (by decide +kernel)) ggX7_shifted_X7_tell
set_option maxRecDepth 20000 in
theorem ggX7_shifted_X7_nz : GoodIn wsX7_shifted wsX7_nz := goodIn_r _ [10, 1, 2, 3, 4, 5, 6, 15, 16, 17, 18, 19, 20, 21, 22, 23, 24, 25, 26, 27, 28, 29, 30, 31, 32, 33, 34, 35, 36, 37, 38, 39, 40, 41, 42, 43, 44, 45] rfl (by decide +kernel)
set_option maxRecDepth 20000 in
theorem gX7_shifted_X7_nz : GoodIn wsX7_shifted (wsV RX7 153 RX7 yX7_nz wsX7_nz) := goodIn_app (goodIn_of _ (by decide +kernel)) ggX7_shifted_X7_nz
set_option maxRecDepth 20000 in
theorem ggX7_shifted_X7_is : GoodIn wsX7_shifted wsX7_is := goodIn_r _ [14, 6, 15, 16, 17, 18, 19, 20, 21, 22, 23, 24, 25, 26, 27, 28, 29, 30, 31, 32, 33, 34, 35, 36, 37, 38, 39, 40, 41, 42, 43, 44, 45] rfl (by decide +kernel)
set_option maxRecDepth 20000 in
theorem gX7_shifted_X7_is : GoodIn wsX7_shifted (wsV RX7 160 RX7 yX7_is wsX7_is) := goodIn_app (goodIn_of _ (by decide +kernel)) ggX7_shifted_X7_is
theorem dX7_shifted_0 : decode cX7_shifted 0 = .ok (.aload_n 0, 1) := by decide +kernel
theorem dX7_shifted_1 : decode cX7_shifted 1 = .ok (.iconst 1, 1) := by decide +kernel
theorem dX7_shifted_2 : decode cX7_shifted 2 = .ok (.iload_n 2, 1) := by decide +kernel
theorem dX7_shifted_3 : decode cX7_shifted 3 = .ok (.invokevirtual 149, 3) := by decide +kernel
theorem dX7_shifted_6 : decode cX7_shifted 6 = .ok (.aload_n 0, 1) := by decide +kernel
theorem dX7_shifted_7 : decode cX7_shifted 7 = .ok (.iload_n 1, 1) := by decide +kernel
theorem dX7_shifted_8 : decode cX7_shifted 8 = .ok (.invokevirtual 153, 3) := by decide +kernel
theorem dX7_shifted_11 : decode cX7_shifted 11 = .ok (.istore_n 3, 1) := by decide +kernel
theorem dX7_shifted_12 : decode cX7_shifted 12 = .ok (.aload_n 0, 1) := by decide +kernel
theorem dX7_shifted_13 : decode cX7_shifted 13 = .ok (.iconst 2, 1) := by decide +kernel
theorem dX7_shifted_14 : decode cX7_shifted 14 = .ok (.aload_n 0, 1) := by decide +kernel
theorem dX7_shifted_15 : decode cX7_shifted 15 = .ok (.bipush 8, 2) := by decide +kernel
theorem dX7_shifted_17 : decode cX7_shifted 17 = .ok (.invokevirtual 160, 3) := by decide +kernel
theorem dX7_shifted_20 : decode cX7_shifted 20 = .ok (.aload_n 0, 1) := by decide +kernel
theorem dX7_shifted_21 : decode cX7_shifted 21 = .ok (.iconst 1, 1) := by decide +kernel
theorem dX7_shifted_22 : decode cX7_shifted 22 = .ok (.invokevirtual 160, 3) := by decide +kernel
theorem dX7_shifted_25 : decode cX7_shifted 25 = .ok (.if_icmp .eq 7, 3) := by decide +kernel
theorem dX7_shifted_28 : decode cX7_shifted 28 = .ok (.iconst 1, 1) := by decide +kernel
theorem dX7_shifted_29 : decode cX7_shifted 29 = .ok (.goto 4, 3) := by decide +kernel
theorem dX7_shifted_32 : decode cX7_shifted 32 = .ok (.iconst 0, 1) := by decide +kernel
theorem dX7_shifted_33 : decode cX7_shifted 33 = .ok (.invokevirtual 149, 3) := by decide +kernel
theorem dX7_shifted_36 : decode cX7_shifted 36 = .ok (.iload_n 3, 1) := by decide +kernel
theorem dX7_shifted_37 : decode cX7_shifted 37 = .ok (.ireturn, 1) := by decide +kernel
set_option maxRecDepth 20000 in
theorem ggX7_single_X7_is : GoodIn wsX7_single wsX7_is := goodIn_r _ [5, 6, 23, 24, 25, 26, 27, 28, 29, 30, 31, 32, 33, 34, 35, 36, 37, 38, 39, 40, 41, 42, 43, 44, 45, 46, 47, 48, 49, 50, 51, 52, 53] rfl (by decide +kernel)
set_option maxRecDepth 20000 in
theorem gX7_single_X7_is : GoodIn wsX7_single (wsV RX7 160 RX7 yX7_is wsX7_is) := goodIn_app (goodIn_of _ (by decide +kernel)) ggX7_single_X7_is
set_option maxRecDepth 20000 in
theorem ggX7_single_X7_nzv : GoodIn wsX7_single wsX7_nzv := goodIn_r _ [10, 11, 12, 13, 4, 14, 6, 15, 16, 17, 18, 23, 24, 25, 26, 27, 28, 29, 30, 31, 32, 33, 34, 35, 36, 37, 38, 39, 40, 41, 42, 43, 44, 45, 46, 47, 48, 49, 50, 51, 52, 53] rfl (by decide +kernel)
set_option maxRecDepth 20000 in
theorem gX7_single_X7_nzv : GoodIn wsX7_single (wsV RX7 163 RX7 yX7_nzv wsX7_nzv) := goodIn_app (goodIn_of _ (by decide +kernel)) ggX7_single_X7_nzv
set_option maxRecDepth 20000 in
theorem ggX7_single_X7_tell : GoodIn wsX7_single wsX7_tell := goodIn_r _ [14, 6, 23, 24, 25, 26, 27, 28, 29, 30, 31, 32, 33, 34, 35, 36, 37, 38, 39, 40, 41, 42, 43, 44, 45, 46, 47, 48, 49, 50, 51, 52, 53] rfl (by decide +kernel)
set_option maxRecDepth 20000 in
theorem gX7_single_X7_tell : GoodIn wsX7_single (wsV RX7 149 RX7 yX7_tell wsX7_tell) := goodIn_app (goodIn_of _ (by decide +kernel)) ggX7_single_X7_tell
set_option maxRecDepth 20000 in
theorem ggX7_single_X7_shifted : GoodIn wsX7_single wsX7_shifted := goodIn_r _ [22, 11, 12, 13, 4, 14, 6, 15, 16, 17, 18, 1, 2, 3, 5, 23, 24, 25, 26, 27, 28, 29, 30, 31, 32, 33, 34, 35, 36, 37, 38, 39, 40, 41, 42, 43, 44, 45, 46, 47, 48, 49, 50, 51, 52, 53] rfl (by decide +kernel)
set_option maxRecDepth 20000 in
theorem gX7_single_X7_shifted : GoodIn wsX7_single (wsV RX7 192 RX7 yX7_shifted wsX7_shifted) := goodIn_app (goodIn_of _ (by decide +kernel)) ggX7_single_X7_shifted
set_option maxRecDepth 20000 in
theorem ggX7_single_X7_nz : GoodIn wsX7_single wsX7_nz := goodIn_r _ [18, 11, 12, 13, 4, 14, 6, 23, 24, 25, 26, 27, 28, 29, 30, 31, 32, 33, 34, 35, 36, 37, 38, 39, 40, 41, 42, 43, 44, 45, 46, 47, 48, 49, 50, 51, 52, 53] rfl (by decide +kernel)
set_option maxRecDepth 20000 in
theorem gX7_single_X7_nz : GoodIn wsX7_single (wsV RX7 153 RX7 yX7_nz wsX7_nz) := goodIn_app (goodIn_of _ (by decide +kernel)) ggX7_single_X7_nz
theorem dX7_single_0 : decode cX7_single 0 = .ok (.aload_n 0, 1) := by decide +kernel
theorem dX7_single_1 : decode cX7_single 1 = .ok (.iconst 1, 1) := by decide +kernel
theorem dX7_single_2 : decode cX7_single 2 = .ok (.invokevirtual 160, 3) := by decide +kernel
theorem dX7_single_5 : decode cX7_single 5 = .ok (.ifCond .eq 7, 3) := by decide +kernel
theorem dX7_single_8 : decode cX7_single 8 = .ok (.iconst 1, 1) := by decide +kernel
theorem dX7_single_9 : decode cX7_single 9 = .ok (.goto 4, 3) := by decide +kernel
theorem dX7_single_12 : decode cX7_single 12 = .ok (.iconst 0, 1) := by decide +kernel
theorem dX7_single_13 : decode cX7_single 13 = .ok (.istore_n 3, 1) := by decide +kernel
theorem dX7_single_14 : decode cX7_single 14 = .ok (.iload_n 1, 1) := by decide +kernel
theorem dX7_single_15 : decode cX7_single 15 = .ok (.tableswitch 296 0 13 #[69, 296, 296, 113, 127, 296, 146, 170, 195, 214, 235, 296, 260, 284], 69) := by decide +kernel
theorem dX7_single_84 : decode cX7_single 84 = .ok (.aload_n 0, 1) := by decide +kernel
theorem dX7_single_85 : decode cX7_single 85 = .ok (.iload_n 2, 1) := by decide +kernel
theorem dX7_single_86 : decode cX7_single 86 = .ok (.ineg, 1) := by decide +kernel
theorem dX7_single_87 : decode cX7_single 87 = .ok (.invokevirtual 163, 3) := by decide +kernel
theorem dX7_single_90 : decode cX7_single 90 = .ok (.istore 4, 2) := by decide +kernel
theorem dX7_single_92 : decode cX7_single 92 = .ok (.aload_n 0, 1) := by decide +kernel
theorem dX7_single_93 : decode cX7_single 93 = .ok (.iconst 2, 1) := by decide +kernel
theorem dX7_single_94 : decode cX7_single 94 = .ok (.iload 4, 2) := by decide +kernel
theorem dX7_single_96 : decode cX7_single 96 = .ok (.sipush 128, 3) := by decide +kernel
theorem dX7_single_99 : decode cX7_single 99 = .ok (.if_icmp .ne 7, 3) := by decide +kernel
theorem dX7_single_102 : decode cX7_single 102 = .ok (.iconst 1, 1) := by decide +kernel
theorem dX7_single_103 : decode cX7_single 103 = .ok (.goto 4, 3) := by decide +kernel
theorem dX7_single_106 : decode cX7_single 106 = .ok (.iconst 0, 1) := by decide +kernel
theorem dX7_single_107 : decode cX7_single 107 = .ok (.invokevirtual 149, 3) := by decide +kernel
theorem dX7_single_110 : decode cX7_single 110 = .ok (.aload_n 0, 1) := by decide +kernel
theorem dX7_single_111 : decode cX7_single 111 = .ok (.iconst 1, 1) := by decide +kernel
theorem dX7_single_112 : decode cX7_single 112 = .ok (.iload 4, 2) := by decide +kernel
theorem dX7_single_114 : decode cX7_single 114 = .ok (.ifCond .eq 7, 3) := by decide +kernel
theorem dX7_single_117 : decode cX7_single 117 = .ok (.iconst 1, 1) := by decide +kernel
theorem dX7_single_118 : decode cX7_single 118 = .ok (.goto 4, 3) := by decide +kernel
theorem dX7_single_121 : decode cX7_single 121 = .ok (.iconst 0, 1) := by decide +kernel
theorem dX7_single_122 : decode cX7_single 122 = .ok (.invokevirtual 149, 3) := by decide +kernel
theorem dX7_single_125 : decode cX7_single 125 = .ok (.iload 4, 2) := by decide +kernel
theorem dX7_single_127 : decode cX7_single 127 = .ok (.ireturn, 1) := by decide +kernel
theorem dX7_single_128 : decode cX7_single 128 = .ok (.aload_n 0, 1) := by decide +kernel
theorem dX7_single_129 : decode cX7_single 129 = .ok (.iconst 1, 1) := by decide +kernel
theorem dX7_single_130 : decode cX7_single 130 = .ok (.iconst 1, 1) := by decide +kernel
theorem dX7_single_131 : decode cX7_single 131 = .ok (.invokevirtual 149, 3) := by decide +kernel
theorem dX7_single_134 : decode cX7_single 134 = .ok (.aload_n 0, 1) := by decide +kernel
theorem dX7_single_135 : decode cX7_single 135 = .ok (.iload_n 2, 1) := by decide +kernel
theorem dX7_single_136 : decode cX7_single 136 = .ok (.iconst (-1), 1) := by decide +kernel
theorem dX7_single_137 : decode cX7_single 137 = .ok (.ixor, 1) := by decide +kernel
theorem dX7_single_138 : decode cX7_single 138 = .ok (.invokevirtual 163, 3) := by decide +kernel
theorem dX7_single_141 : decode cX7_single 141 = .ok (.ireturn, 1) := by decide +kernel
theorem dX7_single_142 : decode cX7_single 142 = .ok (.aload_n 0, 1) := by decide +kernel
theorem dX7_single_143 : decode cX7_single 143 = .ok (.iload_n 2, 1) := by decide +kernel
theorem dX7_single_144 : decode cX7_single 144 = .ok (.iconst 1, 1) := by decide +kernel
theorem dX7_single_145 : decode cX7_single 145 = .ok (.ishr, 1) := by decide +kernel
theorem dX7_single_146 : decode cX7_single 146 = .ok (.iload_n 2, 1) := by decide +kernel
theorem dX7_single_147 : decode cX7_single 147 = .ok (.iconst 1, 1) := by decide +kernel
theorem dX7_single_148 : decode cX7_single 148 = .ok (.iand, 1) := by decide +kernel
theorem dX7_single_149 : decode cX7_single 149 = .ok (.ifCond .eq 7, 3) := by decide +kernel
theorem dX7_single_152 : decode cX7_single 152 = .ok (.iconst 1, 1) := by decide +kernel
theorem dX7_single_153 : decode cX7_single 153 = .ok (.goto 4, 3) := by decide +kernel
theorem dX7_single_156 : decode cX7_single 156 = .ok (.iconst 0, 1) := by decide +kernel
theorem dX7_single_157 : decode cX7_single 157 = .ok (.invokevirtual 192, 3) := by decide +kernel
theorem dX7_single_160 : decode cX7_single 160 = .ok (.ireturn, 1) := by decide +kernel
theorem dX7_single_161 : decode cX7_single 161 = .ok (.aload_n 0, 1) := by decide +kernel
theorem dX7_single_162 : decode cX7_single 162 = .ok (.iload_n 2, 1) := by decide +kernel
theorem dX7_single_163 : decode cX7_single 163 = .ok (.iconst 1, 1) := by decide +kernel
theorem dX7_single_164 : decode cX7_single 164 = .ok (.ishr, 1) := by decide +kernel
theorem dX7_single_165 : decode cX7_single 165 = .ok (.iload_n 3, 1) := by decide +kernel
theorem dX7_single_166 : decode cX7_single 166 = .ok (.bipush 7, 2) := by decide +kernel
theorem dX7_single_168 : decode cX7_single 168 = .ok (.ishl, 1) := by decide +kernel
theorem dX7_single_169 : decode cX7_single 169 = .ok (.ior, 1) := by decide +kernel
theorem dX7_single_170 : decode cX7_single 170 = .ok (.iload_n 2, 1) := by decide +kernel
theorem dX7_single_171 : decode cX7_single 171 = .ok (.iconst 1, 1) := by decide +kernel
theorem dX7_single_172 : decode cX7_single 172 = .ok (.iand, 1) := by decide +kernel
theorem dX7_single_173 : decode cX7_single 173 = .ok (.ifCond .eq 7, 3) := by decide +kernel
theorem dX7_single_176 : decode cX7_single 176 = .ok (.iconst 1, 1) := by decide +kernel
theorem dX7_single_177 : decode cX7_single 177 = .ok (.goto 4, 3) := by decide +kernel
theorem dX7_single_180 : decode cX7_single 180 = .ok (.iconst 0, 1) := by decide +kernel
theorem dX7_single_181 : decode cX7_single 181 = .ok (.invokevirtual 192, 3) := by decide +kernel
theorem dX7_single_184 : decode cX7_single 184 = .ok (.ireturn, 1) := by decide +kernel
theorem dX7_single_185 : decode cX7_single 185 = .ok (.aload_n 0, 1) := by decide +kernel
theorem dX7_single_186 : decode cX7_single 186 = .ok (.iload_n 2, 1) := by decide +kernel
theorem dX7_single_187 : decode cX7_single 187 = .ok (.iconst 1, 1) := by decide +kernel
theorem dX7_single_188 : decode cX7_single 188 = .ok (.ishr, 1) := by decide +kernel
theorem dX7_single_189 : decode cX7_single 189 = .ok (.iload_n 2, 1) := by decide +kernel
theorem dX7_single_190 : decode cX7_single 190 = .ok (.sipush 128, 3) := by decide +kernel
theorem dX7_single_193 : decode cX7_single 193 = .ok (.iand, 1) := by decide +kernel
theorem dX7_single_194 : decode cX7_single 194 = .ok (.ior, 1) := by decide +kernel
theorem dX7_single_195 : decode cX7_single 195 = .ok (.iload_n 2, 1) := by decide +kernel
theorem dX7_single_196 : decode cX7_single 196 = .ok (.iconst 1, 1) := by decide +kernel
theorem dX7_single_197 : decode cX7_single 197 = .ok (.iand, 1) := by decide +kernel
theorem dX7_single_198 : decode cX7_single 198 = .ok (.ifCond .eq 7, 3) := by decide +kernel
theorem dX7_single_201 : decode cX7_single 201 = .ok (.iconst 1, 1) := by decide +kernel
theorem dX7_single_202 : decode cX7_single 202 = .ok (.goto 4, 3) := by decide +kernel
theorem dX7_single_205 : decode cX7_single 205 = .ok (.iconst 0, 1) := by decide +kernel
theorem dX7_single_206 : decode cX7_single 206 = .ok (.invokevirtual 192, 3) := by decide +kernel
theorem dX7_single_209 : decode cX7_single 209 = .ok (.ireturn, 1) := by decide +kernel
theorem dX7_single_210 : decode cX7_single 210 = .ok (.aload_n 0, 1) := by decide +kernel
theorem dX7_single_211 : decode cX7_single 211 = .ok (.iload_n 2, 1) := by decide +kernel
theorem dX7_single_212 : decode cX7_single 212 = .ok (.iconst 1, 1) := by decide +kernel
theorem dX7_single_213 : decode cX7_single 213 = .ok (.ishl, 1) := by decide +kernel
theorem dX7_single_214 : decode cX7_single 214 = .ok (.iload_n 2, 1) := by decide +kernel
theorem dX7_single_215 : decode cX7_single 215 = .ok (.bipush 127, 2) := by decide +kernel
theorem dX7_single_217 : decode cX7_single 217 = .ok (.if_icmp .le 7, 3) := by decide +kernel
theorem dX7_single_220 : decode cX7_single 220 = .ok (.iconst 1, 1) := by decide +kernel
theorem dX7_single_221 : decode cX7_single 221 = .ok (.goto 4, 3) := by decide +kernel
theorem dX7_single_224 : decode cX7_single 224 = .ok (.iconst 0, 1) := by decide +kernel
theorem dX7_single_225 : decode cX7_single 225 = .ok (.invokevirtual 192, 3) := by decide +kernel
theorem dX7_single_228 : decode cX7_single 228 = .ok (.ireturn, 1) := by decide +kernel
theorem dX7_single_229 : decode cX7_single 229 = .ok (.aload_n 0, 1) := by decide +kernel
theorem dX7_single_230 : decode cX7_single 230 = .ok (.iload_n 2, 1) := by decide +kernel
theorem dX7_single_231 : decode cX7_single 231 = .ok (.iconst 1, 1) := by decide +kernel
theorem dX7_single_232 : decode cX7_single 232 = .ok (.ishl, 1) := by decide +kernel
theorem dX7_single_233 : decode cX7_single 233 = .ok (.iload_n 3, 1) := by decide +kernel
theorem dX7_single_234 : decode cX7_single 234 = .ok (.ior, 1) := by decide +kernel
theorem dX7_single_235 : decode cX7_single 235 = .ok (.iload_n 2, 1) := by decide +kernel
theorem dX7_single_236 : decode cX7_single 236 = .ok (.bipush 127, 2) := by decide +kernel
theorem dX7_single_238 : decode cX7_single 238 = .ok (.if_icmp .le 7, 3) := by decide +kernel
theorem dX7_single_241 : decode cX7_single 241 = .ok (.iconst 1, 1) := by decide +kernel
theorem dX7_single_242 : decode cX7_single 242 = .ok (.goto 4, 3) := by decide +kernel
theorem dX7_single_245 : decode cX7_single 245 = .ok (.iconst 0, 1) := by decide +kernel
theorem dX7_single_246 : decode cX7_single 246 = .ok (.invokevirtual 192, 3) := by decide +kernel
theorem dX7_single_249 : decode cX7_single 249 = .ok (.ireturn, 1) := by decide +kernel
theorem dX7_single_250 : decode cX7_single 250 = .ok (.aload_n 0, 1) := by decide +kernel
theorem dX7_single_251 : decode cX7_single 251 = .ok (.iconst 2, 1) := by decide +kernel
theorem dX7_single_252 : decode cX7_single 252 = .ok (.iload_n 2, 1) := by decide +kernel
theorem dX7_single_253 : decode cX7_single 253 = .ok (.sipush 128, 3) := by decide +kernel
theorem dX7_single_256 : decode cX7_single 256 = .ok (.if_icmp .ne 7, 3) := by decide +kernel
theorem dX7_single_259 : decode cX7_single 259 = .ok (.iconst 1, 1) := by decide +kernel
theorem dX7_single_260 : decode cX7_single 260 = .ok (.goto 4, 3) := by decide +kernel
theorem dX7_single_263 : decode cX7_single 263 = .ok (.iconst 0, 1) := by decide +kernel
theorem dX7_single_264 : decode cX7_single 264 = .ok (.invokevirtual 149, 3) := by decide +kernel
theorem dX7_single_267 : decode cX7_single 267 = .ok (.aload_n 0, 1) := by decide +kernel
theorem dX7_single_268 : decode cX7_single 268 = .ok (.iload_n 2, 1) := by decide +kernel
theorem dX7_single_269 : decode cX7_single 269 = .ok (.iconst 1, 1) := by decide +kernel
theorem dX7_single_270 : decode cX7_single 270 = .ok (.isub, 1) := by decide +kernel
theorem dX7_single_271 : decode cX7_single 271 = .ok (.invokevirtual 153, 3) := by decide +kernel
theorem dX7_single_274 : decode cX7_single 274 = .ok (.ireturn, 1) := by decide +kernel
theorem dX7_single_275 : decode cX7_single 275 = .ok (.aload_n 0, 1) := by decide +kernel
theorem dX7_single_276 : decode cX7_single 276 = .ok (.iconst 2, 1) := by decide +kernel
theorem dX7_single_277 : decode cX7_single 277 = .ok (.iload_n 2, 1) := by decide +kernel
theorem dX7_single_278 : decode cX7_single 278 = .ok (.bipush 127, 2) := by decide +kernel
theorem dX7_single_280 : decode cX7_single 280 = .ok (.if_icmp .ne 7, 3) := by decide +kernel
theorem dX7_single_283 : decode cX7_single 283 = .ok (.iconst 1, 1) := by decide +kernel
theorem dX7_single_284 : decode cX7_single 284 = .ok (.goto 4, 3) := by decide +kernel
theorem dX7_single_287 : decode cX7_single 287 = .ok (.iconst 0, 1) := by decide +kernel
theorem dX7_single_288 : decode cX7_single 288 = .ok (.invokevirtual 149, 3) := by decide +kernel
theorem dX7_single_291 : decode cX7_single 291 = .ok (.aload_n 0, 1) := by decide +kernel
theorem dX7_single_292 : decode cX7_single 292 = .ok (.iload_n 2, 1) := by decide +kernel
theorem dX7_single_293 : decode cX7_single 293 = .ok (.iconst 1, 1) := by decide +kernel
theorem dX7_single_294 : decode cX7_single 294 = .ok (.iadd, 1) := by decide +kernel
theorem dX7_single_295 : decode cX7_single 295 = .ok (.invokevirtual 153, 3) := by decide +kernel
theorem dX7_single_298 : decode cX7_single 298 = .ok (.ireturn, 1) := by decide +kernel
theorem dX7_single_299 : decode cX7_single 299 = .ok (.aload_n 0, 1) := by decide +kernel
theorem dX7_single_300 : decode cX7_single 300 = .ok (.iconst 1, 1) := by decide +kernel
theorem dX7_single_301 : decode cX7_single 301 = .ok (.iconst 0, 1) := by decide +kernel
theorem dX7_single_302 : decode cX7_single 302 = .ok (.invokevirtual 149, 3) := by decide +kernel
theorem dX7_single_305 : decode cX7_single 305 = .ok (.aload_n 0, 1) := by decide +kernel
theorem dX7_single_306 : decode cX7_single 306 = .ok (.iload_n 2, 1) := by decide +kernel
theorem dX7_single_307 : decode cX7_single 307 = .ok (.invokevirtual 163, 3) := by decide +kernel
theorem dX7_single_310 : decode cX7_single 310 = .ok (.ireturn, 1) := by decide +kernel
theorem dX7_single_311 : decode cX7_single 311 = .ok (.aload_n 0, 1) := by decide +kernel
theorem dX7_single_312 : decode cX7_single 312 = .ok (.iconst 1, 1) := by decide +kernel
theorem dX7_single_313 : decode cX7_single 313 = .ok (.iconst 0, 1) := by decide +kernel
theorem dX7_single_314 : decode cX7_single 314 = .ok (.invokevirtual 149, 3) := by decide +kernel
theorem dX7_single_317 : decode cX7_single 317 = .ok (.aload_n 0, 1) := by decide +kernel
theorem dX7_single_318 : decode cX7_single 318 = .ok (.iconst 0, 1) := by decide +kernel
theorem dX7_single_319 : decode cX7_single 319 = .ok (.invokevirtual 163, 3) := by decide +kernel
theorem dX7_single_322 : decode cX7_single 322 = .ok (.ireturn, 1) := by decide +kernel
theorem dX7_isSingle_0 : decode cX7_isSingle 0 = .ok (.iload_n 0, 1) := by decide +kernel
theorem dX7_isSingle_1 : decode cX7_isSingle 1 = .ok (.ifCond .eq 43, 3) := by decide +kernel
theorem dX7_isSingle_4 : decode cX7_isSingle 4 = .ok (.iload_n 0, 1) := by decide +kernel
theorem dX7_isSingle_5 : decode cX7_isSingle 5 = .ok (.iconst 3, 1) := by decide +kernel
theorem dX7_isSingle_6 : decode cX7_isSingle 6 = .ok (.if_icmp .eq 38, 3) := by decide +kernel
theorem dX7_isSingle_9 : decode cX7_isSingle 9 = .ok (.iload_n 0, 1) := by decide +kernel
theorem dX7_isSingle_10 : decode cX7_isSingle 10 = .ok (.iconst 4, 1) := by decide +kernel
theorem dX7_isSingle_11 : decode cX7_isSingle 11 = .ok (.if_icmp .eq 33, 3) := by decide +kernel
theorem dX7_isSingle_14 : decode cX7_isSingle 14 = .ok (.iload_n 0, 1) := by decide +kernel
theorem dX7_isSingle_15 : decode cX7_isSingle 15 = .ok (.bipush 6, 2) := by decide +kernel
theorem dX7_isSingle_17 : decode cX7_isSingle 17 = .ok (.if_icmp .lt 9, 3) := by decide +kernel
theorem dX7_isSingle_20 : decode cX7_isSingle 20 = .ok (.iload_n 0, 1) := by decide +kernel
theorem dX7_isSingle_21 : decode cX7_isSingle 21 = .ok (.bipush 10, 2) := by decide +kernel
theorem dX7_isSingle_23 : decode cX7_isSingle 23 = .ok (.if_icmp .le 21, 3) := by decide +kernel
theorem dX7_isSingle_26 : decode cX7_isSingle 26 = .ok (.iload_n 0, 1) := by decide +kernel
theorem dX7_isSingle_27 : decode cX7_isSingle 27 = .ok (.bipush 12, 2) := by decide +kernel
theorem dX7_isSingle_29 : decode cX7_isSingle 29 = .ok (.if_icmp .eq 15, 3) := by decide +kernel
theorem dX7_isSingle_32 : decode cX7_isSingle 32 = .ok (.iload_n 0, 1) := by decide +kernel
theorem dX7_isSingle_33 : decode cX7_isSingle 33 = .ok (.bipush 13, 2) := by decide +kernel
theorem dX7_isSingle_35 : decode cX7_isSingle 35 = .ok (.if_icmp .eq 9, 3) := by decide +kernel
theorem dX7_isSingle_38 : decode cX7_isSingle 38 = .ok (.iload_n 0, 1) := by decide +kernel
theorem dX7_isSingle_39 : decode cX7_isSingle 39 = .ok (.bipush 15, 2) := by decide +kernel
theorem dX7_isSingle_41 : decode cX7_isSingle 41 = .ok (.if_icmp .ne 7, 3) := by decide +kernel
theorem dX7_isSingle_44 : decode cX7_isSingle 44 = .ok (.iconst 1, 1) := by decide +kernel
theorem dX7_isSingle_45 : decode cX7_isSingle 45 = .ok (.goto 4, 3) := by decide +kernel
theorem dX7_isSingle_48 : decode cX7_isSingle 48 = .ok (.iconst 0, 1) := by decide +kernel
theorem dX7_isSingle_49 : decode cX7_isSingle 49 = .ok (.ireturn, 1) := by decide +kernel
set_option maxRecDepth 20000 in
theorem ggX7_worksOnOne_X7_addressOf : GoodIn wsX7_worksOnOne wsX7_addressOf := goodIn_r _ [8, 9, 10, 11, 12, 13, 7, 14, 15, 16, 17, 18, 1, 19, 20, 21, 22, 23, 24, 25, 26, 27, 28, 29, 30, 31, 32, 33, 34, 35, 36, 37, 38, 39, 40, 41, 42, 43, 44, 45, 46, 47, 48, 49, 50, 51, 52, 100, 101, 102, 103, 104, 105, 106, 107, 108, 109, 110, 111, 112, 113, 114, 115, 116, 117, 118, 119, 120, 121, 122, 123, 124, 125, 126, 127, 128, 129, 130] rfl (by decide +kernel)
set_option maxRecDepth 20000 in
theorem gX7_worksOnOne_X7_addressOf : GoodIn wsX7_worksOnOne (wsV RX7 196 RX7 yX7_addressOf wsX7_addressOf) := goodIn_app (goodIn_of _ (by decide +kernel)) ggX7_worksOnOne_X7_addressOf
set_option maxRecDepth 20000 in
theorem ggX7_worksOnOne_X7_isSingle : GoodIn wsX7_worksOnOne wsX7_isSingle := goodIn_r _ [55] rfl (by decide +kernel)
set_option maxRecDepth 20000 in
theorem gX7_worksOnOne_X7_isSingle : GoodIn wsX7_worksOnOne (va_wsS RX7 199 yX7_isSingle wsX7_isSingle) := goodIn_app (goodIn_of _ (by decide +kernel)) ggX7_worksOnOne_X7_isSingle
set_option maxRecDepth 20000 in
theorem ggX7_worksOnOne_X7_single : GoodIn wsX7_worksOnOne wsX7_single := goodIn_r _ [59, 60, 61, 62, 7, 63, 64, 65, 66, 67, 68, 69, 70, 71, 72, 73, 74, 75, 76, 77, 78, 79, 80, 100, 101, 102, 103, 104, 105, 106, 107, 108, 109, 110, 111, 112, 113, 114, 115, 116, 117, 118, 119, 120, 121, 122, 123, 124, 125, 126, 127, 128, 129, 130] rfl (by decide +kernel)
set_option maxRecDepth 20000 in
theorem gX7_worksOnOne_X7_single : GoodIn wsX7_worksOnOne (wsV RX7 202 RX7 yX7_single wsX7_single) := goodIn_app (goodIn_of _ (by decide +kernel)) ggX7_worksOnOne_X7_single
set_option maxRecDepth 20000 in
theorem ggX7_worksOnOne_X7_read : GoodIn wsX7_worksOnOne wsX7_read := goodIn_r _ [22, 10, 23, 24, 25, 26, 27, 28, 29, 30, 31, 32, 7, 33, 34, 35, 36, 37, 38, 39, 40, 41, 42, 43, 44, 45, 46, 47, 48, 49, 50, 51, 52, 100, 101, 102, 103, 104, 105, 106, 107, 108, 109, 110, 111, 112, 113, 114, 115, 116, 117, 118, 119, 120, 121, 122, 123, 124, 125, 126, 127, 128, 129, 130] rfl (by decide +kernel)
set_option maxRecDepth 20000 in
theorem gX7_worksOnOne_X7_read : GoodIn wsX7_worksOnOne (wsV RX7 113 RX7 yX7_read wsX7_read) := goodIn_app (goodIn_of _ (by decide +kernel)) ggX7_worksOnOne_X7_read
set_option maxRecDepth 20000 in
theorem ggX7_worksOnOne_X7_write : GoodIn wsX7_worksOnOne wsX7_write := goodIn_r _ [84, 10, 23, 51, 85, 46, 86, 87, 88, 7, 89, 26, 34, 36, 35, 38, 39, 40, 41, 90, 91, 92, 93, 94, 95, 96, 97, 52, 27, 28, 98, 99, 100, 101, 102, 103, 104, 105, 106, 107, 108, 109, 110, 111, 112, 113, 114, 115, 116, 117, 118, 119, 120, 121, 122, 123, 124, 125, 126, 127, 128, 129, 130] rfl (by decide +kernel)
set_option maxRecDepth 20000 in
theorem gX7_worksOnOne_X7_write : GoodIn wsX7_worksOnOne (wsV RX7 116 RX7 yX7_write wsX7_write) := goodIn_app (goodIn_of _ (by decide +kernel)) ggX7_worksOnOne_X7_write
theorem dX7_worksOnOne_0 : decode cX7_worksOnOne 0 = .ok (.iload_n 1, 1) := by decide +kernel
theorem dX7_worksOnOne_1 : decode cX7_worksOnOne 1 = .ok (.bipush 15, 2) := by decide +kernel
theorem dX7_worksOnOne_3 : decode cX7_worksOnOne 3 = .ok (.iand, 1) := by decide +kernel
theorem dX7_worksOnOne_4 : decode cX7_worksOnOne 4 = .ok (.istore_n 2, 1) := by decide +kernel
theorem dX7_worksOnOne_5 : decode cX7_worksOnOne 5 = .ok (.iload_n 1, 1) := by decide +kernel
theorem dX7_worksOnOne_6 : decode cX7_worksOnOne 6 = .ok (.iconst 4, 1) := by decide +kernel
theorem dX7_worksOnOne_7 : decode cX7_worksOnOne 7 = .ok (.ishr, 1) := by decide +kernel
theorem dX7_worksOnOne_8 : decode cX7_worksOnOne 8 = .ok (.istore_n 3, 1) := by decide +kernel
theorem dX7_worksOnOne_9 : decode cX7_worksOnOne 9 = .ok (.iload_n 2, 1) := by decide +kernel
theorem dX7_worksOnOne_10 : decode cX7_worksOnOne 10 = .ok (.bipush 14, 2) := by decide +kernel
theorem dX7_worksOnOne_12 : decode cX7_worksOnOne 12 = .ok (.if_icmp .ne 30, 3) := by decide +kernel
theorem dX7_worksOnOne_15 : decode cX7_worksOnOne 15 = .ok (.iload_n 3, 1) := by decide +kernel
theorem dX7_worksOnOne_16 : decode cX7_worksOnOne 16 = .ok (.bipush 6, 2) := by decide +kernel
theorem dX7_worksOnOne_18 : decode cX7_worksOnOne 18 = .ok (.if_icmp .lt 24, 3) := by decide +kernel
theorem dX7_worksOnOne_21 : decode cX7_worksOnOne 21 = .ok (.aload_n 0, 1) := by decide +kernel
theorem dX7_worksOnOne_22 : decode cX7_worksOnOne 22 = .ok (.aload_n 0, 1) := by decide +kernel
theorem dX7_worksOnOne_23 : decode cX7_worksOnOne 23 = .ok (.iload_n 3, 1) := by decide +kernel
theorem dX7_worksOnOne_24 : decode cX7_worksOnOne 24 = .ok (.bipush 6, 2) := by decide +kernel
theorem dX7_worksOnOne_26 : decode cX7_worksOnOne 26 = .ok (.if_icmp .ne 7, 3) := by decide +kernel
theorem dX7_worksOnOne_29 : decode cX7_worksOnOne 29 = .ok (.iconst 2, 1) := by decide +kernel
theorem dX7_worksOnOne_30 : decode cX7_worksOnOne 30 = .ok (.goto 4, 3) := by decide +kernel
theorem dX7_worksOnOne_33 : decode cX7_worksOnOne 33 = .ok (.iconst 3, 1) := by decide +kernel
theorem dX7_worksOnOne_34 : decode cX7_worksOnOne 34 = .ok (.invokevirtual 196, 3) := by decide +kernel
theorem dX7_worksOnOne_37 : decode cX7_worksOnOne 37 = .ok (.putfield 119, 3) := by decide +kernel
theorem dX7_worksOnOne_40 : decode cX7_worksOnOne 40 = .ok (.iconst 1, 1) := by decide +kernel
theorem dX7_worksOnOne_41 : decode cX7_worksOnOne 41 = .ok (.ireturn, 1) := by decide +kernel
theorem dX7_worksOnOne_42 : decode cX7_worksOnOne 42 = .ok (.iload_n 2, 1) := by decide +kernel
theorem dX7_worksOnOne_43 : decode cX7_worksOnOne 43 = .ok (.invokestatic 199, 3) := by decide +kernel
theorem dX7_worksOnOne_46 : decode cX7_worksOnOne 46 = .ok (.ifCond .ne 5, 3) := by decide +kernel
theorem dX7_worksOnOne_49 : decode cX7_worksOnOne 49 = .ok (.iconst 0, 1) := by decide +kernel
theorem dX7_worksOnOne_50 : decode cX7_worksOnOne 50 = .ok (.ireturn, 1) := by decide +kernel
theorem dX7_worksOnOne_51 : decode cX7_worksOnOne 51 = .ok (.iload_n 3, 1) := by decide +kernel
theorem dX7_worksOnOne_52 : decode cX7_worksOnOne 52 = .ok (.iconst 4, 1) := by decide +kernel
theorem dX7_worksOnOne_53 : decode cX7_worksOnOne 53 = .ok (.if_icmp .ne 19, 3) := by decide +kernel
theorem dX7_worksOnOne_56 : decode cX7_worksOnOne 56 = .ok (.aload_n 0, 1) := by decide +kernel
theorem dX7_worksOnOne_57 : decode cX7_worksOnOne 57 = .ok (.aload_n 0, 1) := by decide +kernel
theorem dX7_worksOnOne_58 : decode cX7_worksOnOne 58 = .ok (.iload_n 2, 1) := by decide +kernel
theorem dX7_worksOnOne_59 : decode cX7_worksOnOne 59 = .ok (.aload_n 0, 1) := by decide +kernel
theorem dX7_worksOnOne_60 : decode cX7_worksOnOne 60 = .ok (.getfield 140, 3) := by decide +kernel
theorem dX7_worksOnOne_63 : decode cX7_worksOnOne 63 = .ok (.invokevirtual 202, 3) := by decide +kernel
theorem dX7_worksOnOne_66 : decode cX7_worksOnOne 66 = .ok (.putfield 140, 3) := by decide +kernel
theorem dX7_worksOnOne_69 : decode cX7_worksOnOne 69 = .ok (.goto 78, 3) := by decide +kernel
theorem dX7_worksOnOne_72 : decode cX7_worksOnOne 72 = .ok (.iload_n 3, 1) := by decide +kernel
theorem dX7_worksOnOne_73 : decode cX7_worksOnOne 73 = .ok (.iconst 5, 1) := by decide +kernel
theorem dX7_worksOnOne_74 : decode cX7_worksOnOne 74 = .ok (.if_icmp .ne 19, 3) := by decide +kernel
theorem dX7_worksOnOne_77 : decode cX7_worksOnOne 77 = .ok (.aload_n 0, 1) := by decide +kernel
theorem dX7_worksOnOne_78 : decode cX7_worksOnOne 78 = .ok (.aload_n 0, 1) := by decide +kernel
theorem dX7_worksOnOne_79 : decode cX7_worksOnOne 79 = .ok (.iload_n 2, 1) := by decide +kernel
theorem dX7_worksOnOne_80 : decode cX7_worksOnOne 80 = .ok (.aload_n 0, 1) := by decide +kernel
theorem dX7_worksOnOne_81 : decode cX7_worksOnOne 81 = .ok (.getfield 143, 3) := by decide +kernel
theorem dX7_worksOnOne_84 : decode cX7_worksOnOne 84 = .ok (.invokevirtual 202, 3) := by decide +kernel
theorem dX7_worksOnOne_87 : decode cX7_worksOnOne 87 = .ok (.putfield 143, 3) := by decide +kernel
theorem dX7_worksOnOne_90 : decode cX7_worksOnOne 90 = .ok (.goto 57, 3) := by decide +kernel
theorem dX7_worksOnOne_93 : decode cX7_worksOnOne 93 = .ok (.aload_n 0, 1) := by decide +kernel
theorem dX7_worksOnOne_94 : decode cX7_worksOnOne 94 = .ok (.iload_n 3, 1) := by decide +kernel
theorem dX7_worksOnOne_95 : decode cX7_worksOnOne 95 = .ok (.bipush 6, 2) := by decide +kernel
theorem dX7_worksOnOne_97 : decode cX7_worksOnOne 97 = .ok (.if_icmp .ne 7, 3) := by decide +kernel
theorem dX7_worksOnOne_100 : decode cX7_worksOnOne 100 = .ok (.iconst 2, 1) := by decide +kernel
theorem dX7_worksOnOne_101 : decode cX7_worksOnOne 101 = .ok (.goto 4, 3) := by decide +kernel
theorem dX7_worksOnOne_104 : decode cX7_worksOnOne 104 = .ok (.iconst 3, 1) := by decide +kernel
theorem dX7_worksOnOne_105 : decode cX7_worksOnOne 105 = .ok (.invokevirtual 196, 3) := by decide +kernel
theorem dX7_worksOnOne_108 : decode cX7_worksOnOne 108 = .ok (.istore 4, 2) := by decide +kernel
theorem dX7_worksOnOne_110 : decode cX7_worksOnOne 110 = .ok (.aload_n 0, 1) := by decide +kernel
theorem dX7_worksOnOne_111 : decode cX7_worksOnOne 111 = .ok (.iload_n 2, 1) := by decide +kernel
theorem dX7_worksOnOne_112 : decode cX7_worksOnOne 112 = .ok (.iload_n 2, 1) := by decide +kernel
theorem dX7_worksOnOne_113 : decode cX7_worksOnOne 113 = .ok (.bipush 15, 2) := by decide +kernel
theorem dX7_worksOnOne_115 : decode cX7_worksOnOne 115 = .ok (.if_icmp .ne 7, 3) := by decide +kernel
theorem dX7_worksOnOne_118 : decode cX7_worksOnOne 118 = .ok (.iconst 0, 1) := by decide +kernel
theorem dX7_worksOnOne_119 : decode cX7_worksOnOne 119 = .ok (.goto 9, 3) := by decide +kernel
theorem dX7_worksOnOne_122 : decode cX7_worksOnOne 122 = .ok (.aload_n 0, 1) := by decide +kernel
theorem dX7_worksOnOne_123 : decode cX7_worksOnOne 123 = .ok (.iload 4, 2) := by decide +kernel
theorem dX7_worksOnOne_125 : decode cX7_worksOnOne 125 = .ok (.invokevirtual 113, 3) := by decide +kernel
theorem dX7_worksOnOne_128 : decode cX7_worksOnOne 128 = .ok (.invokevirtual 202, 3) := by decide +kernel
theorem dX7_worksOnOne_131 : decode cX7_worksOnOne 131 = .ok (.istore 5, 2) := by decide +kernel
theorem dX7_worksOnOne_133 : decode cX7_worksOnOne 133 = .ok (.iload_n 2, 1) := by decide +kernel
theorem dX7_worksOnOne_134 : decode cX7_worksOnOne 134 = .ok (.bipush 13, 2) := by decide +kernel
theorem dX7_worksOnOne_136 : decode cX7_worksOnOne 136 = .ok (.if_icmp .eq 11, 3) := by decide +kernel
theorem dX7_worksOnOne_139 : decode cX7_worksOnOne 139 = .ok (.aload_n 0, 1) := by decide +kernel
theorem dX7_worksOnOne_140 : decode cX7_worksOnOne 140 = .ok (.iload 4, 2) := by decide +kernel
theorem dX7_worksOnOne_142 : decode cX7_worksOnOne 142 = .ok (.iload 5, 2) := by decide +kernel
theorem dX7_worksOnOne_144 : decode cX7_worksOnOne 144 = .ok (.invokevirtual 116, 3) := by decide +kernel
theorem dX7_worksOnOne_147 : decode cX7_worksOnOne 147 = .ok (.iconst 1, 1) := by decide +kernel
theorem dX7_worksOnOne_148 : decode cX7_worksOnOne 148 = .ok (.ireturn, 1) := by decide +kernel
set_option maxRecDepth 20000 in
theorem ggX7_addressOf_X7_nextWord : GoodIn wsX7_addressOf wsX7_nextWord := goodIn_r _ [7, 8, 9, 10, 6, 11, 12, 2, 13, 14, 15, 16, 17, 18, 19, 20, 21, 22, 23, 24, 25, 26, 27, 28, 29, 30, 31, 32, 33, 34, 35, 36, 37, 38, 39, 40, 41, 42, 43, 44, 45, 46, 47, 48, 49, 50, 51, 52, 53, 54, 55, 56, 57, 58, 59, 60, 61, 62, 63, 64, 65, 66, 67, 68, 69, 70, 71, 72, 73, 74, 75, 76, 77] rfl (by decide +kernel)
set_option maxRecDepth 20000 in
theorem gX7_addressOf_X7_nextWord : GoodIn wsX7_addressOf (wsV RX7 206 RX7 yX7_nextWord wsX7_nextWord) := goodIn_app (goodIn_of _ (by decide +kernel)) ggX7_addressOf_X7_nextWord
set_option maxRecDepth 20000 in
theorem ggX7_addressOf_X7_next : GoodIn wsX7_addressOf wsX7_next := goodIn_r _ [11, 12, 2, 13, 14, 15, 6, 16, 17, 18, 19, 20, 21, 22, 23, 24, 25, 26, 27, 28, 29, 30, 31, 32, 33, 34, 35, 36, 37, 38, 39, 40, 41, 42, 43, 44, 45, 46, 47, 48, 49, 50, 51, 52, 53, 54, 55, 56, 57, 58, 59, 60, 61, 62, 63, 64, 65, 66, 67, 68, 69, 70, 71, 72, 73, 74, 75, 76, 77] rfl (by decide +kernel)
set_option maxRecDepth 20000 in
theorem gX7_addressOf_X7_next : GoodIn wsX7_addressOf (wsV RX7 122 RX7 yX7_next wsX7_next) := goodIn_app (goodIn_of _ (by decide +kernel)) ggX7_addressOf_X7_next
theorem dX7_addressOf_0 : decode cX7_addressOf 0 = .ok (.iload_n 1, 1) := by decide +kernel
theorem dX7_addressOf_1 : decode cX7_addressOf 1 = .ok (.iconst 3, 1) := by decide +kernel
theorem dX7_addressOf_2 : decode cX7_addressOf 2 = .ok (.if_icmp .ne 8, 3) := by decide +kernel
theorem dX7_addressOf_5 : decode cX7_addressOf 5 = .ok (.aload_n 0, 1) := by decide +kernel
theorem dX7_addressOf_6 : decode cX7_addressOf 6 = .ok (.invokevirtual 206, 3) := by decide +kernel
theorem dX7_addressOf_9 : decode cX7_addressOf 9 = .ok (.ireturn, 1) := by decide +kernel
theorem dX7_addressOf_10 : decode cX7_addressOf 10 = .ok (.aload_n 0, 1) := by decide +kernel
theorem dX7_addressOf_11 : decode cX7_addressOf 11 = .ok (.invokevirtual 122, 3) := by decide +kernel
theorem dX7_addressOf_14 : decode cX7_addressOf 14 = .ok (.istore_n 2, 1) := by decide +kernel
theorem dX7_addressOf_15 : decode cX7_addressOf 15 = .ok (.iload_n 1, 1) := by decide +kernel
theorem dX7_addressOf_16 : decode cX7_addressOf 16 = .ok (.iconst 1, 1) := by decide +kernel
theorem dX7_addressOf_17 : decode cX7_addressOf 17 = .ok (.if_icmp .ne 7, 3) := by decide +kernel
theorem dX7_addressOf_20 : decode cX7_addressOf 20 = .ok (.iload_n 2, 1) := by decide +kernel
theorem dX7_addressOf_21 : decode cX7_addressOf 21 = .ok (.goto 12, 3) := by decide +kernel
theorem dX7_addressOf_24 : decode cX7_addressOf 24 = .ok (.aload_n 0, 1) := by decide +kernel
theorem dX7_addressOf_25 : decode cX7_addressOf 25 = .ok (.getfield 137, 3) := by decide +kernel
theorem dX7_addressOf_28 : decode cX7_addressOf 28 = .ok (.iload_n 2, 1) := by decide +kernel
theorem dX7_addressOf_29 : decode cX7_addressOf 29 = .ok (.iadd, 1) := by decide +kernel
theorem dX7_addressOf_30 : decode cX7_addressOf 30 = .ok (.ldc 93, 2) := by decide +kernel
theorem dX7_addressOf_32 : decode cX7_addressOf 32 = .ok (.iand, 1) := by decide +kernel
theorem dX7_addressOf_33 : decode cX7_addressOf 33 = .ok (.ireturn, 1) := by decide +kernel
set_option maxRecDepth 20000 in
theorem ggX7_operand_X7_next : GoodIn wsX7_operand wsX7_next := goodIn_r _ [5, 6, 7, 8, 9, 10, 4, 11, 12, 13, 14, 15, 16, 17, 18, 19, 20, 21, 22, 23, 24, 25, 26, 27, 28, 29, 30, 31, 32, 33, 34, 35, 36, 37, 38, 39, 40, 41, 51, 52, 53, 54, 55, 56, 57, 58, 59, 60, 61, 62, 63, 64, 65, 66, 67, 68, 69, 70, 71, 72, 73, 74, 75, 76, 77, 78, 79, 80, 81] rfl (by decide +kernel)
set_option maxRecDepth 20000 in
theorem gX7_operand_X7_next : GoodIn wsX7_operand (wsV RX7 122 RX7 yX7_next wsX7_next) := goodIn_app (goodIn_of _ (by decide +kernel)) ggX7_operand_X7_next
set_option maxRecDepth 20000 in
theorem ggX7_operand_X7_addressOf : GoodIn wsX7_operand wsX7_addressOf := goodIn_r _ [45, 46, 7, 47, 48, 49, 4, 50, 1, 2, 3, 5, 6, 8, 9, 10, 11, 12, 13, 14, 15, 16, 17, 18, 19, 20, 21, 22, 23, 24, 25, 26, 27, 28, 29, 30, 31, 32, 33, 34, 35, 36, 37, 38, 39, 40, 41, 51, 52, 53, 54, 55, 56, 57, 58, 59, 60, 61, 62, 63, 64, 65, 66, 67, 68, 69, 70, 71, 72, 73, 74, 75, 76, 77, 78, 79, 80, 81] rfl (by decide +kernel)
set_option maxRecDepth 20000 in
theorem gX7_operand_X7_addressOf : GoodIn wsX7_operand (wsV RX7 196 RX7 yX7_addressOf wsX7_addressOf) := goodIn_app (goodIn_of _ (by decide +kernel)) ggX7_operand_X7_addressOf
set_option maxRecDepth 20000 in
theorem ggX7_operand_X7_read : GoodIn wsX7_operand wsX7_read := goodIn_r _ [11, 7, 12, 13, 14, 15, 16, 17, 18, 19, 20, 21, 4, 22, 23, 24, 25, 26, 27, 28, 29, 30, 31, 32, 33, 34, 35, 36, 37, 38, 39, 40, 41, 51, 52, 53, 54, 55, 56, 57, 58, 59, 60, 61, 62, 63, 64, 65, 66, 67, 68, 69, 70, 71, 72, 73, 74, 75, 76, 77, 78, 79, 80, 81] rfl (by decide +kernel)
set_option maxRecDepth 20000 in
theorem gX7_operand_X7_read : GoodIn wsX7_operand (wsV RX7 113 RX7 yX7_read wsX7_read) := goodIn_app (goodIn_of _ (by decide +kernel)) ggX7_operand_X7_read
theorem dX7_operand_0 : decode cX7_operand 0 = .ok (.iload_n 1, 1) := by decide +kernel
theorem dX7_operand_1 : decode cX7_operand 1 = .ok (.ifCond .ne 10, 3) := by decide +kernel
theorem dX7_operand_4 : decode cX7_operand 4 = .ok (.aload_n 0, 1) := by decide +kernel
theorem dX7_operand_5 : decode cX7_operand 5 = .ok (.invokevirtual 122, 3) := by decide +kernel
theorem dX7_operand_8 : decode cX7_operand 8 = .ok (.goto 12, 3) := by decide +kernel
theorem dX7_operand_11 : decode cX7_operand 11 = .ok (.aload_n 0, 1) := by decide +kernel
theorem dX7_operand_12 : decode cX7_operand 12 = .ok (.aload_n 0, 1) := by decide +kernel
theorem dX7_operand_13 : decode cX7_operand 13 = .ok (.iload_n 1, 1) := by decide +kernel
theorem dX7_operand_14 : decode cX7_operand 14 = .ok (.invokevirtual 196, 3) := by decide +kernel
theorem dX7_operand_17 : decode cX7_operand 17 = .ok (.invokevirtual 113, 3) := by decide +kernel
theorem dX7_operand_20 : decode cX7_operand 20 = .ok (.ireturn, 1) := by decide +kernel
set_option maxRecDepth 20000 in
theorem ggX7_wordOperand_X7_nextWord : GoodIn wsX7_wordOperand wsX7_nextWord := goodIn_r _ [5, 6, 7, 8, 4, 9, 10, 11, 12, 13, 14, 15, 16, 17, 18, 19, 20, 21, 22, 23, 24, 25, 26, 27, 28, 29, 30, 31, 32, 33, 34, 35, 36, 37, 38, 39, 40, 41, 42, 43, 44, 45, 55, 56, 57, 58, 59, 60, 61, 62, 63, 64, 65, 66, 67, 68, 69, 70, 71, 72, 73, 74, 75, 76, 77, 78, 79, 80, 81, 82, 83, 84, 85] rfl (by decide +kernel)
set_option maxRecDepth 20000 in
theorem gX7_wordOperand_X7_nextWord : GoodIn wsX7_wordOperand (wsV RX7 206 RX7 yX7_nextWord wsX7_nextWord) := goodIn_app (goodIn_of _ (by decide +kernel)) ggX7_wordOperand_X7_nextWord
set_option maxRecDepth 20000 in
theorem ggX7_wordOperand_X7_addressOf : GoodIn wsX7_wordOperand wsX7_addressOf := goodIn_r _ [49, 50, 11, 1, 2, 3, 4, 5, 6, 7, 8, 9, 10, 12, 13, 14, 15, 16, 17, 18, 19, 20, 21, 22, 23, 24, 25, 26, 27, 28, 29, 30, 31, 32, 33, 34, 35, 36, 37, 38, 39, 40, 41, 42, 43, 44, 45, 55, 56, 57, 58, 59, 60, 61, 62, 63, 64, 65, 66, 67, 68, 69, 70, 71, 72, 73, 74, 75, 76, 77, 78, 79, 80, 81, 82, 83, 84, 85] rfl (by decide +kernel)
set_option maxRecDepth 20000 in
theorem gX7_wordOperand_X7_addressOf : GoodIn wsX7_wordOperand (wsV RX7 196 RX7 yX7_addressOf wsX7_addressOf) := goodIn_app (goodIn_of _ (by decide +kernel)) ggX7_wordOperand_X7_addressOf
set_option maxRecDepth 20000 in
theorem ggX7_wordOperand_X7_readWord : GoodIn wsX7_wordOperand wsX7_readWord := goodIn_r _ [54, 12, 13, 14, 4, 15, 11, 16, 17, 18, 19, 20, 21, 22, 23, 24, 25, 26, 27, 28, 29, 30, 31, 32, 33, 34, 35, 36, 37, 38, 39, 40, 41, 42, 43, 44, 45, 55, 56, 57, 58, 59, 60, 61, 62, 63, 64, 65, 66, 67, 68, 69, 70, 71, 72, 73, 74, 75, 76, 77, 78, 79, 80, 81, 82, 83, 84, 85] rfl (by decide +kernel)
set_option maxRecDepth 20000 in
theorem gX7_wordOperand_X7_readWord : GoodIn wsX7_wordOperand (wsV RX7 189 RX7 yX7_readWord wsX7_readWord) := goodIn_app (goodIn_of _ (by decide +kernel)) ggX7_wordOperand_X7_readWord
theorem dX7_wordOperand_0 : decode cX7_wordOperand 0 = .ok (.iload_n 1, 1) := by decide +kernel
theorem dX7_wordOperand_1 : decode cX7_wordOperand 1 = .ok (.ifCond .ne 10, 3) := by decide +kernel
theorem dX7_wordOperand_4 : decode cX7_wordOperand 4 = .ok (.aload_n 0, 1) := by decide +kernel
theorem dX7_wordOperand_5 : decode cX7_wordOperand 5 = .ok (.invokevirtual 206, 3) := by decide +kernel
theorem dX7_wordOperand_8 : decode cX7_wordOperand 8 = .ok (.goto 12, 3) := by decide +kernel
theorem dX7_wordOperand_11 : decode cX7_wordOperand 11 = .ok (.aload_n 0, 1) := by decide +kernel
theorem dX7_wordOperand_12 : decode cX7_wordOperand 12 = .ok (.aload_n 0, 1) := by decide +kernel
theorem dX7_wordOperand_13 : decode cX7_wordOperand 13 = .ok (.iload_n 1, 1) := by decide +kernel
theorem dX7_wordOperand_14 : decode cX7_wordOperand 14 = .ok (.invokevirtual 196, 3) := by decide +kernel
theorem dX7_wordOperand_17 : decode cX7_wordOperand 17 = .ok (.invokevirtual 189, 3) := by decide +kernel
theorem dX7_wordOperand_20 : decode cX7_wordOperand 20 = .ok (.ireturn, 1) := by decide +kernel
set_option maxRecDepth 20000 in
theorem ggX7_withTwo_X7_is : GoodIn wsX7_withTwo wsX7_is := goodIn_r _ [5, 6, 30, 31, 32, 33, 34, 35, 36, 37, 38, 39, 40, 41, 42, 43, 44, 45, 46, 47, 48, 49, 50, 51, 52, 53, 54, 55, 56, 57, 58, 59, 60] rfl (by decide +kernel)
set_option maxRecDepth 20000 in
theorem gX7_withTwo_X7_is : GoodIn wsX7_withTwo (wsV RX7 160 RX7 yX7_is wsX7_is) := goodIn_app (goodIn_of _ (by decide +kernel)) ggX7_withTwo_X7_is
set_option maxRecDepth 20000 in
theorem ggX7_withTwo_X7_less : GoodIn wsX7_withTwo wsX7_less := goodIn_r _ [10, 11, 12, 4, 13, 14, 15, 16, 17, 6, 18, 19, 20, 21, 30, 31, 32, 33, 34, 35, 36, 37, 38, 39, 40, 41, 42, 43, 44, 45, 46, 47, 48, 49, 50, 51, 52, 53, 54, 55, 56, 57, 58, 59, 60] rfl (by decide +kernel)
set_option maxRecDepth 20000 in
theorem gX7_withTwo_X7_less : GoodIn wsX7_withTwo (wsV RX7 166 RX7 yX7_less wsX7_less) := goodIn_app (goodIn_of _ (by decide +kernel)) ggX7_withTwo_X7_less
set_option maxRecDepth 20000 in
theorem ggX7_withTwo_X7_nzv : GoodIn wsX7_withTwo wsX7_nzv := goodIn_r _ [25, 14, 15, 16, 4, 17, 6, 18, 19, 20, 21, 30, 31, 32, 33, 34, 35, 36, 37, 38, 39, 40, 41, 42, 43, 44, 45, 46, 47, 48, 49, 50, 51, 52, 53, 54, 55, 56, 57, 58, 59, 60] rfl (by decide +kernel)
set_option maxRecDepth 20000 in
theorem gX7_withTwo_X7_nzv : GoodIn wsX7_withTwo (wsV RX7 163 RX7 yX7_nzv wsX7_nzv) := goodIn_app (goodIn_of _ (by decide +kernel)) ggX7_withTwo_X7_nzv
set_option maxRecDepth 20000 in
theorem ggX7_withTwo_X7_plus : GoodIn wsX7_withTwo wsX7_plus := goodIn_r _ [29, 11, 12, 4, 13, 14, 15, 16, 17, 6, 18, 19, 20, 21, 30, 31, 32, 33, 34, 35, 36, 37, 38, 39, 40, 41, 42, 43, 44, 45, 46, 47, 48, 49, 50, 51, 52, 53, 54, 55, 56, 57, 58, 59, 60] rfl (by decide +kernel)
set_option maxRecDepth 20000 in
theorem gX7_withTwo_X7_plus : GoodIn wsX7_withTwo (wsV RX7 173 RX7 yX7_plus wsX7_plus) := goodIn_app (goodIn_of _ (by decide +kernel)) ggX7_withTwo_X7_plus
theorem dX7_withTwo_0 : decode cX7_withTwo 0 = .ok (.aload_n 0, 1) := by decide +kernel
theorem dX7_withTwo_1 : decode cX7_withTwo 1 = .ok (.iconst 1, 1) := by decide +kernel
theorem dX7_withTwo_2 : decode cX7_withTwo 2 = .ok (.invokevirtual 160, 3) := by decide +kernel
theorem dX7_withTwo_5 : decode cX7_withTwo 5 = .ok (.ifCond .eq 7, 3) := by decide +kernel
theorem dX7_withTwo_8 : decode cX7_withTwo 8 = .ok (.iconst 1, 1) := by decide +kernel
theorem dX7_withTwo_9 : decode cX7_withTwo 9 = .ok (.goto 4, 3) := by decide +kernel
theorem dX7_withTwo_12 : decode cX7_withTwo 12 = .ok (.iconst 0, 1) := by decide +kernel
theorem dX7_withTwo_13 : decode cX7_withTwo 13 = .ok (.istore 4, 2) := by decide +kernel
theorem dX7_withTwo_15 : decode cX7_withTwo 15 = .ok (.iload_n 1, 1) := by decide +kernel
theorem dX7_withTwo_16 : decode cX7_withTwo 16 = .ok (.tableswitch 136 0 10 #[60, 68, 78, 136, 87, 95, 105, 136, 111, 119, 128], 60) := by decide +kernel
theorem dX7_withTwo_76 : decode cX7_withTwo 76 = .ok (.aload_n 0, 1) := by decide +kernel
theorem dX7_withTwo_77 : decode cX7_withTwo 77 = .ok (.iload_n 2, 1) := by decide +kernel
theorem dX7_withTwo_78 : decode cX7_withTwo 78 = .ok (.iload_n 3, 1) := by decide +kernel
theorem dX7_withTwo_79 : decode cX7_withTwo 79 = .ok (.iconst 0, 1) := by decide +kernel
theorem dX7_withTwo_80 : decode cX7_withTwo 80 = .ok (.invokevirtual 166, 3) := by decide +kernel
theorem dX7_withTwo_83 : decode cX7_withTwo 83 = .ok (.ireturn, 1) := by decide +kernel
theorem dX7_withTwo_84 : decode cX7_withTwo 84 = .ok (.aload_n 0, 1) := by decide +kernel
theorem dX7_withTwo_85 : decode cX7_withTwo 85 = .ok (.iload_n 2, 1) := by decide +kernel
theorem dX7_withTwo_86 : decode cX7_withTwo 86 = .ok (.iload_n 3, 1) := by decide +kernel
theorem dX7_withTwo_87 : decode cX7_withTwo 87 = .ok (.iconst 0, 1) := by decide +kernel
theorem dX7_withTwo_88 : decode cX7_withTwo 88 = .ok (.invokevirtual 166, 3) := by decide +kernel
theorem dX7_withTwo_91 : decode cX7_withTwo 91 = .ok (.pop, 1) := by decide +kernel
theorem dX7_withTwo_92 : decode cX7_withTwo 92 = .ok (.iload_n 2, 1) := by decide +kernel
theorem dX7_withTwo_93 : decode cX7_withTwo 93 = .ok (.ireturn, 1) := by decide +kernel
theorem dX7_withTwo_94 : decode cX7_withTwo 94 = .ok (.aload_n 0, 1) := by decide +kernel
theorem dX7_withTwo_95 : decode cX7_withTwo 95 = .ok (.iload_n 2, 1) := by decide +kernel
theorem dX7_withTwo_96 : decode cX7_withTwo 96 = .ok (.iload_n 3, 1) := by decide +kernel
theorem dX7_withTwo_97 : decode cX7_withTwo 97 = .ok (.iload 4, 2) := by decide +kernel
theorem dX7_withTwo_99 : decode cX7_withTwo 99 = .ok (.invokevirtual 166, 3) := by decide +kernel
theorem dX7_withTwo_102 : decode cX7_withTwo 102 = .ok (.ireturn, 1) := by decide +kernel
theorem dX7_withTwo_103 : decode cX7_withTwo 103 = .ok (.aload_n 0, 1) := by decide +kernel
theorem dX7_withTwo_104 : decode cX7_withTwo 104 = .ok (.iload_n 2, 1) := by decide +kernel
theorem dX7_withTwo_105 : decode cX7_withTwo 105 = .ok (.iload_n 3, 1) := by decide +kernel
theorem dX7_withTwo_106 : decode cX7_withTwo 106 = .ok (.iand, 1) := by decide +kernel
theorem dX7_withTwo_107 : decode cX7_withTwo 107 = .ok (.invokevirtual 163, 3) := by decide +kernel
theorem dX7_withTwo_110 : decode cX7_withTwo 110 = .ok (.ireturn, 1) := by decide +kernel
theorem dX7_withTwo_111 : decode cX7_withTwo 111 = .ok (.aload_n 0, 1) := by decide +kernel
theorem dX7_withTwo_112 : decode cX7_withTwo 112 = .ok (.iload_n 2, 1) := by decide +kernel
theorem dX7_withTwo_113 : decode cX7_withTwo 113 = .ok (.iload_n 3, 1) := by decide +kernel
theorem dX7_withTwo_114 : decode cX7_withTwo 114 = .ok (.iand, 1) := by decide +kernel
theorem dX7_withTwo_115 : decode cX7_withTwo 115 = .ok (.invokevirtual 163, 3) := by decide +kernel
theorem dX7_withTwo_118 : decode cX7_withTwo 118 = .ok (.pop, 1) := by decide +kernel
theorem dX7_withTwo_119 : decode cX7_withTwo 119 = .ok (.iload_n 2, 1) := by decide +kernel
theorem dX7_withTwo_120 : decode cX7_withTwo 120 = .ok (.ireturn, 1) := by decide +kernel
theorem dX7_withTwo_121 : decode cX7_withTwo 121 = .ok (.aload_n 0, 1) := by decide +kernel
theorem dX7_withTwo_122 : decode cX7_withTwo 122 = .ok (.iload_n 3, 1) := by decide +kernel
theorem dX7_withTwo_123 : decode cX7_withTwo 123 = .ok (.invokevirtual 163, 3) := by decide +kernel
theorem dX7_withTwo_126 : decode cX7_withTwo 126 = .ok (.ireturn, 1) := by decide +kernel
theorem dX7_withTwo_127 : decode cX7_withTwo 127 = .ok (.aload_n 0, 1) := by decide +kernel
theorem dX7_withTwo_128 : decode cX7_withTwo 128 = .ok (.iload_n 2, 1) := by decide +kernel
theorem dX7_withTwo_129 : decode cX7_withTwo 129 = .ok (.iload_n 3, 1) := by decide +kernel
theorem dX7_withTwo_130 : decode cX7_withTwo 130 = .ok (.ixor, 1) := by decide +kernel
theorem dX7_withTwo_131 : decode cX7_withTwo 131 = .ok (.invokevirtual 163, 3) := by decide +kernel
theorem dX7_withTwo_134 : decode cX7_withTwo 134 = .ok (.ireturn, 1) := by decide +kernel
theorem dX7_withTwo_135 : decode cX7_withTwo 135 = .ok (.aload_n 0, 1) := by decide +kernel
theorem dX7_withTwo_136 : decode cX7_withTwo 136 = .ok (.iload_n 2, 1) := by decide +kernel
theorem dX7_withTwo_137 : decode cX7_withTwo 137 = .ok (.iload_n 3, 1) := by decide +kernel
theorem dX7_withTwo_138 : decode cX7_withTwo 138 = .ok (.iload 4, 2) := by decide +kernel
theorem dX7_withTwo_140 : decode cX7_withTwo 140 = .ok (.invokevirtual 173, 3) := by decide +kernel
theorem dX7_withTwo_143 : decode cX7_withTwo 143 = .ok (.ireturn, 1) := by decide +kernel
theorem dX7_withTwo_144 : decode cX7_withTwo 144 = .ok (.aload_n 0, 1) := by decide +kernel
theorem dX7_withTwo_145 : decode cX7_withTwo 145 = .ok (.iload_n 2, 1) := by decide +kernel
theorem dX7_withTwo_146 : decode cX7_withTwo 146 = .ok (.iload_n 3, 1) := by decide +kernel
theorem dX7_withTwo_147 : decode cX7_withTwo 147 = .ok (.ior, 1) := by decide +kernel
theorem dX7_withTwo_148 : decode cX7_withTwo 148 = .ok (.invokevirtual 163, 3) := by decide +kernel
theorem dX7_withTwo_151 : decode cX7_withTwo 151 = .ok (.ireturn, 1) := by decide +kernel
theorem dX7_withTwo_152 : decode cX7_withTwo 152 = .ok (.aload_n 0, 1) := by decide +kernel
theorem dX7_withTwo_153 : decode cX7_withTwo 153 = .ok (.iload_n 2, 1) := by decide +kernel
theorem dX7_withTwo_154 : decode cX7_withTwo 154 = .ok (.iload_n 3, 1) := by decide +kernel
theorem dX7_withTwo_155 : decode cX7_withTwo 155 = .ok (.iconst 0, 1) := by decide +kernel
theorem dX7_withTwo_156 : decode cX7_withTwo 156 = .ok (.invokevirtual 173, 3) := by decide +kernel
theorem dX7_withTwo_159 : decode cX7_withTwo 159 = .ok (.ireturn, 1) := by decide +kernel
set_option maxRecDepth 20000 in
theorem ggX7_compareX_X7_nzWord : GoodIn wsX7_compareX wsX7_nzWord := goodIn_r _ [7, 8, 9, 10, 11, 12, 6, 13, 14, 15, 16, 17, 18, 19, 20, 21, 22, 23, 24, 25, 26, 27, 28, 29, 30, 31, 32, 33, 34, 35, 36, 37, 38, 39, 40, 41, 42, 43, 44, 45] rfl (by decide +kernel)
set_option maxRecDepth 20000 in
theorem gX7_compareX_X7_nzWord : GoodIn wsX7_compareX (wsV RX7 210 RX7 yX7_nzWord wsX7_nzWord) := goodIn_app (goodIn_of _ (by decide +kernel)) ggX7_compareX_X7_nzWord
set_option maxRecDepth 20000 in
theorem ggX7_compareX_X7_tell : GoodIn wsX7_compareX wsX7_tell := goodIn_r _ [13, 14, 15, 16, 17, 18, 19, 20, 21, 22, 23, 24, 25, 26, 27, 28, 29, 30, 31, 32, 33, 34, 35, 36, 37, 38, 39, 40, 41, 42, 43, 44, 45] rfl (by decide +kernel)
set_option maxRecDepth 20000 in
theorem gX7_compareX_X7_tell : GoodIn wsX7_compareX (wsV RX7 149 RX7 yX7_tell wsX7_tell) := goodIn_app (goodIn_of _ (by decide +kernel)) ggX7_compareX_X7_tell
theorem dX7_compareX_0 : decode cX7_compareX 0 = .ok (.aload_n 0, 1) := by decide +kernel
theorem dX7_compareX_1 : decode cX7_compareX 1 = .ok (.getfield 137, 3) := by decide +kernel
theorem dX7_compareX_4 : decode cX7_compareX 4 = .ok (.sipush 32767, 3) := by decide +kernel
theorem dX7_compareX_7 : decode cX7_compareX 7 = .ok (.if_icmp .le 13, 3) := by decide +kernel
theorem dX7_compareX_10 : decode cX7_compareX 10 = .ok (.aload_n 0, 1) := by decide +kernel
theorem dX7_compareX_11 : decode cX7_compareX 11 = .ok (.getfield 137, 3) := by decide +kernel
theorem dX7_compareX_14 : decode cX7_compareX 14 = .ok (.ldc 209, 2) := by decide +kernel
theorem dX7_compareX_16 : decode cX7_compareX 16 = .ok (.isub, 1) := by decide +kernel
theorem dX7_compareX_17 : decode cX7_compareX 17 = .ok (.goto 7, 3) := by decide +kernel
theorem dX7_compareX_20 : decode cX7_compareX 20 = .ok (.aload_n 0, 1) := by decide +kernel
theorem dX7_compareX_21 : decode cX7_compareX 21 = .ok (.getfield 137, 3) := by decide +kernel
theorem dX7_compareX_24 : decode cX7_compareX 24 = .ok (.iload_n 1, 1) := by decide +kernel
theorem dX7_compareX_25 : decode cX7_compareX 25 = .ok (.sipush 32767, 3) := by decide +kernel
theorem dX7_compareX_28 : decode cX7_compareX 28 = .ok (.if_icmp .le 10, 3) := by decide +kernel
theorem dX7_compareX_31 : decode cX7_compareX 31 = .ok (.iload_n 1, 1) := by decide +kernel
theorem dX7_compareX_32 : decode cX7_compareX 32 = .ok (.ldc 209, 2) := by decide +kernel
theorem dX7_compareX_34 : decode cX7_compareX 34 = .ok (.isub, 1) := by decide +kernel
theorem dX7_compareX_35 : decode cX7_compareX 35 = .ok (.goto 4, 3) := by decide +kernel
theorem dX7_compareX_38 : decode cX7_compareX 38 = .ok (.iload_n 1, 1) := by decide +kernel
theorem dX7_compareX_39 : decode cX7_compareX 39 = .ok (.isub, 1) := by decide +kernel
theorem dX7_compareX_40 : decode cX7_compareX 40 = .ok (.istore_n 2, 1) := by decide +kernel
theorem dX7_compareX_41 : decode cX7_compareX 41 = .ok (.aload_n 0, 1) := by decide +kernel
theorem dX7_compareX_42 : decode cX7_compareX 42 = .ok (.aload_n 0, 1) := by decide +kernel
theorem dX7_compareX_43 : decode cX7_compareX 43 = .ok (.getfield 137, 3) := by decide +kernel
theorem dX7_compareX_46 : decode cX7_compareX 46 = .ok (.iload_n 1, 1) := by decide +kernel
theorem dX7_compareX_47 : decode cX7_compareX 47 = .ok (.isub, 1) := by decide +kernel
theorem dX7_compareX_48 : decode cX7_compareX 48 = .ok (.invokevirtual 210, 3) := by decide +kernel
theorem dX7_compareX_51 : decode cX7_compareX 51 = .ok (.pop, 1) := by decide +kernel
theorem dX7_compareX_52 : decode cX7_compareX 52 = .ok (.aload_n 0, 1) := by decide +kernel
theorem dX7_compareX_53 : decode cX7_compareX 53 = .ok (.iconst 2, 1) := by decide +kernel
theorem dX7_compareX_54 : decode cX7_compareX 54 = .ok (.iload_n 2, 1) := by decide +kernel
theorem dX7_compareX_55 : decode cX7_compareX 55 = .ok (.sipush (-32768), 3) := by decide +kernel
theorem dX7_compareX_58 : decode cX7_compareX 58 = .ok (.if_icmp .lt 10, 3) := by decide +kernel
theorem dX7_compareX_61 : decode cX7_compareX 61 = .ok (.iload_n 2, 1) := by decide +kernel
theorem dX7_compareX_62 : decode cX7_compareX 62 = .ok (.sipush 32767, 3) := by decide +kernel
theorem dX7_compareX_65 : decode cX7_compareX 65 = .ok (.if_icmp .le 7, 3) := by decide +kernel
theorem dX7_compareX_68 : decode cX7_compareX 68 = .ok (.iconst 1, 1) := by decide +kernel
theorem dX7_compareX_69 : decode cX7_compareX 69 = .ok (.goto 4, 3) := by decide +kernel
theorem dX7_compareX_72 : decode cX7_compareX 72 = .ok (.iconst 0, 1) := by decide +kernel
theorem dX7_compareX_73 : decode cX7_compareX 73 = .ok (.invokevirtual 149, 3) := by decide +kernel
theorem dX7_compareX_76 : decode cX7_compareX 76 = .ok (.return_, 1) := by decide +kernel
