set_option maxRecDepth 20000 in
theorem ggX7_loaded_X7_tell : GoodIn wsX7_loaded wsX7_tell := goodIn_r _ [5, 6, 13, 14, 15, 16, 17, 18, 19, 20, 21, 22, 23, 24, 25, 26, 27, 28, 29, 30, 31, 32, 33, 34, 35, 36, 37, 38, 39, 40, 41, 42, 43] rfl (by decide +kernel)
set_option maxRecDepth 20000 in
theorem gX7_loaded_X7_tell : GoodIn wsX7_loaded (wsV RX7 149 RX7 yX7_tell wsX7_tell) := goodIn_app (goodIn_of _ (by decide +kernel)) ggX7_loaded_X7_tell
set_option maxRecDepth 20000 in
theorem ggX7_loaded_X7_nzWord : GoodIn wsX7_loaded wsX7_nzWord := goodIn_r _ [10, 11, 12, 1, 2, 3, 4, 5, 6, 13, 14, 15, 16, 17, 18, 19, 20, 21, 22, 23, 24, 25, 26, 27, 28, 29, 30, 31, 32, 33, 34, 35, 36, 37, 38, 39, 40, 41, 42, 43] rfl (by decide +kernel)
set_option maxRecDepth 20000 in
theorem gX7_loaded_X7_nzWord : GoodIn wsX7_loaded (wsV RX7 210 RX7 yX7_nzWord wsX7_nzWord) := goodIn_app (goodIn_of _ (by decide +kernel)) ggX7_loaded_X7_nzWord
theorem dX7_loaded_0 : decode cX7_loaded 0 = .ok (.aload_n 0, 1) := by decide +kernel
theorem dX7_loaded_1 : decode cX7_loaded 1 = .ok (.iconst 2, 1) := by decide +kernel
theorem dX7_loaded_2 : decode cX7_loaded 2 = .ok (.iconst 0, 1) := by decide +kernel
theorem dX7_loaded_3 : decode cX7_loaded 3 = .ok (.invokevirtual 149, 3) := by decide +kernel
theorem dX7_loaded_6 : decode cX7_loaded 6 = .ok (.aload_n 0, 1) := by decide +kernel
theorem dX7_loaded_7 : decode cX7_loaded 7 = .ok (.iload_n 1, 1) := by decide +kernel
theorem dX7_loaded_8 : decode cX7_loaded 8 = .ok (.invokevirtual 210, 3) := by decide +kernel
theorem dX7_loaded_11 : decode cX7_loaded 11 = .ok (.ireturn, 1) := by decide +kernel
set_option maxRecDepth 20000 in
theorem ggX7_withWords_X7_wordOperand : GoodIn wsX7_withWords wsX7_wordOperand := goodIn_r _ [7, 8, 9, 10, 6, 11, 12, 13, 14, 15, 16, 17, 18, 19, 20, 21, 22, 23, 24, 25, 26, 27, 28, 29, 30, 31, 32, 33, 34, 35, 36, 37, 38, 39, 40, 41, 42, 43, 44, 45, 46, 47, 48, 49, 50, 51, 52, 53, 54, 55, 1, 56, 57, 58, 59, 117, 118, 119, 120, 121, 122, 123, 124, 125, 126, 127, 128, 129, 130, 131, 132, 133, 134, 135, 136, 137, 138, 139, 140, 141, 142, 143, 144, 145, 146, 147] rfl (by decide +kernel)
set_option maxRecDepth 20000 in
theorem gX7_withWords_X7_wordOperand : GoodIn wsX7_withWords (wsV RX7 213 RX7 yX7_wordOperand wsX7_wordOperand) := goodIn_app (goodIn_of _ (by decide +kernel)) ggX7_withWords_X7_wordOperand
set_option maxRecDepth 20000 in
theorem ggX7_withWords_X7_compareX : GoodIn wsX7_withWords wsX7_compareX := goodIn_r _ [63, 1, 64, 65, 66, 67, 6, 68, 69, 17, 70, 71, 72, 73, 74, 117, 118, 119, 120, 121, 122, 123, 124, 125, 126, 127, 128, 129, 130, 131, 132, 133, 134, 135, 136, 137, 138, 139, 140, 141, 142, 143, 144, 145, 146, 147] rfl (by decide +kernel)
set_option maxRecDepth 20000 in
theorem gX7_withWords_X7_compareX : GoodIn wsX7_withWords (wsV RX7 216 RX7 yX7_compareX wsX7_compareX) := goodIn_app (goodIn_of _ (by decide +kernel)) ggX7_withWords_X7_compareX
set_option maxRecDepth 20000 in
theorem ggX7_withWords_X7_loaded : GoodIn wsX7_withWords wsX7_loaded := goodIn_r _ [78, 70, 71, 72, 6, 73, 74, 65, 66, 67, 68, 69, 17, 117, 118, 119, 120, 121, 122, 123, 124, 125, 126, 127, 128, 129, 130, 131, 132, 133, 134, 135, 136, 137, 138, 139, 140, 141, 142, 143, 144, 145, 146, 147] rfl (by decide +kernel)
set_option maxRecDepth 20000 in
theorem gX7_withWords_X7_loaded : GoodIn wsX7_withWords (wsV RX7 219 RX7 yX7_loaded wsX7_loaded) := goodIn_app (goodIn_of _ (by decide +kernel)) ggX7_withWords_X7_loaded
set_option maxRecDepth 20000 in
theorem ggX7_withWords_X7_addressOf : GoodIn wsX7_withWords wsX7_addressOf := goodIn_r _ [55, 1, 17, 8, 9, 10, 6, 11, 12, 13, 14, 15, 16, 18, 19, 20, 21, 22, 23, 24, 25, 26, 27, 28, 29, 30, 31, 32, 33, 34, 35, 36, 37, 38, 39, 40, 41, 42, 43, 44, 45, 46, 47, 48, 49, 50, 51, 117, 118, 119, 120, 121, 122, 123, 124, 125, 126, 127, 128, 129, 130, 131, 132, 133, 134, 135, 136, 137, 138, 139, 140, 141, 142, 143, 144, 145, 146, 147] rfl (by decide +kernel)
set_option maxRecDepth 20000 in
theorem gX7_withWords_X7_addressOf : GoodIn wsX7_withWords (wsV RX7 196 RX7 yX7_addressOf wsX7_addressOf) := goodIn_app (goodIn_of _ (by decide +kernel)) ggX7_withWords_X7_addressOf
set_option maxRecDepth 20000 in
theorem ggX7_withWords_X7_writeWord : GoodIn wsX7_withWords wsX7_writeWord := goodIn_r _ [82, 83, 84, 85, 6, 86, 17, 22, 50, 87, 45, 88, 89, 90, 91, 25, 33, 35, 34, 37, 38, 39, 40, 92, 93, 94, 95, 96, 97, 98, 99, 51, 26, 27, 100, 101, 117, 118, 119, 120, 121, 122, 123, 124, 125, 126, 127, 128, 129, 130, 131, 132, 133, 134, 135, 136, 137, 138, 139, 140, 141, 142, 143, 144, 145, 146, 147] rfl (by decide +kernel)
set_option maxRecDepth 20000 in
theorem gX7_withWords_X7_writeWord : GoodIn wsX7_withWords (wsV RX7 222 RX7 yX7_writeWord wsX7_writeWord) := goodIn_app (goodIn_of _ (by decide +kernel)) ggX7_withWords_X7_writeWord
set_option maxRecDepth 20000 in
theorem ggX7_withWords_X7_call : GoodIn wsX7_withWords wsX7_call := goodIn_r _ [105, 16, 17, 12, 13, 14, 6, 15, 18, 19, 20, 21, 22, 23, 24, 25, 26, 27, 28, 29, 30, 31, 32, 33, 34, 35, 36, 37, 38, 39, 40, 41, 42, 43, 44, 45, 46, 47, 48, 49, 50, 51, 106, 107, 108, 109, 110, 111, 112, 113, 114, 115, 116, 2, 83, 84, 85, 86, 87, 88, 89, 90, 91, 92, 93, 94, 95, 96, 97, 98, 99, 100, 101, 52, 53, 54, 55, 1, 8, 9, 10, 11, 117, 118, 119, 120, 121, 122, 123, 124, 125, 126, 127, 128, 129, 130, 131, 132, 133, 134, 135, 136, 137, 138, 139, 140, 141, 142, 143, 144, 145, 146, 147] rfl (by decide +kernel)
set_option maxRecDepth 20000 in
theorem gX7_withWords_X7_call : GoodIn wsX7_withWords (wsV RX7 225 RX7 yX7_call wsX7_call) := goodIn_app (goodIn_of _ (by decide +kernel)) ggX7_withWords_X7_call
theorem dX7_withWords_0 : decode cX7_withWords 0 = .ok (.iload_n 1, 1) := by decide +kernel
theorem dX7_withWords_1 : decode cX7_withWords 1 = .ok (.bipush 12, 2) := by decide +kernel
theorem dX7_withWords_3 : decode cX7_withWords 3 = .ok (.if_icmp .ne 19, 3) := by decide +kernel
theorem dX7_withWords_6 : decode cX7_withWords 6 = .ok (.iload_n 3, 1) := by decide +kernel
theorem dX7_withWords_7 : decode cX7_withWords 7 = .ok (.ifCond .ne 15, 3) := by decide +kernel
theorem dX7_withWords_10 : decode cX7_withWords 10 = .ok (.aload_n 0, 1) := by decide +kernel
theorem dX7_withWords_11 : decode cX7_withWords 11 = .ok (.aload_n 0, 1) := by decide +kernel
theorem dX7_withWords_12 : decode cX7_withWords 12 = .ok (.iload_n 2, 1) := by decide +kernel
theorem dX7_withWords_13 : decode cX7_withWords 13 = .ok (.invokevirtual 213, 3) := by decide +kernel
theorem dX7_withWords_16 : decode cX7_withWords 16 = .ok (.invokevirtual 216, 3) := by decide +kernel
theorem dX7_withWords_19 : decode cX7_withWords 19 = .ok (.goto 121, 3) := by decide +kernel
theorem dX7_withWords_22 : decode cX7_withWords 22 = .ok (.iload_n 1, 1) := by decide +kernel
theorem dX7_withWords_23 : decode cX7_withWords 23 = .ok (.bipush 14, 2) := by decide +kernel
theorem dX7_withWords_25 : decode cX7_withWords 25 = .ok (.if_icmp .ne 23, 3) := by decide +kernel
theorem dX7_withWords_28 : decode cX7_withWords 28 = .ok (.iload_n 3, 1) := by decide +kernel
theorem dX7_withWords_29 : decode cX7_withWords 29 = .ok (.ifCond .eq 19, 3) := by decide +kernel
theorem dX7_withWords_32 : decode cX7_withWords 32 = .ok (.aload_n 0, 1) := by decide +kernel
theorem dX7_withWords_33 : decode cX7_withWords 33 = .ok (.aload_n 0, 1) := by decide +kernel
theorem dX7_withWords_34 : decode cX7_withWords 34 = .ok (.aload_n 0, 1) := by decide +kernel
theorem dX7_withWords_35 : decode cX7_withWords 35 = .ok (.iload_n 2, 1) := by decide +kernel
theorem dX7_withWords_36 : decode cX7_withWords 36 = .ok (.invokevirtual 213, 3) := by decide +kernel
theorem dX7_withWords_39 : decode cX7_withWords 39 = .ok (.invokevirtual 219, 3) := by decide +kernel
theorem dX7_withWords_42 : decode cX7_withWords 42 = .ok (.putfield 137, 3) := by decide +kernel
theorem dX7_withWords_45 : decode cX7_withWords 45 = .ok (.goto 95, 3) := by decide +kernel
theorem dX7_withWords_48 : decode cX7_withWords 48 = .ok (.iload_n 1, 1) := by decide +kernel
theorem dX7_withWords_49 : decode cX7_withWords 49 = .ok (.bipush 14, 2) := by decide +kernel
theorem dX7_withWords_51 : decode cX7_withWords 51 = .ok (.if_icmp .ne 19, 3) := by decide +kernel
theorem dX7_withWords_54 : decode cX7_withWords 54 = .ok (.aload_n 0, 1) := by decide +kernel
theorem dX7_withWords_55 : decode cX7_withWords 55 = .ok (.aload_n 0, 1) := by decide +kernel
theorem dX7_withWords_56 : decode cX7_withWords 56 = .ok (.aload_n 0, 1) := by decide +kernel
theorem dX7_withWords_57 : decode cX7_withWords 57 = .ok (.iload_n 2, 1) := by decide +kernel
theorem dX7_withWords_58 : decode cX7_withWords 58 = .ok (.invokevirtual 213, 3) := by decide +kernel
theorem dX7_withWords_61 : decode cX7_withWords 61 = .ok (.invokevirtual 219, 3) := by decide +kernel
theorem dX7_withWords_64 : decode cX7_withWords 64 = .ok (.putfield 125, 3) := by decide +kernel
theorem dX7_withWords_67 : decode cX7_withWords 67 = .ok (.goto 73, 3) := by decide +kernel
theorem dX7_withWords_70 : decode cX7_withWords 70 = .ok (.iload_n 1, 1) := by decide +kernel
theorem dX7_withWords_71 : decode cX7_withWords 71 = .ok (.bipush 15, 2) := by decide +kernel
theorem dX7_withWords_73 : decode cX7_withWords 73 = .ok (.if_icmp .ne 42, 3) := by decide +kernel
theorem dX7_withWords_76 : decode cX7_withWords 76 = .ok (.iload_n 2, 1) := by decide +kernel
theorem dX7_withWords_77 : decode cX7_withWords 77 = .ok (.ifCond .le 38, 3) := by decide +kernel
theorem dX7_withWords_80 : decode cX7_withWords 80 = .ok (.aload_n 0, 1) := by decide +kernel
theorem dX7_withWords_81 : decode cX7_withWords 81 = .ok (.iload_n 2, 1) := by decide +kernel
theorem dX7_withWords_82 : decode cX7_withWords 82 = .ok (.invokevirtual 196, 3) := by decide +kernel
theorem dX7_withWords_85 : decode cX7_withWords 85 = .ok (.istore 4, 2) := by decide +kernel
theorem dX7_withWords_87 : decode cX7_withWords 87 = .ok (.aload_n 0, 1) := by decide +kernel
theorem dX7_withWords_88 : decode cX7_withWords 88 = .ok (.iload 4, 2) := by decide +kernel
theorem dX7_withWords_90 : decode cX7_withWords 90 = .ok (.aload_n 0, 1) := by decide +kernel
theorem dX7_withWords_91 : decode cX7_withWords 91 = .ok (.iload_n 3, 1) := by decide +kernel
theorem dX7_withWords_92 : decode cX7_withWords 92 = .ok (.ifCond .eq 10, 3) := by decide +kernel
theorem dX7_withWords_95 : decode cX7_withWords 95 = .ok (.aload_n 0, 1) := by decide +kernel
theorem dX7_withWords_96 : decode cX7_withWords 96 = .ok (.getfield 137, 3) := by decide +kernel
theorem dX7_withWords_99 : decode cX7_withWords 99 = .ok (.goto 7, 3) := by decide +kernel
theorem dX7_withWords_102 : decode cX7_withWords 102 = .ok (.aload_n 0, 1) := by decide +kernel
theorem dX7_withWords_103 : decode cX7_withWords 103 = .ok (.getfield 125, 3) := by decide +kernel
theorem dX7_withWords_106 : decode cX7_withWords 106 = .ok (.invokevirtual 219, 3) := by decide +kernel
theorem dX7_withWords_109 : decode cX7_withWords 109 = .ok (.invokevirtual 222, 3) := by decide +kernel
theorem dX7_withWords_112 : decode cX7_withWords 112 = .ok (.goto 28, 3) := by decide +kernel
theorem dX7_withWords_115 : decode cX7_withWords 115 = .ok (.iload_n 1, 1) := by decide +kernel
theorem dX7_withWords_116 : decode cX7_withWords 116 = .ok (.bipush 13, 2) := by decide +kernel
theorem dX7_withWords_118 : decode cX7_withWords 118 = .ok (.if_icmp .ne 20, 3) := by decide +kernel
theorem dX7_withWords_121 : decode cX7_withWords 121 = .ok (.iload_n 3, 1) := by decide +kernel
theorem dX7_withWords_122 : decode cX7_withWords 122 = .ok (.ifCond .ne 16, 3) := by decide +kernel
theorem dX7_withWords_125 : decode cX7_withWords 125 = .ok (.iload_n 2, 1) := by decide +kernel
theorem dX7_withWords_126 : decode cX7_withWords 126 = .ok (.iconst 1, 1) := by decide +kernel
theorem dX7_withWords_127 : decode cX7_withWords 127 = .ok (.if_icmp .eq 11, 3) := by decide +kernel
theorem dX7_withWords_130 : decode cX7_withWords 130 = .ok (.aload_n 0, 1) := by decide +kernel
theorem dX7_withWords_131 : decode cX7_withWords 131 = .ok (.iload_n 2, 1) := by decide +kernel
theorem dX7_withWords_132 : decode cX7_withWords 132 = .ok (.invokevirtual 225, 3) := by decide +kernel
theorem dX7_withWords_135 : decode cX7_withWords 135 = .ok (.goto 5, 3) := by decide +kernel
theorem dX7_withWords_138 : decode cX7_withWords 138 = .ok (.iconst 0, 1) := by decide +kernel
theorem dX7_withWords_139 : decode cX7_withWords 139 = .ok (.ireturn, 1) := by decide +kernel
theorem dX7_withWords_140 : decode cX7_withWords 140 = .ok (.iconst 1, 1) := by decide +kernel
theorem dX7_withWords_141 : decode cX7_withWords 141 = .ok (.ireturn, 1) := by decide +kernel
set_option maxRecDepth 20000 in
theorem ggX7_call_X7_next : GoodIn wsX7_call wsX7_next := goodIn_r _ [7, 1, 2, 8, 9, 10, 6, 11, 12, 13, 14, 15, 16, 17, 18, 19, 20, 21, 22, 23, 24, 25, 26, 27, 28, 29, 30, 31, 32, 33, 34, 35, 36, 37, 38, 39, 40, 41, 82, 83, 84, 85, 86, 87, 88, 89, 90, 91, 92, 93, 94, 95, 96, 97, 98, 99, 100, 101, 102, 103, 104, 105, 106, 107, 108, 109, 110, 111, 112] rfl (by decide +kernel)
set_option maxRecDepth 20000 in
theorem gX7_call_X7_next : GoodIn wsX7_call (wsV RX7 122 RX7 yX7_next wsX7_next) := goodIn_app (goodIn_of _ (by decide +kernel)) ggX7_call_X7_next
set_option maxRecDepth 20000 in
theorem ggX7_call_X7_signed : GoodIn wsX7_call wsX7_signed := goodIn_r _ [44] rfl (by decide +kernel)
set_option maxRecDepth 20000 in
theorem gX7_call_X7_signed : GoodIn wsX7_call (va_wsS RX7 157 yX7_signed wsX7_signed) := goodIn_app (goodIn_of _ (by decide +kernel)) ggX7_call_X7_signed
set_option maxRecDepth 20000 in
theorem ggX7_call_X7_pushWord : GoodIn wsX7_call wsX7_pushWord := goodIn_r _ [48, 49, 50, 51, 6, 52, 53, 2, 54, 55, 56, 57, 12, 40, 58, 35, 59, 60, 61, 62, 15, 23, 25, 24, 27, 28, 29, 30, 63, 64, 65, 66, 67, 68, 69, 70, 41, 16, 17, 71, 72, 82, 83, 84, 85, 86, 87, 88, 89, 90, 91, 92, 93, 94, 95, 96, 97, 98, 99, 100, 101, 102, 103, 104, 105, 106, 107, 108, 109, 110, 111, 112] rfl (by decide +kernel)
set_option maxRecDepth 20000 in
theorem gX7_call_X7_pushWord : GoodIn wsX7_call (wsV RX7 134 RX7 yX7_pushWord wsX7_pushWord) := goodIn_app (goodIn_of _ (by decide +kernel)) ggX7_call_X7_pushWord
set_option maxRecDepth 20000 in
theorem ggX7_call_X7_addressOf : GoodIn wsX7_call wsX7_addressOf := goodIn_r _ [76, 77, 2, 78, 79, 80, 6, 81, 3, 4, 5, 7, 1, 8, 9, 10, 11, 12, 13, 14, 15, 16, 17, 18, 19, 20, 21, 22, 23, 24, 25, 26, 27, 28, 29, 30, 31, 32, 33, 34, 35, 36, 37, 38, 39, 40, 41, 82, 83, 84, 85, 86, 87, 88, 89, 90, 91, 92, 93, 94, 95, 96, 97, 98, 99, 100, 101, 102, 103, 104, 105, 106, 107, 108, 109, 110, 111, 112] rfl (by decide +kernel)
set_option maxRecDepth 20000 in
theorem gX7_call_X7_addressOf : GoodIn wsX7_call (wsV RX7 196 RX7 yX7_addressOf wsX7_addressOf) := goodIn_app (goodIn_of _ (by decide +kernel)) ggX7_call_X7_addressOf
theorem dX7_call_0 : decode cX7_call 0 = .ok (.iload_n 1, 1) := by decide +kernel
theorem dX7_call_1 : decode cX7_call 1 = .ok (.ifCond .ne 35, 3) := by decide +kernel
theorem dX7_call_4 : decode cX7_call 4 = .ok (.aload_n 0, 1) := by decide +kernel
theorem dX7_call_5 : decode cX7_call 5 = .ok (.invokevirtual 122, 3) := by decide +kernel
theorem dX7_call_8 : decode cX7_call 8 = .ok (.invokestatic 157, 3) := by decide +kernel
theorem dX7_call_11 : decode cX7_call 11 = .ok (.istore_n 2, 1) := by decide +kernel
theorem dX7_call_12 : decode cX7_call 12 = .ok (.aload_n 0, 1) := by decide +kernel
theorem dX7_call_13 : decode cX7_call 13 = .ok (.aload_n 0, 1) := by decide +kernel
theorem dX7_call_14 : decode cX7_call 14 = .ok (.getfield 119, 3) := by decide +kernel
theorem dX7_call_17 : decode cX7_call 17 = .ok (.invokevirtual 134, 3) := by decide +kernel
theorem dX7_call_20 : decode cX7_call 20 = .ok (.aload_n 0, 1) := by decide +kernel
theorem dX7_call_21 : decode cX7_call 21 = .ok (.aload_n 0, 1) := by decide +kernel
theorem dX7_call_22 : decode cX7_call 22 = .ok (.getfield 119, 3) := by decide +kernel
theorem dX7_call_25 : decode cX7_call 25 = .ok (.iload_n 2, 1) := by decide +kernel
theorem dX7_call_26 : decode cX7_call 26 = .ok (.iadd, 1) := by decide +kernel
theorem dX7_call_27 : decode cX7_call 27 = .ok (.ldc 93, 2) := by decide +kernel
theorem dX7_call_29 : decode cX7_call 29 = .ok (.iand, 1) := by decide +kernel
theorem dX7_call_30 : decode cX7_call 30 = .ok (.putfield 119, 3) := by decide +kernel
theorem dX7_call_33 : decode cX7_call 33 = .ok (.goto 22, 3) := by decide +kernel
theorem dX7_call_36 : decode cX7_call 36 = .ok (.aload_n 0, 1) := by decide +kernel
theorem dX7_call_37 : decode cX7_call 37 = .ok (.iload_n 1, 1) := by decide +kernel
theorem dX7_call_38 : decode cX7_call 38 = .ok (.invokevirtual 196, 3) := by decide +kernel
theorem dX7_call_41 : decode cX7_call 41 = .ok (.istore_n 2, 1) := by decide +kernel
theorem dX7_call_42 : decode cX7_call 42 = .ok (.aload_n 0, 1) := by decide +kernel
theorem dX7_call_43 : decode cX7_call 43 = .ok (.aload_n 0, 1) := by decide +kernel
theorem dX7_call_44 : decode cX7_call 44 = .ok (.getfield 119, 3) := by decide +kernel
theorem dX7_call_47 : decode cX7_call 47 = .ok (.invokevirtual 134, 3) := by decide +kernel
theorem dX7_call_50 : decode cX7_call 50 = .ok (.aload_n 0, 1) := by decide +kernel
theorem dX7_call_51 : decode cX7_call 51 = .ok (.iload_n 2, 1) := by decide +kernel
theorem dX7_call_52 : decode cX7_call 52 = .ok (.putfield 119, 3) := by decide +kernel
theorem dX7_call_55 : decode cX7_call 55 = .ok (.return_, 1) := by decide +kernel
set_option maxRecDepth 20000 in
theorem ggX7_worksOnTwo_X7_withWords : GoodIn wsX7_worksOnTwo wsX7_withWords := goodIn_r _ [7, 8, 9, 10, 11, 12, 6, 13, 14, 15, 16, 17, 18, 19, 20, 21, 22, 23, 24, 25, 26, 27, 28, 29, 30, 31, 32, 33, 34, 35, 36, 37, 38, 39, 40, 41, 42, 43, 44, 45, 46, 47, 48, 49, 50, 51, 52, 53, 54, 55, 56, 57, 58, 59, 60, 61, 62, 63, 64, 65, 66, 67, 68, 69, 70, 71, 72, 73, 74, 75, 76, 77, 78, 79, 80, 81, 82, 83, 84, 85, 86, 87, 88, 89, 90, 91, 92, 93, 94, 95, 96, 97, 98, 99, 100, 101, 102, 103, 104, 105, 106, 107, 108, 109, 110, 111, 112, 113, 114, 115, 116, 117, 118, 119, 120, 121, 122, 151, 152, 153, 154, 155, 156, 157, 158, 159, 160, 161, 162, 163, 164, 165, 166, 167, 168, 169, 170, 171, 172, 173, 174, 175, 176, 177, 178, 179, 180, 181] rfl (by decide +kernel)
set_option maxRecDepth 20000 in
theorem gX7_worksOnTwo_X7_withWords : GoodIn wsX7_worksOnTwo (wsV RX7 228 RX7 yX7_withWords wsX7_withWords) := goodIn_app (goodIn_of _ (by decide +kernel)) ggX7_worksOnTwo_X7_withWords
set_option maxRecDepth 20000 in
theorem ggX7_worksOnTwo_X7_addressOf : GoodIn wsX7_worksOnTwo wsX7_addressOf := goodIn_r _ [61, 8, 23, 14, 15, 16, 6, 17, 18, 19, 20, 21, 22, 24, 25, 26, 27, 28, 29, 30, 31, 32, 33, 34, 35, 36, 37, 38, 39, 40, 41, 42, 43, 44, 45, 46, 47, 48, 49, 50, 51, 52, 53, 54, 55, 56, 57, 151, 152, 153, 154, 155, 156, 157, 158, 159, 160, 161, 162, 163, 164, 165, 166, 167, 168, 169, 170, 171, 172, 173, 174, 175, 176, 177, 178, 179, 180, 181] rfl (by decide +kernel)
set_option maxRecDepth 20000 in
theorem gX7_worksOnTwo_X7_addressOf : GoodIn wsX7_worksOnTwo (wsV RX7 196 RX7 yX7_addressOf wsX7_addressOf) := goodIn_app (goodIn_of _ (by decide +kernel)) ggX7_worksOnTwo_X7_addressOf
set_option maxRecDepth 20000 in
theorem ggX7_worksOnTwo_X7_nzv : GoodIn wsX7_worksOnTwo wsX7_nzv := goodIn_r _ [126, 76, 77, 78, 6, 79, 80, 127, 128, 129, 130, 151, 152, 153, 154, 155, 156, 157, 158, 159, 160, 161, 162, 163, 164, 165, 166, 167, 168, 169, 170, 171, 172, 173, 174, 175, 176, 177, 178, 179, 180, 181] rfl (by decide +kernel)
set_option maxRecDepth 20000 in
theorem gX7_worksOnTwo_X7_nzv : GoodIn wsX7_worksOnTwo (wsV RX7 163 RX7 yX7_nzv wsX7_nzv) := goodIn_app (goodIn_of _ (by decide +kernel)) ggX7_worksOnTwo_X7_nzv
set_option maxRecDepth 20000 in
theorem ggX7_worksOnTwo_X7_write : GoodIn wsX7_worksOnTwo wsX7_write := goodIn_r _ [92, 23, 28, 56, 93, 51, 94, 95, 96, 6, 97, 31, 39, 41, 40, 43, 44, 45, 46, 98, 99, 100, 101, 102, 103, 104, 105, 57, 32, 33, 106, 107, 151, 152, 153, 154, 155, 156, 157, 158, 159, 160, 161, 162, 163, 164, 165, 166, 167, 168, 169, 170, 171, 172, 173, 174, 175, 176, 177, 178, 179, 180, 181] rfl (by decide +kernel)
set_option maxRecDepth 20000 in
theorem gX7_worksOnTwo_X7_write : GoodIn wsX7_worksOnTwo (wsV RX7 116 RX7 yX7_write wsX7_write) := goodIn_app (goodIn_of _ (by decide +kernel)) ggX7_worksOnTwo_X7_write
set_option maxRecDepth 20000 in
theorem ggX7_worksOnTwo_X7_operand : GoodIn wsX7_worksOnTwo wsX7_operand := goodIn_r _ [134, 18, 19, 20, 6, 21, 22, 23, 24, 25, 26, 27, 28, 29, 30, 31, 32, 33, 34, 35, 36, 37, 38, 39, 40, 41, 42, 43, 44, 45, 46, 47, 48, 49, 50, 51, 52, 53, 54, 55, 56, 57, 58, 59, 60, 61, 8, 14, 15, 16, 17, 151, 152, 153, 154, 155, 156, 157, 158, 159, 160, 161, 162, 163, 164, 165, 166, 167, 168, 169, 170, 171, 172, 173, 174, 175, 176, 177, 178, 179, 180, 181] rfl (by decide +kernel)
set_option maxRecDepth 20000 in
theorem gX7_worksOnTwo_X7_operand : GoodIn wsX7_worksOnTwo (wsV RX7 232 RX7 yX7_operand wsX7_operand) := goodIn_app (goodIn_of _ (by decide +kernel)) ggX7_worksOnTwo_X7_operand
set_option maxRecDepth 20000 in
theorem ggX7_worksOnTwo_X7_withTwo : GoodIn wsX7_worksOnTwo wsX7_withTwo := goodIn_r _ [138, 139, 140, 141, 6, 142, 80, 143, 144, 145, 146, 112, 113, 114, 76, 77, 78, 79, 127, 128, 129, 130, 123, 124, 125, 126, 147, 148, 149, 150, 151, 152, 153, 154, 155, 156, 157, 158, 159, 160, 161, 162, 163, 164, 165, 166, 167, 168, 169, 170, 171, 172, 173, 174, 175, 176, 177, 178, 179, 180, 181] rfl (by decide +kernel)
set_option maxRecDepth 20000 in
theorem gX7_worksOnTwo_X7_withTwo : GoodIn wsX7_worksOnTwo (wsV RX7 235 RX7 yX7_withTwo wsX7_withTwo) := goodIn_app (goodIn_of _ (by decide +kernel)) ggX7_worksOnTwo_X7_withTwo
theorem dX7_worksOnTwo_0 : decode cX7_worksOnTwo 0 = .ok (.iload_n 1, 1) := by decide +kernel
theorem dX7_worksOnTwo_1 : decode cX7_worksOnTwo 1 = .ok (.bipush 15, 2) := by decide +kernel
theorem dX7_worksOnTwo_3 : decode cX7_worksOnTwo 3 = .ok (.iand, 1) := by decide +kernel
theorem dX7_worksOnTwo_4 : decode cX7_worksOnTwo 4 = .ok (.istore_n 2, 1) := by decide +kernel
theorem dX7_worksOnTwo_5 : decode cX7_worksOnTwo 5 = .ok (.iload_n 1, 1) := by decide +kernel
theorem dX7_worksOnTwo_6 : decode cX7_worksOnTwo 6 = .ok (.iconst 4, 1) := by decide +kernel
theorem dX7_worksOnTwo_7 : decode cX7_worksOnTwo 7 = .ok (.ishr, 1) := by decide +kernel
theorem dX7_worksOnTwo_8 : decode cX7_worksOnTwo 8 = .ok (.iconst 3, 1) := by decide +kernel
theorem dX7_worksOnTwo_9 : decode cX7_worksOnTwo 9 = .ok (.iand, 1) := by decide +kernel
theorem dX7_worksOnTwo_10 : decode cX7_worksOnTwo 10 = .ok (.istore_n 3, 1) := by decide +kernel
theorem dX7_worksOnTwo_11 : decode cX7_worksOnTwo 11 = .ok (.iload_n 1, 1) := by decide +kernel
theorem dX7_worksOnTwo_12 : decode cX7_worksOnTwo 12 = .ok (.sipush 192, 3) := by decide +kernel
theorem dX7_worksOnTwo_15 : decode cX7_worksOnTwo 15 = .ok (.if_icmp .lt 7, 3) := by decide +kernel
theorem dX7_worksOnTwo_18 : decode cX7_worksOnTwo 18 = .ok (.iconst 1, 1) := by decide +kernel
theorem dX7_worksOnTwo_19 : decode cX7_worksOnTwo 19 = .ok (.goto 4, 3) := by decide +kernel
theorem dX7_worksOnTwo_22 : decode cX7_worksOnTwo 22 = .ok (.iconst 0, 1) := by decide +kernel
theorem dX7_worksOnTwo_23 : decode cX7_worksOnTwo 23 = .ok (.istore 4, 2) := by decide +kernel
theorem dX7_worksOnTwo_25 : decode cX7_worksOnTwo 25 = .ok (.iload_n 2, 1) := by decide +kernel
theorem dX7_worksOnTwo_26 : decode cX7_worksOnTwo 26 = .ok (.bipush 12, 2) := by decide +kernel
theorem dX7_worksOnTwo_28 : decode cX7_worksOnTwo 28 = .ok (.if_icmp .lt 12, 3) := by decide +kernel
theorem dX7_worksOnTwo_31 : decode cX7_worksOnTwo 31 = .ok (.aload_n 0, 1) := by decide +kernel
theorem dX7_worksOnTwo_32 : decode cX7_worksOnTwo 32 = .ok (.iload_n 2, 1) := by decide +kernel
theorem dX7_worksOnTwo_33 : decode cX7_worksOnTwo 33 = .ok (.iload_n 3, 1) := by decide +kernel
theorem dX7_worksOnTwo_34 : decode cX7_worksOnTwo 34 = .ok (.iload 4, 2) := by decide +kernel
theorem dX7_worksOnTwo_36 : decode cX7_worksOnTwo 36 = .ok (.invokevirtual 228, 3) := by decide +kernel
theorem dX7_worksOnTwo_39 : decode cX7_worksOnTwo 39 = .ok (.ireturn, 1) := by decide +kernel
theorem dX7_worksOnTwo_40 : decode cX7_worksOnTwo 40 = .ok (.iload_n 2, 1) := by decide +kernel
theorem dX7_worksOnTwo_41 : decode cX7_worksOnTwo 41 = .ok (.iconst 3, 1) := by decide +kernel
theorem dX7_worksOnTwo_42 : decode cX7_worksOnTwo 42 = .ok (.if_icmp .eq 13, 3) := by decide +kernel
theorem dX7_worksOnTwo_45 : decode cX7_worksOnTwo 45 = .ok (.iload_n 2, 1) := by decide +kernel
theorem dX7_worksOnTwo_46 : decode cX7_worksOnTwo 46 = .ok (.bipush 7, 2) := by decide +kernel
theorem dX7_worksOnTwo_48 : decode cX7_worksOnTwo 48 = .ok (.if_icmp .ne 9, 3) := by decide +kernel
theorem dX7_worksOnTwo_51 : decode cX7_worksOnTwo 51 = .ok (.iload_n 3, 1) := by decide +kernel
theorem dX7_worksOnTwo_52 : decode cX7_worksOnTwo 52 = .ok (.ifCond .ne 5, 3) := by decide +kernel
theorem dX7_worksOnTwo_55 : decode cX7_worksOnTwo 55 = .ok (.iconst 0, 1) := by decide +kernel
theorem dX7_worksOnTwo_56 : decode cX7_worksOnTwo 56 = .ok (.ireturn, 1) := by decide +kernel
theorem dX7_worksOnTwo_57 : decode cX7_worksOnTwo 57 = .ok (.iload_n 2, 1) := by decide +kernel
theorem dX7_worksOnTwo_58 : decode cX7_worksOnTwo 58 = .ok (.bipush 7, 2) := by decide +kernel
theorem dX7_worksOnTwo_60 : decode cX7_worksOnTwo 60 = .ok (.if_icmp .ne 39, 3) := by decide +kernel
theorem dX7_worksOnTwo_63 : decode cX7_worksOnTwo 63 = .ok (.aload_n 0, 1) := by decide +kernel
theorem dX7_worksOnTwo_64 : decode cX7_worksOnTwo 64 = .ok (.iload_n 3, 1) := by decide +kernel
theorem dX7_worksOnTwo_65 : decode cX7_worksOnTwo 65 = .ok (.invokevirtual 196, 3) := by decide +kernel
theorem dX7_worksOnTwo_68 : decode cX7_worksOnTwo 68 = .ok (.istore 5, 2) := by decide +kernel
theorem dX7_worksOnTwo_70 : decode cX7_worksOnTwo 70 = .ok (.aload_n 0, 1) := by decide +kernel
theorem dX7_worksOnTwo_71 : decode cX7_worksOnTwo 71 = .ok (.iload 5, 2) := by decide +kernel
theorem dX7_worksOnTwo_73 : decode cX7_worksOnTwo 73 = .ok (.aload_n 0, 1) := by decide +kernel
theorem dX7_worksOnTwo_74 : decode cX7_worksOnTwo 74 = .ok (.iload 4, 2) := by decide +kernel
theorem dX7_worksOnTwo_76 : decode cX7_worksOnTwo 76 = .ok (.ifCond .eq 10, 3) := by decide +kernel
theorem dX7_worksOnTwo_79 : decode cX7_worksOnTwo 79 = .ok (.aload_n 0, 1) := by decide +kernel
theorem dX7_worksOnTwo_80 : decode cX7_worksOnTwo 80 = .ok (.getfield 143, 3) := by decide +kernel
theorem dX7_worksOnTwo_83 : decode cX7_worksOnTwo 83 = .ok (.goto 7, 3) := by decide +kernel
theorem dX7_worksOnTwo_86 : decode cX7_worksOnTwo 86 = .ok (.aload_n 0, 1) := by decide +kernel
theorem dX7_worksOnTwo_87 : decode cX7_worksOnTwo 87 = .ok (.getfield 140, 3) := by decide +kernel
theorem dX7_worksOnTwo_90 : decode cX7_worksOnTwo 90 = .ok (.invokevirtual 163, 3) := by decide +kernel
theorem dX7_worksOnTwo_93 : decode cX7_worksOnTwo 93 = .ok (.invokevirtual 116, 3) := by decide +kernel
theorem dX7_worksOnTwo_96 : decode cX7_worksOnTwo 96 = .ok (.goto 47, 3) := by decide +kernel
theorem dX7_worksOnTwo_99 : decode cX7_worksOnTwo 99 = .ok (.iload 4, 2) := by decide +kernel
theorem dX7_worksOnTwo_101 : decode cX7_worksOnTwo 101 = .ok (.ifCond .eq 24, 3) := by decide +kernel
theorem dX7_worksOnTwo_104 : decode cX7_worksOnTwo 104 = .ok (.aload_n 0, 1) := by decide +kernel
theorem dX7_worksOnTwo_105 : decode cX7_worksOnTwo 105 = .ok (.aload_n 0, 1) := by decide +kernel
theorem dX7_worksOnTwo_106 : decode cX7_worksOnTwo 106 = .ok (.iload_n 2, 1) := by decide +kernel
theorem dX7_worksOnTwo_107 : decode cX7_worksOnTwo 107 = .ok (.aload_n 0, 1) := by decide +kernel
theorem dX7_worksOnTwo_108 : decode cX7_worksOnTwo 108 = .ok (.getfield 143, 3) := by decide +kernel
theorem dX7_worksOnTwo_111 : decode cX7_worksOnTwo 111 = .ok (.aload_n 0, 1) := by decide +kernel
theorem dX7_worksOnTwo_112 : decode cX7_worksOnTwo 112 = .ok (.iload_n 3, 1) := by decide +kernel
theorem dX7_worksOnTwo_113 : decode cX7_worksOnTwo 113 = .ok (.invokevirtual 232, 3) := by decide +kernel
theorem dX7_worksOnTwo_116 : decode cX7_worksOnTwo 116 = .ok (.invokevirtual 235, 3) := by decide +kernel
theorem dX7_worksOnTwo_119 : decode cX7_worksOnTwo 119 = .ok (.putfield 143, 3) := by decide +kernel
theorem dX7_worksOnTwo_122 : decode cX7_worksOnTwo 122 = .ok (.goto 21, 3) := by decide +kernel
theorem dX7_worksOnTwo_125 : decode cX7_worksOnTwo 125 = .ok (.aload_n 0, 1) := by decide +kernel
theorem dX7_worksOnTwo_126 : decode cX7_worksOnTwo 126 = .ok (.aload_n 0, 1) := by decide +kernel
theorem dX7_worksOnTwo_127 : decode cX7_worksOnTwo 127 = .ok (.iload_n 2, 1) := by decide +kernel
theorem dX7_worksOnTwo_128 : decode cX7_worksOnTwo 128 = .ok (.aload_n 0, 1) := by decide +kernel
theorem dX7_worksOnTwo_129 : decode cX7_worksOnTwo 129 = .ok (.getfield 140, 3) := by decide +kernel
theorem dX7_worksOnTwo_132 : decode cX7_worksOnTwo 132 = .ok (.aload_n 0, 1) := by decide +kernel
theorem dX7_worksOnTwo_133 : decode cX7_worksOnTwo 133 = .ok (.iload_n 3, 1) := by decide +kernel
theorem dX7_worksOnTwo_134 : decode cX7_worksOnTwo 134 = .ok (.invokevirtual 232, 3) := by decide +kernel
theorem dX7_worksOnTwo_137 : decode cX7_worksOnTwo 137 = .ok (.invokevirtual 235, 3) := by decide +kernel
theorem dX7_worksOnTwo_140 : decode cX7_worksOnTwo 140 = .ok (.putfield 140, 3) := by decide +kernel
theorem dX7_worksOnTwo_143 : decode cX7_worksOnTwo 143 = .ok (.iconst 1, 1) := by decide +kernel
theorem dX7_worksOnTwo_144 : decode cX7_worksOnTwo 144 = .ok (.ireturn, 1) := by decide +kernel
set_option maxRecDepth 20000 in
theorem ggX7_instruction_X7_next : GoodIn wsX7_instruction wsX7_next := goodIn_r _ [7, 1, 8, 9, 10, 11, 6, 12, 13, 14, 15, 16, 17, 18, 19, 20, 21, 22, 23, 24, 25, 26, 27, 28, 29, 30, 31, 32, 33, 34, 35, 36, 37, 38, 39, 40, 41, 42, 209, 210, 211, 212, 213, 214, 215, 216, 217, 218, 219, 220, 221, 222, 223, 224, 225, 226, 227, 228, 229, 230, 231, 232, 233, 234, 235, 236, 237, 238, 239] rfl (by decide +kernel)
set_option maxRecDepth 20000 in
theorem gX7_instruction_X7_next : GoodIn wsX7_instruction (wsV RX7 122 RX7 yX7_next wsX7_next) := goodIn_app (goodIn_of _ (by decide +kernel)) ggX7_instruction_X7_next
set_option maxRecDepth 20000 in
theorem ggX7_instruction_X7_first : GoodIn wsX7_instruction wsX7_first := goodIn_r _ [46, 47, 48, 49, 8, 50, 51, 52, 53, 6, 54, 55, 56, 57, 58, 59, 60, 61, 62, 63, 64, 65, 66, 67, 68, 69, 70, 71, 72, 73, 74, 75, 76, 77, 78, 79, 80, 81, 209, 210, 211, 212, 213, 214, 215, 216, 217, 218, 219, 220, 221, 222, 223, 224, 225, 226, 227, 228, 229, 230, 231, 232, 233, 234, 235, 236, 237, 238, 239] rfl (by decide +kernel)
set_option maxRecDepth 20000 in
theorem gX7_instruction_X7_first : GoodIn wsX7_instruction (wsV RX7 238 RX7 yX7_first wsX7_first) := goodIn_app (goodIn_of _ (by decide +kernel)) ggX7_instruction_X7_first
set_option maxRecDepth 20000 in
theorem ggX7_instruction_X7_branches : GoodIn wsX7_instruction wsX7_branches := goodIn_r _ [85, 74, 75, 76, 6, 77, 48, 209, 210, 211, 212, 213, 214, 215, 216, 217, 218, 219, 220, 221, 222, 223, 224, 225, 226, 227, 228, 229, 230, 231, 232, 233, 234, 235, 236, 237, 238, 239] rfl (by decide +kernel)
set_option maxRecDepth 20000 in
theorem gX7_instruction_X7_branches : GoodIn wsX7_instruction (wsV RX7 241 RX7 yX7_branches wsX7_branches) := goodIn_app (goodIn_of _ (by decide +kernel)) ggX7_instruction_X7_branches
set_option maxRecDepth 20000 in
theorem ggX7_instruction_X7_branch : GoodIn wsX7_instruction wsX7_branch := goodIn_r _ [89, 1, 8, 3, 4, 5, 6, 7, 9, 10, 11, 12, 13, 14, 15, 16, 17, 18, 19, 20, 21, 22, 23, 24, 25, 26, 27, 28, 29, 30, 31, 32, 33, 34, 35, 36, 37, 38, 39, 40, 41, 42, 59, 60, 61, 209, 210, 211, 212, 213, 214, 215, 216, 217, 218, 219, 220, 221, 222, 223, 224, 225, 226, 227, 228, 229, 230, 231, 232, 233, 234, 235, 236, 237, 238, 239] rfl (by decide +kernel)
set_option maxRecDepth 20000 in
theorem gX7_instruction_X7_branch : GoodIn wsX7_instruction (wsV RX7 244 RX7 yX7_branch wsX7_branch) := goodIn_app (goodIn_of _ (by decide +kernel)) ggX7_instruction_X7_branch
set_option maxRecDepth 20000 in
theorem ggX7_instruction_X7_stacked : GoodIn wsX7_instruction wsX7_stacked := goodIn_r _ [93, 94, 8, 49, 47, 50, 1, 95, 96, 97, 98, 99, 6, 100, 9, 10, 11, 12, 13, 14, 15, 16, 17, 18, 19, 20, 21, 22, 23, 24, 25, 26, 27, 28, 29, 30, 31, 32, 33, 34, 35, 36, 37, 38, 39, 40, 41, 42, 101, 102, 103, 104, 105, 106, 107, 108, 109, 110, 111, 112, 113, 114, 115, 116, 117, 118, 119, 120, 121, 122, 123, 124, 125, 126, 127, 128, 129, 130, 131, 48, 132, 133, 134, 135, 136, 137, 138, 139, 51, 52, 53, 54, 140, 141, 142, 143, 209, 210, 211, 212, 213, 214, 215, 216, 217, 218, 219, 220, 221, 222, 223, 224, 225, 226, 227, 228, 229, 230, 231, 232, 233, 234, 235, 236, 237, 238, 239] rfl (by decide +kernel)
set_option maxRecDepth 20000 in
theorem gX7_instruction_X7_stacked : GoodIn wsX7_instruction (wsV RX7 248 RX7 yX7_stacked wsX7_stacked) := goodIn_app (goodIn_of _ (by decide +kernel)) ggX7_instruction_X7_stacked
set_option maxRecDepth 20000 in
theorem ggX7_instruction_X7_worksOnOne : GoodIn wsX7_instruction wsX7_worksOnOne := goodIn_r _ [147, 1, 47, 50, 148, 149, 150, 6, 151, 49, 8, 152, 153, 154, 155, 3, 4, 5, 7, 9, 10, 11, 12, 13, 14, 15, 16, 17, 18, 19, 20, 21, 22, 23, 24, 25, 26, 27, 28, 29, 30, 31, 32, 33, 34, 35, 36, 37, 38, 39, 40, 41, 42, 156, 157, 158, 159, 160, 161, 162, 74, 75, 76, 77, 48, 66, 67, 68, 69, 51, 52, 53, 54, 62, 63, 64, 65, 163, 164, 165, 166, 105, 106, 107, 108, 109, 110, 111, 112, 113, 114, 115, 116, 117, 118, 119, 120, 121, 122, 123, 209, 210, 211, 212, 213, 214, 215, 216, 217, 218, 219, 220, 221, 222, 223, 224, 225, 226, 227, 228, 229, 230, 231, 232, 233, 234, 235, 236, 237, 238, 239] rfl (by decide +kernel)
set_option maxRecDepth 20000 in
theorem gX7_instruction_X7_worksOnOne : GoodIn wsX7_instruction (wsV RX7 251 RX7 yX7_worksOnOne wsX7_worksOnOne) := goodIn_app (goodIn_of _ (by decide +kernel)) ggX7_instruction_X7_worksOnOne
set_option maxRecDepth 20000 in
theorem ggX7_instruction_X7_worksOnTwo : GoodIn wsX7_instruction wsX7_worksOnTwo := goodIn_r _ [170, 50, 47, 171, 172, 173, 6, 174, 49, 94, 175, 176, 177, 178, 152, 153, 154, 155, 3, 4, 5, 7, 1, 8, 9, 10, 11, 12, 13, 14, 15, 16, 17, 18, 19, 20, 21, 22, 23, 24, 25, 26, 27, 28, 29, 30, 31, 32, 33, 34, 35, 36, 37, 38, 39, 40, 41, 42, 148, 149, 150, 151, 140, 141, 142, 143, 179, 180, 181, 182, 183, 184, 185, 186, 187, 188, 51, 52, 53, 54, 48, 189, 190, 191, 192, 193, 194, 195, 196, 105, 106, 107, 108, 109, 110, 111, 112, 113, 114, 115, 116, 117, 118, 119, 120, 121, 122, 123, 197, 198, 199, 200, 59, 60, 61, 136, 137, 138, 139, 101, 102, 103, 104, 66, 67, 68, 69, 62, 63, 64, 65, 201, 202, 203, 204, 205, 206, 207, 208, 74, 75, 76, 77, 55, 56, 57, 58, 78, 79, 80, 81, 209, 210, 211, 212, 213, 214, 215, 216, 217, 218, 219, 220, 221, 222, 223, 224, 225, 226, 227, 228, 229, 230, 231, 232, 233, 234, 235, 236, 237, 238, 239] rfl (by decide +kernel)
set_option maxRecDepth 20000 in
theorem gX7_instruction_X7_worksOnTwo : GoodIn wsX7_instruction (wsV RX7 254 RX7 yX7_worksOnTwo wsX7_worksOnTwo) := goodIn_app (goodIn_of _ (by decide +kernel)) ggX7_instruction_X7_worksOnTwo
theorem dX7_instruction_0 : decode cX7_instruction 0 = .ok (.aload_n 0, 1) := by decide +kernel
theorem dX7_instruction_1 : decode cX7_instruction 1 = .ok (.getfield 119, 3) := by decide +kernel
theorem dX7_instruction_4 : decode cX7_instruction 4 = .ok (.istore_n 1, 1) := by decide +kernel
theorem dX7_instruction_5 : decode cX7_instruction 5 = .ok (.aload_n 0, 1) := by decide +kernel
theorem dX7_instruction_6 : decode cX7_instruction 6 = .ok (.invokevirtual 122, 3) := by decide +kernel
theorem dX7_instruction_9 : decode cX7_instruction 9 = .ok (.istore_n 2, 1) := by decide +kernel
theorem dX7_instruction_10 : decode cX7_instruction 10 = .ok (.iconst 1, 1) := by decide +kernel
theorem dX7_instruction_11 : decode cX7_instruction 11 = .ok (.istore_n 3, 1) := by decide +kernel
theorem dX7_instruction_12 : decode cX7_instruction 12 = .ok (.iload_n 2, 1) := by decide +kernel
theorem dX7_instruction_13 : decode cX7_instruction 13 = .ok (.bipush 32, 2) := by decide +kernel
theorem dX7_instruction_15 : decode cX7_instruction 15 = .ok (.if_icmp .ge 12, 3) := by decide +kernel
theorem dX7_instruction_18 : decode cX7_instruction 18 = .ok (.aload_n 0, 1) := by decide +kernel
theorem dX7_instruction_19 : decode cX7_instruction 19 = .ok (.iload_n 2, 1) := by decide +kernel
theorem dX7_instruction_20 : decode cX7_instruction 20 = .ok (.invokevirtual 238, 3) := by decide +kernel
theorem dX7_instruction_23 : decode cX7_instruction 23 = .ok (.istore_n 3, 1) := by decide +kernel
theorem dX7_instruction_24 : decode cX7_instruction 24 = .ok (.goto 76, 3) := by decide +kernel
theorem dX7_instruction_27 : decode cX7_instruction 27 = .ok (.iload_n 2, 1) := by decide +kernel
theorem dX7_instruction_28 : decode cX7_instruction 28 = .ok (.bipush 48, 2) := by decide +kernel
theorem dX7_instruction_30 : decode cX7_instruction 30 = .ok (.if_icmp .ge 34, 3) := by decide +kernel
theorem dX7_instruction_33 : decode cX7_instruction 33 = .ok (.iload_n 2, 1) := by decide +kernel
theorem dX7_instruction_34 : decode cX7_instruction 34 = .ok (.bipush 33, 2) := by decide +kernel
theorem dX7_instruction_36 : decode cX7_instruction 36 = .ok (.if_icmp .eq 7, 3) := by decide +kernel
theorem dX7_instruction_39 : decode cX7_instruction 39 = .ok (.iconst 1, 1) := by decide +kernel
theorem dX7_instruction_40 : decode cX7_instruction 40 = .ok (.goto 4, 3) := by decide +kernel
theorem dX7_instruction_43 : decode cX7_instruction 43 = .ok (.iconst 0, 1) := by decide +kernel
theorem dX7_instruction_44 : decode cX7_instruction 44 = .ok (.istore_n 3, 1) := by decide +kernel
theorem dX7_instruction_45 : decode cX7_instruction 45 = .ok (.iload_n 3, 1) := by decide +kernel
theorem dX7_instruction_46 : decode cX7_instruction 46 = .ok (.ifCond .eq 54, 3) := by decide +kernel
theorem dX7_instruction_49 : decode cX7_instruction 49 = .ok (.aload_n 0, 1) := by decide +kernel
theorem dX7_instruction_50 : decode cX7_instruction 50 = .ok (.aload_n 0, 1) := by decide +kernel
theorem dX7_instruction_51 : decode cX7_instruction 51 = .ok (.iload_n 2, 1) := by decide +kernel
theorem dX7_instruction_52 : decode cX7_instruction 52 = .ok (.bipush 15, 2) := by decide +kernel
theorem dX7_instruction_54 : decode cX7_instruction 54 = .ok (.iand, 1) := by decide +kernel
theorem dX7_instruction_55 : decode cX7_instruction 55 = .ok (.invokevirtual 241, 3) := by decide +kernel
theorem dX7_instruction_58 : decode cX7_instruction 58 = .ok (.invokevirtual 244, 3) := by decide +kernel
theorem dX7_instruction_61 : decode cX7_instruction 61 = .ok (.goto 39, 3) := by decide +kernel
theorem dX7_instruction_64 : decode cX7_instruction 64 = .ok (.iload_n 2, 1) := by decide +kernel
theorem dX7_instruction_65 : decode cX7_instruction 65 = .ok (.bipush 64, 2) := by decide +kernel
theorem dX7_instruction_67 : decode cX7_instruction 67 = .ok (.if_icmp .ge 12, 3) := by decide +kernel
theorem dX7_instruction_70 : decode cX7_instruction 70 = .ok (.aload_n 0, 1) := by decide +kernel
theorem dX7_instruction_71 : decode cX7_instruction 71 = .ok (.iload_n 2, 1) := by decide +kernel
theorem dX7_instruction_72 : decode cX7_instruction 72 = .ok (.invokevirtual 248, 3) := by decide +kernel
theorem dX7_instruction_75 : decode cX7_instruction 75 = .ok (.istore_n 3, 1) := by decide +kernel
theorem dX7_instruction_76 : decode cX7_instruction 76 = .ok (.goto 24, 3) := by decide +kernel
theorem dX7_instruction_79 : decode cX7_instruction 79 = .ok (.iload_n 2, 1) := by decide +kernel
theorem dX7_instruction_80 : decode cX7_instruction 80 = .ok (.sipush 128, 3) := by decide +kernel
theorem dX7_instruction_83 : decode cX7_instruction 83 = .ok (.if_icmp .ge 11, 3) := by decide +kernel
theorem dX7_instruction_86 : decode cX7_instruction 86 = .ok (.aload_n 0, 1) := by decide +kernel
theorem dX7_instruction_87 : decode cX7_instruction 87 = .ok (.iload_n 2, 1) := by decide +kernel
theorem dX7_instruction_88 : decode cX7_instruction 88 = .ok (.invokevirtual 251, 3) := by decide +kernel
theorem dX7_instruction_91 : decode cX7_instruction 91 = .ok (.goto 8, 3) := by decide +kernel
theorem dX7_instruction_94 : decode cX7_instruction 94 = .ok (.aload_n 0, 1) := by decide +kernel
theorem dX7_instruction_95 : decode cX7_instruction 95 = .ok (.iload_n 2, 1) := by decide +kernel
theorem dX7_instruction_96 : decode cX7_instruction 96 = .ok (.invokevirtual 254, 3) := by decide +kernel
theorem dX7_instruction_99 : decode cX7_instruction 99 = .ok (.istore_n 3, 1) := by decide +kernel
theorem dX7_instruction_100 : decode cX7_instruction 100 = .ok (.iload_n 3, 1) := by decide +kernel
theorem dX7_instruction_101 : decode cX7_instruction 101 = .ok (.ifCond .eq 4, 3) := by decide +kernel
theorem dX7_instruction_104 : decode cX7_instruction 104 = .ok (.return_, 1) := by decide +kernel
theorem dX7_instruction_105 : decode cX7_instruction 105 = .ok (.aload_n 0, 1) := by decide +kernel
theorem dX7_instruction_106 : decode cX7_instruction 106 = .ok (.iload_n 1, 1) := by decide +kernel
theorem dX7_instruction_107 : decode cX7_instruction 107 = .ok (.putfield 119, 3) := by decide +kernel
theorem dX7_instruction_110 : decode cX7_instruction 110 = .ok (.aload_n 0, 1) := by decide +kernel
theorem dX7_instruction_111 : decode cX7_instruction 111 = .ok (.iconst 1, 1) := by decide +kernel
theorem dX7_instruction_112 : decode cX7_instruction 112 = .ok (.putfield 257, 3) := by decide +kernel
theorem dX7_instruction_115 : decode cX7_instruction 115 = .ok (.return_, 1) := by decide +kernel
set_option maxRecDepth 20000 in
theorem ggX7_step_X7_comesIn : GoodIn wsX7_step wsX7_comesIn := goodIn_r _ [9, 10, 11, 12, 13, 14, 15, 16, 17, 18, 19, 8, 20, 21, 240, 241, 242, 243, 244, 245, 246, 247, 248, 249, 250, 251, 252, 253, 254, 255, 256, 257, 258, 259, 260, 261, 262, 263, 264, 265, 266, 267, 268, 269, 270] rfl (by decide +kernel)
set_option maxRecDepth 20000 in
theorem gX7_step_X7_comesIn : GoodIn wsX7_step (wsV RX7 260 RX7 yX7_comesIn wsX7_comesIn) := goodIn_app (goodIn_of _ (by decide +kernel)) ggX7_step_X7_comesIn
set_option maxRecDepth 20000 in
theorem ggX7_step_X7_goesOut : GoodIn wsX7_step wsX7_goesOut := goodIn_r _ [25, 26, 27, 28, 29, 30, 31, 17, 18, 19, 8, 20, 21, 240, 241, 242, 243, 244, 245, 246, 247, 248, 249, 250, 251, 252, 253, 254, 255, 256, 257, 258, 259, 260, 261, 262, 263, 264, 265, 266, 267, 268, 269, 270] rfl (by decide +kernel)
set_option maxRecDepth 20000 in
theorem gX7_step_X7_goesOut : GoodIn wsX7_step (wsV RX7 263 RX7 yX7_goesOut wsX7_goesOut) := goodIn_app (goodIn_of _ (by decide +kernel)) ggX7_step_X7_goesOut
set_option maxRecDepth 20000 in
theorem ggX7_step_X7_serialAsks : GoodIn wsX7_step wsX7_serialAsks := goodIn_r _ [35, 1, 21, 30, 11, 12, 240, 241, 242, 243, 244, 245, 246, 247, 248, 249, 250, 251, 252, 253, 254, 255, 256, 257, 258, 259, 260, 261, 262, 263, 264, 265, 266, 267, 268, 269, 270] rfl (by decide +kernel)
set_option maxRecDepth 20000 in
theorem gX7_step_X7_serialAsks : GoodIn wsX7_step (wsV RX7 57 RX7 yX7_serialAsks wsX7_serialAsks) := goodIn_app (goodIn_of _ (by decide +kernel)) ggX7_step_X7_serialAsks
set_option maxRecDepth 20000 in
theorem ggX7_step_X7_sideAsks : GoodIn wsX7_step wsX7_sideAsks := goodIn_r _ [39, 40, 240, 241, 242, 243, 244, 245, 246, 247, 248, 249, 250, 251, 252, 253, 254, 255, 256, 257, 258, 259, 260, 261, 262, 263, 264, 265, 266, 267, 268, 269, 270] rfl (by decide +kernel)
set_option maxRecDepth 20000 in
theorem gX7_step_X7_sideAsks : GoodIn wsX7_step (wsV RX7 266 RX7 yX7_sideAsks wsX7_sideAsks) := goodIn_app (goodIn_of _ (by decide +kernel)) ggX7_step_X7_sideAsks
set_option maxRecDepth 20000 in
theorem ggX7_step_X7_is : GoodIn wsX7_step wsX7_is := goodIn_r _ [44, 45, 240, 241, 242, 243, 244, 245, 246, 247, 248, 249, 250, 251, 252, 253, 254, 255, 256, 257, 258, 259, 260, 261, 262, 263, 264, 265, 266, 267, 268, 269, 270] rfl (by decide +kernel)
set_option maxRecDepth 20000 in
theorem gX7_step_X7_is : GoodIn wsX7_step (wsV RX7 160 RX7 yX7_is wsX7_is) := goodIn_app (goodIn_of _ (by decide +kernel)) ggX7_step_X7_is
set_option maxRecDepth 20000 in
theorem ggX7_step_X7_pushAll : GoodIn wsX7_step wsX7_pushAll := goodIn_r _ [49, 4, 50, 51, 52, 45, 53, 54, 55, 8, 56, 57, 58, 59, 60, 61, 62, 63, 64, 65, 66, 67, 1, 31, 30, 68, 69, 70, 71, 40, 72, 73, 74, 75, 76, 77, 78, 79, 80, 81, 82, 83, 84, 85, 86, 21, 11, 12, 10, 26, 240, 241, 242, 243, 244, 245, 246, 247, 248, 249, 250, 251, 252, 253, 254, 255, 256, 257, 258, 259, 260, 261, 262, 263, 264, 265, 266, 267, 268, 269, 270] rfl (by decide +kernel)
set_option maxRecDepth 20000 in
theorem gX7_step_X7_pushAll : GoodIn wsX7_step (wsV RX7 182 RX7 yX7_pushAll wsX7_pushAll) := goodIn_app (goodIn_of _ (by decide +kernel)) ggX7_step_X7_pushAll
set_option maxRecDepth 20000 in
theorem ggX7_step_X7_tell : GoodIn wsX7_step wsX7_tell := goodIn_r _ [90, 45, 240, 241, 242, 243, 244, 245, 246, 247, 248, 249, 250, 251, 252, 253, 254, 255, 256, 257, 258, 259, 260, 261, 262, 263, 264, 265, 266, 267, 268, 269, 270] rfl (by decide +kernel)
set_option maxRecDepth 20000 in
theorem gX7_step_X7_tell : GoodIn wsX7_step (wsV RX7 149 RX7 yX7_tell wsX7_tell) := goodIn_app (goodIn_of _ (by decide +kernel)) ggX7_step_X7_tell
set_option maxRecDepth 20000 in
theorem ggX7_step_X7_readWord : GoodIn wsX7_step wsX7_readWord := goodIn_r _ [94, 95, 96, 97, 8, 98, 62, 67, 99, 100, 40, 11, 12, 14, 101, 102, 103, 104, 72, 74, 73, 105, 75, 76, 77, 78, 106, 107, 108, 109, 30, 32, 33, 34, 35, 1, 21, 240, 241, 242, 243, 244, 245, 246, 247, 248, 249, 250, 251, 252, 253, 254, 255, 256, 257, 258, 259, 260, 261, 262, 263, 264, 265, 266, 267, 268, 269, 270] rfl (by decide +kernel)
set_option maxRecDepth 20000 in
theorem gX7_step_X7_readWord : GoodIn wsX7_step (wsV RX7 189 RX7 yX7_readWord wsX7_readWord) := goodIn_app (goodIn_of _ (by decide +kernel)) ggX7_step_X7_readWord
set_option maxRecDepth 20000 in
theorem ggX7_step_X7_instruction : GoodIn wsX7_step wsX7_instruction := goodIn_r _ [113, 4, 114, 115, 116, 117, 8, 118, 62, 95, 96, 97, 98, 67, 99, 100, 40, 11, 12, 14, 101, 102, 103, 104, 72, 74, 73, 105, 75, 76, 77, 78, 106, 107, 108, 109, 30, 32, 33, 34, 35, 1, 21, 119, 120, 121, 122, 51, 45, 50, 52, 87, 88, 89, 90, 123, 124, 125, 126, 127, 128, 129, 130, 131, 132, 133, 134, 135, 136, 137, 138, 139, 140, 141, 41, 42, 43, 44, 142, 143, 144, 145, 146, 147, 148, 149, 150, 151, 152, 153, 154, 155, 156, 157, 61, 2, 158, 159, 160, 161, 162, 57, 58, 59, 60, 63, 64, 65, 66, 31, 68, 69, 70, 71, 79, 80, 81, 82, 83, 84, 85, 86, 10, 26, 163, 164, 165, 166, 167, 168, 169, 170, 46, 47, 48, 49, 53, 54, 55, 56, 91, 92, 93, 94, 171, 172, 173, 174, 175, 176, 177, 178, 179, 180, 181, 182, 183, 184, 185, 186, 187, 188, 189, 190, 191, 192, 193, 194, 195, 196, 197, 198, 199, 200, 201, 202, 203, 204, 205, 206, 207, 208, 209, 210, 211, 212, 213, 214, 215, 216, 217, 218, 219, 220, 221, 222, 223, 224, 225, 226, 227, 228, 229, 230, 231, 232, 233, 234, 235, 240, 241, 242, 243, 244, 245, 246, 247, 248, 249, 250, 251, 252, 253, 254, 255, 256, 257, 258, 259, 260, 261, 262, 263, 264, 265, 266, 267, 268, 269, 270] rfl (by decide +kernel)
set_option maxRecDepth 20000 in
theorem gX7_step_X7_instruction : GoodIn wsX7_step (wsV RX7 270 RX7 yX7_instruction wsX7_instruction) := goodIn_app (goodIn_of _ (by decide +kernel)) ggX7_step_X7_instruction
set_option maxRecDepth 20000 in
theorem ggX7_step_X7_endPulses : GoodIn wsX7_step wsX7_endPulses := goodIn_r _ [239, 40, 74, 75, 76, 77, 8, 78, 240, 241, 242, 243, 244, 245, 246, 247, 248, 249, 250, 251, 252, 253, 254, 255, 256, 257, 258, 259, 260, 261, 262, 263, 264, 265, 266, 267, 268, 269, 270] rfl (by decide +kernel)
set_option maxRecDepth 20000 in
theorem gX7_step_X7_endPulses : GoodIn wsX7_step (wsV RX7 273 RX7 yX7_endPulses wsX7_endPulses) := goodIn_app (goodIn_of _ (by decide +kernel)) ggX7_step_X7_endPulses
theorem dX7_step_0 : decode cX7_step 0 = .ok (.aload_n 0, 1) := by decide +kernel
theorem dX7_step_1 : decode cX7_step 1 = .ok (.getfield 34, 3) := by decide +kernel
theorem dX7_step_4 : decode cX7_step 4 = .ok (.ifCond .ne 11, 3) := by decide +kernel
theorem dX7_step_7 : decode cX7_step 7 = .ok (.aload_n 0, 1) := by decide +kernel
theorem dX7_step_8 : decode cX7_step 8 = .ok (.invokevirtual 260, 3) := by decide +kernel
theorem dX7_step_11 : decode cX7_step 11 = .ok (.aload_n 0, 1) := by decide +kernel
theorem dX7_step_12 : decode cX7_step 12 = .ok (.invokevirtual 263, 3) := by decide +kernel
theorem dX7_step_15 : decode cX7_step 15 = .ok (.aload_n 0, 1) := by decide +kernel
theorem dX7_step_16 : decode cX7_step 16 = .ok (.invokevirtual 57, 3) := by decide +kernel
theorem dX7_step_19 : decode cX7_step 19 = .ok (.ifCond .ne 19, 3) := by decide +kernel
theorem dX7_step_22 : decode cX7_step 22 = .ok (.aload_n 0, 1) := by decide +kernel
theorem dX7_step_23 : decode cX7_step 23 = .ok (.iconst 0, 1) := by decide +kernel
theorem dX7_step_24 : decode cX7_step 24 = .ok (.invokevirtual 266, 3) := by decide +kernel
theorem dX7_step_27 : decode cX7_step 27 = .ok (.ifCond .ne 11, 3) := by decide +kernel
theorem dX7_step_30 : decode cX7_step 30 = .ok (.aload_n 0, 1) := by decide +kernel
theorem dX7_step_31 : decode cX7_step 31 = .ok (.iconst 1, 1) := by decide +kernel
theorem dX7_step_32 : decode cX7_step 32 = .ok (.invokevirtual 266, 3) := by decide +kernel
theorem dX7_step_35 : decode cX7_step 35 = .ok (.ifCond .eq 7, 3) := by decide +kernel
theorem dX7_step_38 : decode cX7_step 38 = .ok (.iconst 1, 1) := by decide +kernel
theorem dX7_step_39 : decode cX7_step 39 = .ok (.goto 4, 3) := by decide +kernel
theorem dX7_step_42 : decode cX7_step 42 = .ok (.iconst 0, 1) := by decide +kernel
theorem dX7_step_43 : decode cX7_step 43 = .ok (.istore_n 1, 1) := by decide +kernel
theorem dX7_step_44 : decode cX7_step 44 = .ok (.iload_n 1, 1) := by decide +kernel
theorem dX7_step_45 : decode cX7_step 45 = .ok (.ifCond .eq 49, 3) := by decide +kernel
theorem dX7_step_48 : decode cX7_step 48 = .ok (.aload_n 0, 1) := by decide +kernel
theorem dX7_step_49 : decode cX7_step 49 = .ok (.bipush 16, 2) := by decide +kernel
theorem dX7_step_51 : decode cX7_step 51 = .ok (.invokevirtual 160, 3) := by decide +kernel
theorem dX7_step_54 : decode cX7_step 54 = .ok (.ifCond .ne 40, 3) := by decide +kernel
theorem dX7_step_57 : decode cX7_step 57 = .ok (.aload_n 0, 1) := by decide +kernel
theorem dX7_step_58 : decode cX7_step 58 = .ok (.getfield 185, 3) := by decide +kernel
theorem dX7_step_61 : decode cX7_step 61 = .ok (.ifCond .ne 7, 3) := by decide +kernel
theorem dX7_step_64 : decode cX7_step 64 = .ok (.aload_n 0, 1) := by decide +kernel
theorem dX7_step_65 : decode cX7_step 65 = .ok (.invokevirtual 182, 3) := by decide +kernel
theorem dX7_step_68 : decode cX7_step 68 = .ok (.aload_n 0, 1) := by decide +kernel
theorem dX7_step_69 : decode cX7_step 69 = .ok (.iconst 0, 1) := by decide +kernel
theorem dX7_step_70 : decode cX7_step 70 = .ok (.putfield 185, 3) := by decide +kernel
theorem dX7_step_73 : decode cX7_step 73 = .ok (.aload_n 0, 1) := by decide +kernel
theorem dX7_step_74 : decode cX7_step 74 = .ok (.bipush 16, 2) := by decide +kernel
theorem dX7_step_76 : decode cX7_step 76 = .ok (.iconst 1, 1) := by decide +kernel
theorem dX7_step_77 : decode cX7_step 77 = .ok (.invokevirtual 149, 3) := by decide +kernel
theorem dX7_step_80 : decode cX7_step 80 = .ok (.aload_n 0, 1) := by decide +kernel
theorem dX7_step_81 : decode cX7_step 81 = .ok (.aload_n 0, 1) := by decide +kernel
theorem dX7_step_82 : decode cX7_step 82 = .ok (.ldc_w 269, 3) := by decide +kernel
theorem dX7_step_85 : decode cX7_step 85 = .ok (.invokevirtual 189, 3) := by decide +kernel
theorem dX7_step_88 : decode cX7_step 88 = .ok (.putfield 119, 3) := by decide +kernel
theorem dX7_step_91 : decode cX7_step 91 = .ok (.goto 14, 3) := by decide +kernel
theorem dX7_step_94 : decode cX7_step 94 = .ok (.aload_n 0, 1) := by decide +kernel
theorem dX7_step_95 : decode cX7_step 95 = .ok (.getfield 185, 3) := by decide +kernel
theorem dX7_step_98 : decode cX7_step 98 = .ok (.ifCond .ne 7, 3) := by decide +kernel
theorem dX7_step_101 : decode cX7_step 101 = .ok (.aload_n 0, 1) := by decide +kernel
theorem dX7_step_102 : decode cX7_step 102 = .ok (.invokevirtual 270, 3) := by decide +kernel
theorem dX7_step_105 : decode cX7_step 105 = .ok (.aload_n 0, 1) := by decide +kernel
theorem dX7_step_106 : decode cX7_step 106 = .ok (.invokevirtual 273, 3) := by decide +kernel
theorem dX7_step_109 : decode cX7_step 109 = .ok (.return_, 1) := by decide +kernel
theorem dX7_isMemory_0 : decode cX7_isMemory 0 = .ok (.iload_n 0, 1) := by decide +kernel
theorem dX7_isMemory_1 : decode cX7_isMemory 1 = .ok (.ifCond .lt 10, 3) := by decide +kernel
theorem dX7_isMemory_4 : decode cX7_isMemory 4 = .ok (.iload_n 0, 1) := by decide +kernel
theorem dX7_isMemory_5 : decode cX7_isMemory 5 = .ok (.sipush 1024, 3) := by decide +kernel
theorem dX7_isMemory_8 : decode cX7_isMemory 8 = .ok (.if_icmp .lt 15, 3) := by decide +kernel
theorem dX7_isMemory_11 : decode cX7_isMemory 11 = .ok (.iload_n 0, 1) := by decide +kernel
theorem dX7_isMemory_12 : decode cX7_isMemory 12 = .ok (.ldc 94, 2) := by decide +kernel
theorem dX7_isMemory_14 : decode cX7_isMemory 14 = .ok (.if_icmp .lt 13, 3) := by decide +kernel
theorem dX7_isMemory_17 : decode cX7_isMemory 17 = .ok (.iload_n 0, 1) := by decide +kernel
theorem dX7_isMemory_18 : decode cX7_isMemory 18 = .ok (.ldc 209, 2) := by decide +kernel
theorem dX7_isMemory_20 : decode cX7_isMemory 20 = .ok (.if_icmp .ge 7, 3) := by decide +kernel
theorem dX7_isMemory_23 : decode cX7_isMemory 23 = .ok (.iconst 1, 1) := by decide +kernel
theorem dX7_isMemory_24 : decode cX7_isMemory 24 = .ok (.goto 4, 3) := by decide +kernel
theorem dX7_isMemory_27 : decode cX7_isMemory 27 = .ok (.iconst 0, 1) := by decide +kernel
theorem dX7_isMemory_28 : decode cX7_isMemory 28 = .ok (.ireturn, 1) := by decide +kernel
set_option maxRecDepth 20000 in
theorem ggX7_put_X7_isMemory : GoodIn wsX7_put wsX7_isMemory := goodIn_r _ [7, 3, 8] rfl (by decide +kernel)
set_option maxRecDepth 20000 in
theorem gX7_put_X7_isMemory : GoodIn wsX7_put (va_wsS RX7 276 yX7_isMemory wsX7_isMemory) := goodIn_app (goodIn_of _ (by decide +kernel)) ggX7_put_X7_isMemory
theorem dX7_put_0 : decode cX7_put 0 = .ok (.iconst 0, 1) := by decide +kernel
theorem dX7_put_1 : decode cX7_put 1 = .ok (.istore_n 3, 1) := by decide +kernel
theorem dX7_put_2 : decode cX7_put 2 = .ok (.iload_n 3, 1) := by decide +kernel
theorem dX7_put_3 : decode cX7_put 3 = .ok (.iconst 4, 1) := by decide +kernel
theorem dX7_put_4 : decode cX7_put 4 = .ok (.if_icmp .ge 20, 3) := by decide +kernel
theorem dX7_put_7 : decode cX7_put 7 = .ok (.iload_n 1, 1) := by decide +kernel
theorem dX7_put_8 : decode cX7_put 8 = .ok (.iload_n 3, 1) := by decide +kernel
theorem dX7_put_9 : decode cX7_put 9 = .ok (.iadd, 1) := by decide +kernel
theorem dX7_put_10 : decode cX7_put 10 = .ok (.invokestatic 276, 3) := by decide +kernel
theorem dX7_put_13 : decode cX7_put 13 = .ok (.ifCond .ne 5, 3) := by decide +kernel
theorem dX7_put_16 : decode cX7_put 16 = .ok (.iconst 0, 1) := by decide +kernel
theorem dX7_put_17 : decode cX7_put 17 = .ok (.ireturn, 1) := by decide +kernel
theorem dX7_put_18 : decode cX7_put 18 = .ok (.iinc 3 1, 3) := by decide +kernel
theorem dX7_put_21 : decode cX7_put 21 = .ok (.goto (-19), 3) := by decide +kernel
theorem dX7_put_24 : decode cX7_put 24 = .ok (.iconst 0, 1) := by decide +kernel
theorem dX7_put_25 : decode cX7_put 25 = .ok (.istore_n 3, 1) := by decide +kernel
theorem dX7_put_26 : decode cX7_put 26 = .ok (.iload_n 3, 1) := by decide +kernel
theorem dX7_put_27 : decode cX7_put 27 = .ok (.iconst 4, 1) := by decide +kernel
theorem dX7_put_28 : decode cX7_put 28 = .ok (.if_icmp .ge 61, 3) := by decide +kernel
theorem dX7_put_31 : decode cX7_put 31 = .ok (.iload_n 1, 1) := by decide +kernel
theorem dX7_put_32 : decode cX7_put 32 = .ok (.iload_n 3, 1) := by decide +kernel
theorem dX7_put_33 : decode cX7_put 33 = .ok (.iadd, 1) := by decide +kernel
theorem dX7_put_34 : decode cX7_put 34 = .ok (.istore 4, 2) := by decide +kernel
theorem dX7_put_36 : decode cX7_put 36 = .ok (.iload_n 2, 1) := by decide +kernel
theorem dX7_put_37 : decode cX7_put 37 = .ok (.bipush 24, 2) := by decide +kernel
theorem dX7_put_39 : decode cX7_put 39 = .ok (.bipush 8, 2) := by decide +kernel
theorem dX7_put_41 : decode cX7_put 41 = .ok (.iload_n 3, 1) := by decide +kernel
theorem dX7_put_42 : decode cX7_put 42 = .ok (.imul, 1) := by decide +kernel
theorem dX7_put_43 : decode cX7_put 43 = .ok (.isub, 1) := by decide +kernel
theorem dX7_put_44 : decode cX7_put 44 = .ok (.ishr, 1) := by decide +kernel
theorem dX7_put_45 : decode cX7_put 45 = .ok (.sipush 255, 3) := by decide +kernel
theorem dX7_put_48 : decode cX7_put 48 = .ok (.iand, 1) := by decide +kernel
theorem dX7_put_49 : decode cX7_put 49 = .ok (.istore 5, 2) := by decide +kernel
theorem dX7_put_51 : decode cX7_put 51 = .ok (.iload 4, 2) := by decide +kernel
theorem dX7_put_53 : decode cX7_put 53 = .ok (.sipush 1024, 3) := by decide +kernel
theorem dX7_put_56 : decode cX7_put 56 = .ok (.if_icmp .ge 15, 3) := by decide +kernel
theorem dX7_put_59 : decode cX7_put 59 = .ok (.aload_n 0, 1) := by decide +kernel
theorem dX7_put_60 : decode cX7_put 60 = .ok (.getfield 7, 3) := by decide +kernel
theorem dX7_put_63 : decode cX7_put 63 = .ok (.iload 4, 2) := by decide +kernel
theorem dX7_put_65 : decode cX7_put 65 = .ok (.iload 5, 2) := by decide +kernel
theorem dX7_put_67 : decode cX7_put 67 = .ok (.iastore, 1) := by decide +kernel
theorem dX7_put_68 : decode cX7_put 68 = .ok (.goto 15, 3) := by decide +kernel
theorem dX7_put_71 : decode cX7_put 71 = .ok (.aload_n 0, 1) := by decide +kernel
theorem dX7_put_72 : decode cX7_put 72 = .ok (.getfield 13, 3) := by decide +kernel
theorem dX7_put_75 : decode cX7_put 75 = .ok (.iload 4, 2) := by decide +kernel
theorem dX7_put_77 : decode cX7_put 77 = .ok (.ldc 94, 2) := by decide +kernel
theorem dX7_put_79 : decode cX7_put 79 = .ok (.isub, 1) := by decide +kernel
theorem dX7_put_80 : decode cX7_put 80 = .ok (.iload 5, 2) := by decide +kernel
theorem dX7_put_82 : decode cX7_put 82 = .ok (.iastore, 1) := by decide +kernel
theorem dX7_put_83 : decode cX7_put 83 = .ok (.iinc 3 1, 3) := by decide +kernel
theorem dX7_put_86 : decode cX7_put 86 = .ok (.goto (-60), 3) := by decide +kernel
theorem dX7_put_89 : decode cX7_put 89 = .ok (.iconst 1, 1) := by decide +kernel
theorem dX7_put_90 : decode cX7_put 90 = .ok (.ireturn, 1) := by decide +kernel
set_option maxRecDepth 20000 in
theorem ggX7_peek_X7_isMemory : GoodIn wsX7_peek wsX7_isMemory := goodIn_r _ [7, 3, 8] rfl (by decide +kernel)
set_option maxRecDepth 20000 in
theorem gX7_peek_X7_isMemory : GoodIn wsX7_peek (va_wsS RX7 276 yX7_isMemory wsX7_isMemory) := goodIn_app (goodIn_of _ (by decide +kernel)) ggX7_peek_X7_isMemory
theorem dX7_peek_0 : decode cX7_peek 0 = .ok (.iload_n 1, 1) := by decide +kernel
theorem dX7_peek_1 : decode cX7_peek 1 = .ok (.invokestatic 276, 3) := by decide +kernel
theorem dX7_peek_4 : decode cX7_peek 4 = .ok (.ifCond .ne 7, 3) := by decide +kernel
theorem dX7_peek_7 : decode cX7_peek 7 = .ok (.iconst (-1), 1) := by decide +kernel
theorem dX7_peek_8 : decode cX7_peek 8 = .ok (.goto 28, 3) := by decide +kernel
theorem dX7_peek_11 : decode cX7_peek 11 = .ok (.iload_n 1, 1) := by decide +kernel
theorem dX7_peek_12 : decode cX7_peek 12 = .ok (.sipush 1024, 3) := by decide +kernel
theorem dX7_peek_15 : decode cX7_peek 15 = .ok (.if_icmp .ge 12, 3) := by decide +kernel
theorem dX7_peek_18 : decode cX7_peek 18 = .ok (.aload_n 0, 1) := by decide +kernel
theorem dX7_peek_19 : decode cX7_peek 19 = .ok (.getfield 7, 3) := by decide +kernel
theorem dX7_peek_22 : decode cX7_peek 22 = .ok (.iload_n 1, 1) := by decide +kernel
theorem dX7_peek_23 : decode cX7_peek 23 = .ok (.iaload, 1) := by decide +kernel
theorem dX7_peek_24 : decode cX7_peek 24 = .ok (.goto 12, 3) := by decide +kernel
theorem dX7_peek_27 : decode cX7_peek 27 = .ok (.aload_n 0, 1) := by decide +kernel
theorem dX7_peek_28 : decode cX7_peek 28 = .ok (.getfield 13, 3) := by decide +kernel
theorem dX7_peek_31 : decode cX7_peek 31 = .ok (.iload_n 1, 1) := by decide +kernel
theorem dX7_peek_32 : decode cX7_peek 32 = .ok (.ldc 94, 2) := by decide +kernel
theorem dX7_peek_34 : decode cX7_peek 34 = .ok (.isub, 1) := by decide +kernel
theorem dX7_peek_35 : decode cX7_peek 35 = .ok (.iaload, 1) := by decide +kernel
theorem dX7_peek_36 : decode cX7_peek 36 = .ok (.ireturn, 1) := by decide +kernel
set_option maxRecDepth 20000 in
theorem ggX7_reset_X7_readWord : GoodIn wsX7_reset wsX7_readWord := goodIn_r _ [9, 10, 11, 12, 8, 13, 14, 15, 16, 17, 18, 19, 20, 21, 22, 23, 24, 25, 26, 27, 28, 29, 30, 31, 32, 33, 34, 35, 36, 37, 38, 39, 40, 41, 42, 43, 44, 50, 51, 52, 53, 54, 55, 56, 57, 58, 59, 60, 61, 62, 63, 64, 65, 66, 67, 68, 69, 70, 71, 72, 73, 74, 75, 76, 77, 78, 79, 80] rfl (by decide +kernel)
set_option maxRecDepth 20000 in
theorem gX7_reset_X7_readWord : GoodIn wsX7_reset (wsV RX7 189 RX7 yX7_readWord wsX7_readWord) := goodIn_app (goodIn_of _ (by decide +kernel)) ggX7_reset_X7_readWord
set_option maxRecDepth 20000 in
theorem ggX7_reset_X7_tell : GoodIn wsX7_reset wsX7_tell := goodIn_r _ [48, 49, 50, 51, 52, 53, 54, 55, 56, 57, 58, 59, 60, 61, 62, 63, 64, 65, 66, 67, 68, 69, 70, 71, 72, 73, 74, 75, 76, 77, 78, 79, 80] rfl (by decide +kernel)
set_option maxRecDepth 20000 in
theorem gX7_reset_X7_tell : GoodIn wsX7_reset (wsV RX7 149 RX7 yX7_tell wsX7_tell) := goodIn_app (goodIn_of _ (by decide +kernel)) ggX7_reset_X7_tell
theorem dX7_reset_0 : decode cX7_reset 0 = .ok (.aload_n 0, 1) := by decide +kernel
theorem dX7_reset_1 : decode cX7_reset 1 = .ok (.aload_n 0, 1) := by decide +kernel
theorem dX7_reset_2 : decode cX7_reset 2 = .ok (.ldc_w 279, 3) := by decide +kernel
theorem dX7_reset_5 : decode cX7_reset 5 = .ok (.invokevirtual 189, 3) := by decide +kernel
theorem dX7_reset_8 : decode cX7_reset 8 = .ok (.putfield 119, 3) := by decide +kernel
theorem dX7_reset_11 : decode cX7_reset 11 = .ok (.aload_n 0, 1) := by decide +kernel
theorem dX7_reset_12 : decode cX7_reset 12 = .ok (.bipush 16, 2) := by decide +kernel
theorem dX7_reset_14 : decode cX7_reset 14 = .ok (.iconst 1, 1) := by decide +kernel
theorem dX7_reset_15 : decode cX7_reset 15 = .ok (.invokevirtual 149, 3) := by decide +kernel
theorem dX7_reset_18 : decode cX7_reset 18 = .ok (.aload_n 0, 1) := by decide +kernel
theorem dX7_reset_19 : decode cX7_reset 19 = .ok (.iconst 0, 1) := by decide +kernel
theorem dX7_reset_20 : decode cX7_reset 20 = .ok (.putfield 185, 3) := by decide +kernel
theorem dX7_reset_23 : decode cX7_reset 23 = .ok (.aload_n 0, 1) := by decide +kernel
theorem dX7_reset_24 : decode cX7_reset 24 = .ok (.iconst 0, 1) := by decide +kernel
theorem dX7_reset_25 : decode cX7_reset 25 = .ok (.putfield 257, 3) := by decide +kernel
theorem dX7_reset_28 : decode cX7_reset 28 = .ok (.return_, 1) := by decide +kernel
set_option maxRecDepth 20000 in
theorem ggX7_run_X7_step : GoodIn wsX7_run wsX7_step := goodIn_r _ [6, 7, 8, 9, 10, 11, 12, 13, 5, 14, 15, 16, 17, 18, 19, 20, 21, 22, 23, 24, 25, 26, 27, 28, 29, 30, 31, 32, 33, 34, 35, 36, 37, 38, 39, 40, 41, 42, 43, 44, 45, 46, 47, 48, 49, 50, 51, 52, 53, 54, 55, 56, 57, 58, 59, 60, 61, 62, 63, 64, 65, 66, 67, 68, 69, 70, 71, 72, 73, 74, 75, 76, 77, 78, 79, 80, 81, 82, 83, 84, 85, 86, 87, 88, 89, 90, 91, 92, 93, 94, 95, 96, 97, 98, 99, 100, 101, 102, 103, 104, 105, 106, 107, 108, 109, 110, 111, 112, 113, 114, 115, 116, 117, 118, 1, 119, 120, 121, 122, 123, 124, 125, 126, 127, 128, 129, 130, 131, 132, 133, 134, 135, 136, 137, 138, 139, 140, 141, 142, 143, 144, 145, 146, 147, 148, 149, 150, 151, 152, 153, 154, 155, 156, 157, 158, 159, 160, 161, 162, 163, 164, 165, 166, 167, 168, 169, 170, 171, 172, 173, 174, 175, 176, 177, 178, 179, 180, 181, 182, 183, 184, 185, 186, 187, 188, 189, 190, 191, 192, 193, 194, 195, 196, 197, 198, 199, 200, 201, 202, 203, 204, 205, 206, 207, 208, 209, 210, 211, 212, 213, 214, 215, 216, 217, 218, 219, 220, 221, 222, 223, 224, 225, 226, 227, 228, 229, 230, 231, 232, 233, 234, 235, 236, 237, 238, 239, 240, 241, 242, 243, 244, 245, 246, 247, 248, 249, 250, 251, 252, 253, 254, 255, 256, 257, 258, 259, 260, 261, 262, 263, 264, 265, 266, 267, 268, 269, 270, 271, 272, 273, 274] rfl (by decide +kernel)
set_option maxRecDepth 20000 in
theorem gX7_run_X7_step : GoodIn wsX7_run (wsV RX7 280 RX7 yX7_step wsX7_step) := goodIn_app (goodIn_of _ (by decide +kernel)) ggX7_run_X7_step
theorem dX7_run_0 : decode cX7_run 0 = .ok (.iload_n 1, 1) := by decide +kernel
theorem dX7_run_1 : decode cX7_run 1 = .ok (.ifCond .lt 10, 3) := by decide +kernel
theorem dX7_run_4 : decode cX7_run 4 = .ok (.iload_n 1, 1) := by decide +kernel
theorem dX7_run_5 : decode cX7_run 5 = .ok (.sipush 3000, 3) := by decide +kernel
theorem dX7_run_8 : decode cX7_run 8 = .ok (.if_icmp .le 5, 3) := by decide +kernel
theorem dX7_run_11 : decode cX7_run 11 = .ok (.iconst (-1), 1) := by decide +kernel
theorem dX7_run_12 : decode cX7_run 12 = .ok (.ireturn, 1) := by decide +kernel
theorem dX7_run_13 : decode cX7_run 13 = .ok (.iconst 0, 1) := by decide +kernel
theorem dX7_run_14 : decode cX7_run 14 = .ok (.istore_n 2, 1) := by decide +kernel
theorem dX7_run_15 : decode cX7_run 15 = .ok (.iload_n 2, 1) := by decide +kernel
theorem dX7_run_16 : decode cX7_run 16 = .ok (.iload_n 1, 1) := by decide +kernel
theorem dX7_run_17 : decode cX7_run 17 = .ok (.if_icmp .ge 20, 3) := by decide +kernel
theorem dX7_run_20 : decode cX7_run 20 = .ok (.aload_n 0, 1) := by decide +kernel
theorem dX7_run_21 : decode cX7_run 21 = .ok (.getfield 257, 3) := by decide +kernel
theorem dX7_run_24 : decode cX7_run 24 = .ok (.ifCond .ne 13, 3) := by decide +kernel
theorem dX7_run_27 : decode cX7_run 27 = .ok (.aload_n 0, 1) := by decide +kernel
theorem dX7_run_28 : decode cX7_run 28 = .ok (.invokevirtual 280, 3) := by decide +kernel
theorem dX7_run_31 : decode cX7_run 31 = .ok (.iinc 2 1, 3) := by decide +kernel
theorem dX7_run_34 : decode cX7_run 34 = .ok (.goto (-19), 3) := by decide +kernel
theorem dX7_run_37 : decode cX7_run 37 = .ok (.iload_n 2, 1) := by decide +kernel
theorem dX7_run_38 : decode cX7_run 38 = .ok (.ireturn, 1) := by decide +kernel
theorem dX7_register_0 : decode cX7_register 0 = .ok (.iload_n 1, 1) := by decide +kernel
theorem dX7_register_1 : decode cX7_register 1 = .ok (.tableswitch 103 0 7 #[47, 52, 57, 62, 67, 72, 77, 90], 47) := by decide +kernel
theorem dX7_register_48 : decode cX7_register 48 = .ok (.aload_n 0, 1) := by decide +kernel
theorem dX7_register_49 : decode cX7_register 49 = .ok (.getfield 140, 3) := by decide +kernel
theorem dX7_register_52 : decode cX7_register 52 = .ok (.ireturn, 1) := by decide +kernel
theorem dX7_register_53 : decode cX7_register 53 = .ok (.aload_n 0, 1) := by decide +kernel
theorem dX7_register_54 : decode cX7_register 54 = .ok (.getfield 143, 3) := by decide +kernel
theorem dX7_register_57 : decode cX7_register 57 = .ok (.ireturn, 1) := by decide +kernel
theorem dX7_register_58 : decode cX7_register 58 = .ok (.aload_n 0, 1) := by decide +kernel
theorem dX7_register_59 : decode cX7_register 59 = .ok (.getfield 137, 3) := by decide +kernel
theorem dX7_register_62 : decode cX7_register 62 = .ok (.ireturn, 1) := by decide +kernel
theorem dX7_register_63 : decode cX7_register 63 = .ok (.aload_n 0, 1) := by decide +kernel
theorem dX7_register_64 : decode cX7_register 64 = .ok (.getfield 125, 3) := by decide +kernel
theorem dX7_register_67 : decode cX7_register 67 = .ok (.ireturn, 1) := by decide +kernel
theorem dX7_register_68 : decode cX7_register 68 = .ok (.aload_n 0, 1) := by decide +kernel
theorem dX7_register_69 : decode cX7_register 69 = .ok (.getfield 119, 3) := by decide +kernel
theorem dX7_register_72 : decode cX7_register 72 = .ok (.ireturn, 1) := by decide +kernel
theorem dX7_register_73 : decode cX7_register 73 = .ok (.aload_n 0, 1) := by decide +kernel
theorem dX7_register_74 : decode cX7_register 74 = .ok (.getfield 146, 3) := by decide +kernel
theorem dX7_register_77 : decode cX7_register 77 = .ok (.ireturn, 1) := by decide +kernel
theorem dX7_register_78 : decode cX7_register 78 = .ok (.aload_n 0, 1) := by decide +kernel
theorem dX7_register_79 : decode cX7_register 79 = .ok (.getfield 185, 3) := by decide +kernel
theorem dX7_register_82 : decode cX7_register 82 = .ok (.ifCond .eq 7, 3) := by decide +kernel
theorem dX7_register_85 : decode cX7_register 85 = .ok (.iconst 1, 1) := by decide +kernel
theorem dX7_register_86 : decode cX7_register 86 = .ok (.goto 4, 3) := by decide +kernel
theorem dX7_register_89 : decode cX7_register 89 = .ok (.iconst 0, 1) := by decide +kernel
theorem dX7_register_90 : decode cX7_register 90 = .ok (.ireturn, 1) := by decide +kernel
theorem dX7_register_91 : decode cX7_register 91 = .ok (.aload_n 0, 1) := by decide +kernel
theorem dX7_register_92 : decode cX7_register 92 = .ok (.getfield 257, 3) := by decide +kernel
theorem dX7_register_95 : decode cX7_register 95 = .ok (.ifCond .eq 7, 3) := by decide +kernel
theorem dX7_register_98 : decode cX7_register 98 = .ok (.iconst 1, 1) := by decide +kernel
theorem dX7_register_99 : decode cX7_register 99 = .ok (.goto 4, 3) := by decide +kernel
theorem dX7_register_102 : decode cX7_register 102 = .ok (.iconst 0, 1) := by decide +kernel
theorem dX7_register_103 : decode cX7_register 103 = .ok (.ireturn, 1) := by decide +kernel
theorem dX7_register_104 : decode cX7_register 104 = .ok (.iconst (-1), 1) := by decide +kernel
theorem dX7_register_105 : decode cX7_register 105 = .ok (.ireturn, 1) := by decide +kernel
theorem dX7_receive_0 : decode cX7_receive 0 = .ok (.aload_n 0, 1) := by decide +kernel
theorem dX7_receive_1 : decode cX7_receive 1 = .ok (.getfield 73, 3) := by decide +kernel
theorem dX7_receive_4 : decode cX7_receive 4 = .ok (.bipush 64, 2) := by decide +kernel
theorem dX7_receive_6 : decode cX7_receive 6 = .ok (.if_icmp .ne 5, 3) := by decide +kernel
theorem dX7_receive_9 : decode cX7_receive 9 = .ok (.iconst 0, 1) := by decide +kernel
theorem dX7_receive_10 : decode cX7_receive 10 = .ok (.ireturn, 1) := by decide +kernel
theorem dX7_receive_11 : decode cX7_receive 11 = .ok (.aload_n 0, 1) := by decide +kernel
theorem dX7_receive_12 : decode cX7_receive 12 = .ok (.getfield 38, 3) := by decide +kernel
theorem dX7_receive_15 : decode cX7_receive 15 = .ok (.aload_n 0, 1) := by decide +kernel
theorem dX7_receive_16 : decode cX7_receive 16 = .ok (.getfield 73, 3) := by decide +kernel
theorem dX7_receive_19 : decode cX7_receive 19 = .ok (.iload_n 1, 1) := by decide +kernel
theorem dX7_receive_20 : decode cX7_receive 20 = .ok (.sipush 255, 3) := by decide +kernel
theorem dX7_receive_23 : decode cX7_receive 23 = .ok (.iand, 1) := by decide +kernel
theorem dX7_receive_24 : decode cX7_receive 24 = .ok (.iastore, 1) := by decide +kernel
theorem dX7_receive_25 : decode cX7_receive 25 = .ok (.aload_n 0, 1) := by decide +kernel
theorem dX7_receive_26 : decode cX7_receive 26 = .ok (.dup, 1) := by decide +kernel
theorem dX7_receive_27 : decode cX7_receive 27 = .ok (.getfield 73, 3) := by decide +kernel
theorem dX7_receive_30 : decode cX7_receive 30 = .ok (.iconst 1, 1) := by decide +kernel
theorem dX7_receive_31 : decode cX7_receive 31 = .ok (.iadd, 1) := by decide +kernel
theorem dX7_receive_32 : decode cX7_receive 32 = .ok (.putfield 73, 3) := by decide +kernel
theorem dX7_receive_35 : decode cX7_receive 35 = .ok (.iconst 1, 1) := by decide +kernel
theorem dX7_receive_36 : decode cX7_receive 36 = .ok (.ireturn, 1) := by decide +kernel
theorem dX7_sent_0 : decode cX7_sent 0 = .ok (.aload_n 0, 1) := by decide +kernel
theorem dX7_sent_1 : decode cX7_sent 1 = .ok (.getfield 80, 3) := by decide +kernel
theorem dX7_sent_4 : decode cX7_sent 4 = .ok (.ireturn, 1) := by decide +kernel
theorem dX7_sentByte_0 : decode cX7_sentByte 0 = .ok (.iload_n 1, 1) := by decide +kernel
theorem dX7_sentByte_1 : decode cX7_sentByte 1 = .ok (.ifCond .lt 11, 3) := by decide +kernel
theorem dX7_sentByte_4 : decode cX7_sentByte 4 = .ok (.iload_n 1, 1) := by decide +kernel
theorem dX7_sentByte_5 : decode cX7_sentByte 5 = .ok (.aload_n 0, 1) := by decide +kernel
theorem dX7_sentByte_6 : decode cX7_sentByte 6 = .ok (.getfield 80, 3) := by decide +kernel
theorem dX7_sentByte_9 : decode cX7_sentByte 9 = .ok (.if_icmp .lt 7, 3) := by decide +kernel
theorem dX7_sentByte_12 : decode cX7_sentByte 12 = .ok (.iconst (-1), 1) := by decide +kernel
theorem dX7_sentByte_13 : decode cX7_sentByte 13 = .ok (.goto 9, 3) := by decide +kernel
theorem dX7_sentByte_16 : decode cX7_sentByte 16 = .ok (.aload_n 0, 1) := by decide +kernel
theorem dX7_sentByte_17 : decode cX7_sentByte 17 = .ok (.getfield 41, 3) := by decide +kernel
theorem dX7_sentByte_20 : decode cX7_sentByte 20 = .ok (.iload_n 1, 1) := by decide +kernel
theorem dX7_sentByte_21 : decode cX7_sentByte 21 = .ok (.iaload, 1) := by decide +kernel
theorem dX7_sentByte_22 : decode cX7_sentByte 22 = .ok (.ireturn, 1) := by decide +kernel
theorem dX7_isSide_0 : decode cX7_isSide 0 = .ok (.iload_n 0, 1) := by decide +kernel
theorem dX7_isSide_1 : decode cX7_isSide 1 = .ok (.ifCond .eq 8, 3) := by decide +kernel
theorem dX7_isSide_4 : decode cX7_isSide 4 = .ok (.iload_n 0, 1) := by decide +kernel
theorem dX7_isSide_5 : decode cX7_isSide 5 = .ok (.iconst 1, 1) := by decide +kernel
theorem dX7_isSide_6 : decode cX7_isSide 6 = .ok (.if_icmp .ne 7, 3) := by decide +kernel
theorem dX7_isSide_9 : decode cX7_isSide 9 = .ok (.iconst 1, 1) := by decide +kernel
theorem dX7_isSide_10 : decode cX7_isSide 10 = .ok (.goto 4, 3) := by decide +kernel
theorem dX7_isSide_13 : decode cX7_isSide 13 = .ok (.iconst 0, 1) := by decide +kernel
theorem dX7_isSide_14 : decode cX7_isSide 14 = .ok (.ireturn, 1) := by decide +kernel
set_option maxRecDepth 20000 in
theorem ggX7_pins_X7_isSide : GoodIn wsX7_pins wsX7_isSide := goodIn_r _ [5] rfl (by decide +kernel)
set_option maxRecDepth 20000 in
theorem gX7_pins_X7_isSide : GoodIn wsX7_pins (va_wsS RX7 283 yX7_isSide wsX7_isSide) := goodIn_app (goodIn_of _ (by decide +kernel)) ggX7_pins_X7_isSide
theorem dX7_pins_0 : decode cX7_pins 0 = .ok (.iload_n 1, 1) := by decide +kernel
theorem dX7_pins_1 : decode cX7_pins 1 = .ok (.invokestatic 283, 3) := by decide +kernel
theorem dX7_pins_4 : decode cX7_pins 4 = .ok (.ifCond .ne 5, 3) := by decide +kernel
theorem dX7_pins_7 : decode cX7_pins 7 = .ok (.iconst 0, 1) := by decide +kernel
theorem dX7_pins_8 : decode cX7_pins 8 = .ok (.ireturn, 1) := by decide +kernel
theorem dX7_pins_9 : decode cX7_pins 9 = .ok (.aload_n 0, 1) := by decide +kernel
theorem dX7_pins_10 : decode cX7_pins 10 = .ok (.getfield 25, 3) := by decide +kernel
theorem dX7_pins_13 : decode cX7_pins 13 = .ok (.iload_n 1, 1) := by decide +kernel
theorem dX7_pins_14 : decode cX7_pins 14 = .ok (.iload_n 2, 1) := by decide +kernel
theorem dX7_pins_15 : decode cX7_pins 15 = .ok (.sipush 255, 3) := by decide +kernel
theorem dX7_pins_18 : decode cX7_pins 18 = .ok (.iand, 1) := by decide +kernel
theorem dX7_pins_19 : decode cX7_pins 19 = .ok (.iastore, 1) := by decide +kernel
theorem dX7_pins_20 : decode cX7_pins 20 = .ok (.iconst 1, 1) := by decide +kernel
theorem dX7_pins_21 : decode cX7_pins 21 = .ok (.ireturn, 1) := by decide +kernel
set_option maxRecDepth 20000 in
theorem ggX7_line_X7_isSide : GoodIn wsX7_line wsX7_isSide := goodIn_r _ [7] rfl (by decide +kernel)
set_option maxRecDepth 20000 in
theorem gX7_line_X7_isSide : GoodIn wsX7_line (va_wsS RX7 283 yX7_isSide wsX7_isSide) := goodIn_app (goodIn_of _ (by decide +kernel)) ggX7_line_X7_isSide
set_option maxRecDepth 20000 in
theorem ggX7_line_X7_answers : GoodIn wsX7_line wsX7_answers := goodIn_r _ [11, 1, 12, 13, 14, 15, 16, 17, 18, 19, 20, 21, 22, 23, 24, 25, 26, 27, 28, 29, 30, 31, 32, 33, 34, 35, 36, 37, 38, 39, 40, 41, 42] rfl (by decide +kernel)
set_option maxRecDepth 20000 in
theorem gX7_line_X7_answers : GoodIn wsX7_line (wsV RX7 89 RX7 yX7_answers wsX7_answers) := goodIn_app (goodIn_of _ (by decide +kernel)) ggX7_line_X7_answers
theorem dX7_line_0 : decode cX7_line 0 = .ok (.iload_n 1, 1) := by decide +kernel
theorem dX7_line_1 : decode cX7_line 1 = .ok (.invokestatic 283, 3) := by decide +kernel
theorem dX7_line_4 : decode cX7_line 4 = .ok (.ifCond .eq 30, 3) := by decide +kernel
theorem dX7_line_7 : decode cX7_line 7 = .ok (.iload_n 2, 1) := by decide +kernel
theorem dX7_line_8 : decode cX7_line 8 = .ok (.iconst 1, 1) := by decide +kernel
theorem dX7_line_9 : decode cX7_line 9 = .ok (.if_icmp .lt 25, 3) := by decide +kernel
theorem dX7_line_12 : decode cX7_line 12 = .ok (.iload_n 2, 1) := by decide +kernel
theorem dX7_line_13 : decode cX7_line 13 = .ok (.iconst 2, 1) := by decide +kernel
theorem dX7_line_14 : decode cX7_line 14 = .ok (.if_icmp .gt 20, 3) := by decide +kernel
theorem dX7_line_17 : decode cX7_line 17 = .ok (.iload_n 2, 1) := by decide +kernel
theorem dX7_line_18 : decode cX7_line 18 = .ok (.iconst 2, 1) := by decide +kernel
theorem dX7_line_19 : decode cX7_line 19 = .ok (.if_icmp .ne 17, 3) := by decide +kernel
theorem dX7_line_22 : decode cX7_line 22 = .ok (.aload_n 0, 1) := by decide +kernel
theorem dX7_line_23 : decode cX7_line 23 = .ok (.getfield 22, 3) := by decide +kernel
theorem dX7_line_26 : decode cX7_line 26 = .ok (.iload_n 1, 1) := by decide +kernel
theorem dX7_line_27 : decode cX7_line 27 = .ok (.iaload, 1) := by decide +kernel
theorem dX7_line_28 : decode cX7_line 28 = .ok (.bipush 32, 2) := by decide +kernel
theorem dX7_line_30 : decode cX7_line 30 = .ok (.iand, 1) := by decide +kernel
theorem dX7_line_31 : decode cX7_line 31 = .ok (.ifCond .eq 5, 3) := by decide +kernel
theorem dX7_line_34 : decode cX7_line 34 = .ok (.iconst 0, 1) := by decide +kernel
theorem dX7_line_35 : decode cX7_line 35 = .ok (.ireturn, 1) := by decide +kernel
theorem dX7_line_36 : decode cX7_line 36 = .ok (.iload_n 3, 1) := by decide +kernel
theorem dX7_line_37 : decode cX7_line 37 = .ok (.ifCond .eq 7, 3) := by decide +kernel
theorem dX7_line_40 : decode cX7_line 40 = .ok (.iconst 1, 1) := by decide +kernel
theorem dX7_line_41 : decode cX7_line 41 = .ok (.goto 4, 3) := by decide +kernel
theorem dX7_line_44 : decode cX7_line 44 = .ok (.iconst 0, 1) := by decide +kernel
theorem dX7_line_45 : decode cX7_line 45 = .ok (.istore 4, 2) := by decide +kernel
theorem dX7_line_47 : decode cX7_line 47 = .ok (.iload_n 2, 1) := by decide +kernel
theorem dX7_line_48 : decode cX7_line 48 = .ok (.iconst 1, 1) := by decide +kernel
theorem dX7_line_49 : decode cX7_line 49 = .ok (.if_icmp .ne 12, 3) := by decide +kernel
theorem dX7_line_52 : decode cX7_line 52 = .ok (.aload_n 0, 1) := by decide +kernel
theorem dX7_line_53 : decode cX7_line 53 = .ok (.getfield 28, 3) := by decide +kernel
theorem dX7_line_56 : decode cX7_line 56 = .ok (.iload_n 1, 1) := by decide +kernel
theorem dX7_line_57 : decode cX7_line 57 = .ok (.iaload, 1) := by decide +kernel
theorem dX7_line_58 : decode cX7_line 58 = .ok (.goto 9, 3) := by decide +kernel
theorem dX7_line_61 : decode cX7_line 61 = .ok (.aload_n 0, 1) := by decide +kernel
theorem dX7_line_62 : decode cX7_line 62 = .ok (.getfield 31, 3) := by decide +kernel
theorem dX7_line_65 : decode cX7_line 65 = .ok (.iload_n 1, 1) := by decide +kernel
theorem dX7_line_66 : decode cX7_line 66 = .ok (.iaload, 1) := by decide +kernel
theorem dX7_line_67 : decode cX7_line 67 = .ok (.istore 5, 2) := by decide +kernel
theorem dX7_line_69 : decode cX7_line 69 = .ok (.iload_n 2, 1) := by decide +kernel
theorem dX7_line_70 : decode cX7_line 70 = .ok (.iconst 1, 1) := by decide +kernel
theorem dX7_line_71 : decode cX7_line 71 = .ok (.if_icmp .ne 14, 3) := by decide +kernel
theorem dX7_line_74 : decode cX7_line 74 = .ok (.aload_n 0, 1) := by decide +kernel
theorem dX7_line_75 : decode cX7_line 75 = .ok (.getfield 28, 3) := by decide +kernel
theorem dX7_line_78 : decode cX7_line 78 = .ok (.iload_n 1, 1) := by decide +kernel
theorem dX7_line_79 : decode cX7_line 79 = .ok (.iload 4, 2) := by decide +kernel
theorem dX7_line_81 : decode cX7_line 81 = .ok (.iastore, 1) := by decide +kernel
theorem dX7_line_82 : decode cX7_line 82 = .ok (.goto 11, 3) := by decide +kernel
theorem dX7_line_85 : decode cX7_line 85 = .ok (.aload_n 0, 1) := by decide +kernel
theorem dX7_line_86 : decode cX7_line 86 = .ok (.getfield 31, 3) := by decide +kernel
theorem dX7_line_89 : decode cX7_line 89 = .ok (.iload_n 1, 1) := by decide +kernel
theorem dX7_line_90 : decode cX7_line 90 = .ok (.iload 4, 2) := by decide +kernel
theorem dX7_line_92 : decode cX7_line 92 = .ok (.iastore, 1) := by decide +kernel
theorem dX7_line_93 : decode cX7_line 93 = .ok (.aload_n 0, 1) := by decide +kernel
theorem dX7_line_94 : decode cX7_line 94 = .ok (.getfield 22, 3) := by decide +kernel
theorem dX7_line_97 : decode cX7_line 97 = .ok (.iload_n 1, 1) := by decide +kernel
theorem dX7_line_98 : decode cX7_line 98 = .ok (.iaload, 1) := by decide +kernel
theorem dX7_line_99 : decode cX7_line 99 = .ok (.iload_n 2, 1) := by decide +kernel
theorem dX7_line_100 : decode cX7_line 100 = .ok (.iconst 1, 1) := by decide +kernel
theorem dX7_line_101 : decode cX7_line 101 = .ok (.if_icmp .ne 7, 3) := by decide +kernel
theorem dX7_line_104 : decode cX7_line 104 = .ok (.iconst 1, 1) := by decide +kernel
theorem dX7_line_105 : decode cX7_line 105 = .ok (.goto 4, 3) := by decide +kernel
theorem dX7_line_108 : decode cX7_line 108 = .ok (.iconst 4, 1) := by decide +kernel
theorem dX7_line_109 : decode cX7_line 109 = .ok (.ishr, 1) := by decide +kernel
theorem dX7_line_110 : decode cX7_line 110 = .ok (.iconst 1, 1) := by decide +kernel
theorem dX7_line_111 : decode cX7_line 111 = .ok (.iand, 1) := by decide +kernel
theorem dX7_line_112 : decode cX7_line 112 = .ok (.istore 6, 2) := by decide +kernel
theorem dX7_line_114 : decode cX7_line 114 = .ok (.iload 4, 2) := by decide +kernel
theorem dX7_line_116 : decode cX7_line 116 = .ok (.iload 5, 2) := by decide +kernel
theorem dX7_line_118 : decode cX7_line 118 = .ok (.if_icmp .eq 10, 3) := by decide +kernel
theorem dX7_line_121 : decode cX7_line 121 = .ok (.iload 4, 2) := by decide +kernel
theorem dX7_line_123 : decode cX7_line 123 = .ok (.iload 6, 2) := by decide +kernel
theorem dX7_line_125 : decode cX7_line 125 = .ok (.if_icmp .eq 5, 3) := by decide +kernel
theorem dX7_line_128 : decode cX7_line 128 = .ok (.iconst 1, 1) := by decide +kernel
theorem dX7_line_129 : decode cX7_line 129 = .ok (.ireturn, 1) := by decide +kernel
theorem dX7_line_130 : decode cX7_line 130 = .ok (.aload_n 0, 1) := by decide +kernel
theorem dX7_line_131 : decode cX7_line 131 = .ok (.getfield 22, 3) := by decide +kernel
theorem dX7_line_134 : decode cX7_line 134 = .ok (.iload_n 1, 1) := by decide +kernel
theorem dX7_line_135 : decode cX7_line 135 = .ok (.dup2, 1) := by decide +kernel
theorem dX7_line_136 : decode cX7_line 136 = .ok (.iaload, 1) := by decide +kernel
theorem dX7_line_137 : decode cX7_line 137 = .ok (.iload_n 2, 1) := by decide +kernel
theorem dX7_line_138 : decode cX7_line 138 = .ok (.iconst 1, 1) := by decide +kernel
theorem dX7_line_139 : decode cX7_line 139 = .ok (.if_icmp .ne 9, 3) := by decide +kernel
theorem dX7_line_142 : decode cX7_line 142 = .ok (.sipush 128, 3) := by decide +kernel
theorem dX7_line_145 : decode cX7_line 145 = .ok (.goto 5, 3) := by decide +kernel
theorem dX7_line_148 : decode cX7_line 148 = .ok (.bipush 64, 2) := by decide +kernel
theorem dX7_line_150 : decode cX7_line 150 = .ok (.ior, 1) := by decide +kernel
theorem dX7_line_151 : decode cX7_line 151 = .ok (.iastore, 1) := by decide +kernel
theorem dX7_line_152 : decode cX7_line 152 = .ok (.iload_n 2, 1) := by decide +kernel
theorem dX7_line_153 : decode cX7_line 153 = .ok (.iconst 1, 1) := by decide +kernel
theorem dX7_line_154 : decode cX7_line 154 = .ok (.if_icmp .ne 30, 3) := by decide +kernel
theorem dX7_line_157 : decode cX7_line 157 = .ok (.aload_n 0, 1) := by decide +kernel
theorem dX7_line_158 : decode cX7_line 158 = .ok (.iload_n 1, 1) := by decide +kernel
theorem dX7_line_159 : decode cX7_line 159 = .ok (.invokevirtual 89, 3) := by decide +kernel
theorem dX7_line_162 : decode cX7_line 162 = .ok (.ifCond .eq 22, 3) := by decide +kernel
theorem dX7_line_165 : decode cX7_line 165 = .ok (.aload_n 0, 1) := by decide +kernel
theorem dX7_line_166 : decode cX7_line 166 = .ok (.getfield 22, 3) := by decide +kernel
theorem dX7_line_169 : decode cX7_line 169 = .ok (.iload_n 1, 1) := by decide +kernel
theorem dX7_line_170 : decode cX7_line 170 = .ok (.iaload, 1) := by decide +kernel
theorem dX7_line_171 : decode cX7_line 171 = .ok (.bipush 8, 2) := by decide +kernel
theorem dX7_line_173 : decode cX7_line 173 = .ok (.iand, 1) := by decide +kernel
theorem dX7_line_174 : decode cX7_line 174 = .ok (.ifCond .ne 10, 3) := by decide +kernel
theorem dX7_line_177 : decode cX7_line 177 = .ok (.aload_n 0, 1) := by decide +kernel
theorem dX7_line_178 : decode cX7_line 178 = .ok (.getfield 31, 3) := by decide +kernel
theorem dX7_line_181 : decode cX7_line 181 = .ok (.iload_n 1, 1) := by decide +kernel
theorem dX7_line_182 : decode cX7_line 182 = .ok (.iconst 1, 1) := by decide +kernel
theorem dX7_line_183 : decode cX7_line 183 = .ok (.iastore, 1) := by decide +kernel
theorem dX7_line_184 : decode cX7_line 184 = .ok (.iconst 1, 1) := by decide +kernel
theorem dX7_line_185 : decode cX7_line 185 = .ok (.ireturn, 1) := by decide +kernel
set_option maxRecDepth 20000 in
theorem ggX7_port_X7_isSide : GoodIn wsX7_port wsX7_isSide := goodIn_r _ [10] rfl (by decide +kernel)
set_option maxRecDepth 20000 in
theorem gX7_port_X7_isSide : GoodIn wsX7_port (va_wsS RX7 283 yX7_isSide wsX7_isSide) := goodIn_app (goodIn_of _ (by decide +kernel)) ggX7_port_X7_isSide
theorem dX7_port_0 : decode cX7_port 0 = .ok (.iload_n 1, 1) := by decide +kernel
theorem dX7_port_1 : decode cX7_port 1 = .ok (.invokestatic 283, 3) := by decide +kernel
theorem dX7_port_4 : decode cX7_port 4 = .ok (.ifCond .ne 5, 3) := by decide +kernel
theorem dX7_port_7 : decode cX7_port 7 = .ok (.iconst (-1), 1) := by decide +kernel
theorem dX7_port_8 : decode cX7_port 8 = .ok (.ireturn, 1) := by decide +kernel
theorem dX7_port_9 : decode cX7_port 9 = .ok (.iload_n 2, 1) := by decide +kernel
theorem dX7_port_10 : decode cX7_port 10 = .ok (.tableswitch 87 0 5 #[38, 52, 59, 66, 73, 80], 38) := by decide +kernel
theorem dX7_port_48 : decode cX7_port 48 = .ok (.aload_n 0, 1) := by decide +kernel
theorem dX7_port_49 : decode cX7_port 49 = .ok (.getfield 16, 3) := by decide +kernel
theorem dX7_port_52 : decode cX7_port 52 = .ok (.iload_n 1, 1) := by decide +kernel
theorem dX7_port_53 : decode cX7_port 53 = .ok (.iaload, 1) := by decide +kernel
theorem dX7_port_54 : decode cX7_port 54 = .ok (.aload_n 0, 1) := by decide +kernel
theorem dX7_port_55 : decode cX7_port 55 = .ok (.getfield 19, 3) := by decide +kernel
theorem dX7_port_58 : decode cX7_port 58 = .ok (.iload_n 1, 1) := by decide +kernel
theorem dX7_port_59 : decode cX7_port 59 = .ok (.iaload, 1) := by decide +kernel
theorem dX7_port_60 : decode cX7_port 60 = .ok (.iand, 1) := by decide +kernel
theorem dX7_port_61 : decode cX7_port 61 = .ok (.ireturn, 1) := by decide +kernel
theorem dX7_port_62 : decode cX7_port 62 = .ok (.aload_n 0, 1) := by decide +kernel
theorem dX7_port_63 : decode cX7_port 63 = .ok (.getfield 19, 3) := by decide +kernel
theorem dX7_port_66 : decode cX7_port 66 = .ok (.iload_n 1, 1) := by decide +kernel
theorem dX7_port_67 : decode cX7_port 67 = .ok (.iaload, 1) := by decide +kernel
theorem dX7_port_68 : decode cX7_port 68 = .ok (.ireturn, 1) := by decide +kernel
theorem dX7_port_69 : decode cX7_port 69 = .ok (.aload_n 0, 1) := by decide +kernel
theorem dX7_port_70 : decode cX7_port 70 = .ok (.getfield 22, 3) := by decide +kernel
theorem dX7_port_73 : decode cX7_port 73 = .ok (.iload_n 1, 1) := by decide +kernel
theorem dX7_port_74 : decode cX7_port 74 = .ok (.iaload, 1) := by decide +kernel
theorem dX7_port_75 : decode cX7_port 75 = .ok (.ireturn, 1) := by decide +kernel
theorem dX7_port_76 : decode cX7_port 76 = .ok (.aload_n 0, 1) := by decide +kernel
theorem dX7_port_77 : decode cX7_port 77 = .ok (.getfield 28, 3) := by decide +kernel
theorem dX7_port_80 : decode cX7_port 80 = .ok (.iload_n 1, 1) := by decide +kernel
theorem dX7_port_81 : decode cX7_port 81 = .ok (.iaload, 1) := by decide +kernel
theorem dX7_port_82 : decode cX7_port 82 = .ok (.ireturn, 1) := by decide +kernel
theorem dX7_port_83 : decode cX7_port 83 = .ok (.aload_n 0, 1) := by decide +kernel
theorem dX7_port_84 : decode cX7_port 84 = .ok (.getfield 31, 3) := by decide +kernel
theorem dX7_port_87 : decode cX7_port 87 = .ok (.iload_n 1, 1) := by decide +kernel
theorem dX7_port_88 : decode cX7_port 88 = .ok (.iaload, 1) := by decide +kernel
theorem dX7_port_89 : decode cX7_port 89 = .ok (.ireturn, 1) := by decide +kernel
theorem dX7_port_90 : decode cX7_port 90 = .ok (.aload_n 0, 1) := by decide +kernel
theorem dX7_port_91 : decode cX7_port 91 = .ok (.getfield 25, 3) := by decide +kernel
theorem dX7_port_94 : decode cX7_port 94 = .ok (.iload_n 1, 1) := by decide +kernel
theorem dX7_port_95 : decode cX7_port 95 = .ok (.iaload, 1) := by decide +kernel
theorem dX7_port_96 : decode cX7_port 96 = .ok (.ireturn, 1) := by decide +kernel
theorem dX7_port_97 : decode cX7_port 97 = .ok (.iconst (-1), 1) := by decide +kernel
theorem dX7_port_98 : decode cX7_port 98 = .ok (.ireturn, 1) := by decide +kernel
set_option maxRecDepth 20000 in
theorem ggX7_serial_X7_serialStatus : GoodIn wsX7_serial wsX7_serialStatus := goodIn_r _ [9, 10, 11, 12, 13, 14, 15, 8, 16, 17, 18, 19, 20, 21, 22, 23, 24, 25, 26, 27, 28, 29, 30, 31, 32, 33, 34, 35, 36, 37, 38, 39, 40, 41, 42, 43, 44, 45, 46, 47, 48, 49] rfl (by decide +kernel)
set_option maxRecDepth 20000 in
theorem gX7_serial_X7_serialStatus : GoodIn wsX7_serial (wsV RX7 99 RX7 yX7_serialStatus wsX7_serialStatus) := goodIn_app (goodIn_of _ (by decide +kernel)) ggX7_serial_X7_serialStatus
theorem dX7_serial_0 : decode cX7_serial 0 = .ok (.iload_n 1, 1) := by decide +kernel
theorem dX7_serial_1 : decode cX7_serial 1 = .ok (.ifCond .ne 10, 3) := by decide +kernel
theorem dX7_serial_4 : decode cX7_serial 4 = .ok (.aload_n 0, 1) := by decide +kernel
theorem dX7_serial_5 : decode cX7_serial 5 = .ok (.invokevirtual 99, 3) := by decide +kernel
theorem dX7_serial_8 : decode cX7_serial 8 = .ok (.goto 52, 3) := by decide +kernel
theorem dX7_serial_11 : decode cX7_serial 11 = .ok (.iload_n 1, 1) := by decide +kernel
theorem dX7_serial_12 : decode cX7_serial 12 = .ok (.iconst 1, 1) := by decide +kernel
theorem dX7_serial_13 : decode cX7_serial 13 = .ok (.if_icmp .ne 10, 3) := by decide +kernel
theorem dX7_serial_16 : decode cX7_serial 16 = .ok (.aload_n 0, 1) := by decide +kernel
theorem dX7_serial_17 : decode cX7_serial 17 = .ok (.getfield 70, 3) := by decide +kernel
theorem dX7_serial_20 : decode cX7_serial 20 = .ok (.goto 40, 3) := by decide +kernel
theorem dX7_serial_23 : decode cX7_serial 23 = .ok (.iload_n 1, 1) := by decide +kernel
theorem dX7_serial_24 : decode cX7_serial 24 = .ok (.iconst 2, 1) := by decide +kernel
theorem dX7_serial_25 : decode cX7_serial 25 = .ok (.if_icmp .ne 10, 3) := by decide +kernel
theorem dX7_serial_28 : decode cX7_serial 28 = .ok (.aload_n 0, 1) := by decide +kernel
theorem dX7_serial_29 : decode cX7_serial 29 = .ok (.getfield 73, 3) := by decide +kernel
theorem dX7_serial_32 : decode cX7_serial 32 = .ok (.goto 28, 3) := by decide +kernel
theorem dX7_serial_35 : decode cX7_serial 35 = .ok (.iload_n 1, 1) := by decide +kernel
theorem dX7_serial_36 : decode cX7_serial 36 = .ok (.iconst 3, 1) := by decide +kernel
theorem dX7_serial_37 : decode cX7_serial 37 = .ok (.if_icmp .ne 10, 3) := by decide +kernel
theorem dX7_serial_40 : decode cX7_serial 40 = .ok (.aload_n 0, 1) := by decide +kernel
theorem dX7_serial_41 : decode cX7_serial 41 = .ok (.getfield 61, 3) := by decide +kernel
theorem dX7_serial_44 : decode cX7_serial 44 = .ok (.goto 16, 3) := by decide +kernel
theorem dX7_serial_47 : decode cX7_serial 47 = .ok (.iload_n 1, 1) := by decide +kernel
theorem dX7_serial_48 : decode cX7_serial 48 = .ok (.iconst 4, 1) := by decide +kernel
theorem dX7_serial_49 : decode cX7_serial 49 = .ok (.if_icmp .ne 10, 3) := by decide +kernel
theorem dX7_serial_52 : decode cX7_serial 52 = .ok (.aload_n 0, 1) := by decide +kernel
theorem dX7_serial_53 : decode cX7_serial 53 = .ok (.getfield 64, 3) := by decide +kernel
theorem dX7_serial_56 : decode cX7_serial 56 = .ok (.goto 4, 3) := by decide +kernel
theorem dX7_serial_59 : decode cX7_serial 59 = .ok (.iconst (-1), 1) := by decide +kernel
theorem dX7_serial_60 : decode cX7_serial 60 = .ok (.ireturn, 1) := by decide +kernel
