set_option maxRecDepth 20000 in
theorem ggX3_doBetweenAccumulators_X0_decimalAdjusted : GoodIn wsX3_doBetweenAccumulators wsX0_decimalAdjusted := goodIn_r _ [28, 9, 29, 30, 31, 13, 32, 19, 20, 16, 17, 18, 33, 22, 23, 7, 24, 10, 11, 12, 14, 15, 48, 49] rfl (by decide +kernel)
set_option maxRecDepth 20000 in
theorem gX3_doBetweenAccumulators_X0_decimalAdjusted : GoodIn wsX3_doBetweenAccumulators (wsV RX3 129 RX0 yX0_decimalAdjusted wsX0_decimalAdjusted) := goodIn_app (goodIn_of _ (by decide +kernel)) ggX3_doBetweenAccumulators_X0_decimalAdjusted
set_option maxRecDepth 20000 in
theorem ggX3_doBetweenAccumulators_X0_sum : GoodIn wsX3_doBetweenAccumulators wsX0_sum := goodIn_r _ [37, 9, 20, 16, 17, 13, 18, 19, 10, 11, 12, 14, 15, 48, 49] rfl (by decide +kernel)
set_option maxRecDepth 20000 in
theorem gX3_doBetweenAccumulators_X0_sum : GoodIn wsX3_doBetweenAccumulators (wsV RX3 132 RX0 yX0_sum wsX0_sum) := goodIn_app (goodIn_of _ (by decide +kernel)) ggX3_doBetweenAccumulators_X0_sum
theorem dX3_doBetweenAccumulators_0 : decode cX3_doBetweenAccumulators 0 = .ok (.iload_n 1, 1) := by decide +kernel
theorem dX3_doBetweenAccumulators_1 : decode cX3_doBetweenAccumulators 1 = .ok (.tableswitch 183 16 27 #[63, 86, 183, 183, 183, 183, 106, 124, 183, 142, 183, 160], 63) := by decide +kernel
theorem dX3_doBetweenAccumulators_64 : decode cX3_doBetweenAccumulators 64 = .ok (.aload_n 0, 1) := by decide +kernel
theorem dX3_doBetweenAccumulators_65 : decode cX3_doBetweenAccumulators 65 = .ok (.aload_n 0, 1) := by decide +kernel
theorem dX3_doBetweenAccumulators_66 : decode cX3_doBetweenAccumulators 66 = .ok (.getfield 25, 3) := by decide +kernel
theorem dX3_doBetweenAccumulators_69 : decode cX3_doBetweenAccumulators 69 = .ok (.aload_n 0, 1) := by decide +kernel
theorem dX3_doBetweenAccumulators_70 : decode cX3_doBetweenAccumulators 70 = .ok (.getfield 74, 3) := by decide +kernel
theorem dX3_doBetweenAccumulators_73 : decode cX3_doBetweenAccumulators 73 = .ok (.aload_n 0, 1) := by decide +kernel
theorem dX3_doBetweenAccumulators_74 : decode cX3_doBetweenAccumulators 74 = .ok (.getfield 81, 3) := by decide +kernel
theorem dX3_doBetweenAccumulators_77 : decode cX3_doBetweenAccumulators 77 = .ok (.iconst 0, 1) := by decide +kernel
theorem dX3_doBetweenAccumulators_78 : decode cX3_doBetweenAccumulators 78 = .ok (.invokevirtual 122, 3) := by decide +kernel
theorem dX3_doBetweenAccumulators_81 : decode cX3_doBetweenAccumulators 81 = .ok (.putfield 74, 3) := by decide +kernel
theorem dX3_doBetweenAccumulators_84 : decode cX3_doBetweenAccumulators 84 = .ok (.goto 100, 3) := by decide +kernel
theorem dX3_doBetweenAccumulators_87 : decode cX3_doBetweenAccumulators 87 = .ok (.aload_n 0, 1) := by decide +kernel
theorem dX3_doBetweenAccumulators_88 : decode cX3_doBetweenAccumulators 88 = .ok (.getfield 25, 3) := by decide +kernel
theorem dX3_doBetweenAccumulators_91 : decode cX3_doBetweenAccumulators 91 = .ok (.aload_n 0, 1) := by decide +kernel
theorem dX3_doBetweenAccumulators_92 : decode cX3_doBetweenAccumulators 92 = .ok (.getfield 74, 3) := by decide +kernel
theorem dX3_doBetweenAccumulators_95 : decode cX3_doBetweenAccumulators 95 = .ok (.aload_n 0, 1) := by decide +kernel
theorem dX3_doBetweenAccumulators_96 : decode cX3_doBetweenAccumulators 96 = .ok (.getfield 81, 3) := by decide +kernel
theorem dX3_doBetweenAccumulators_99 : decode cX3_doBetweenAccumulators 99 = .ok (.iconst 0, 1) := by decide +kernel
theorem dX3_doBetweenAccumulators_100 : decode cX3_doBetweenAccumulators 100 = .ok (.invokevirtual 122, 3) := by decide +kernel
theorem dX3_doBetweenAccumulators_103 : decode cX3_doBetweenAccumulators 103 = .ok (.pop, 1) := by decide +kernel
theorem dX3_doBetweenAccumulators_104 : decode cX3_doBetweenAccumulators 104 = .ok (.goto 80, 3) := by decide +kernel
theorem dX3_doBetweenAccumulators_107 : decode cX3_doBetweenAccumulators 107 = .ok (.aload_n 0, 1) := by decide +kernel
theorem dX3_doBetweenAccumulators_108 : decode cX3_doBetweenAccumulators 108 = .ok (.aload_n 0, 1) := by decide +kernel
theorem dX3_doBetweenAccumulators_109 : decode cX3_doBetweenAccumulators 109 = .ok (.getfield 25, 3) := by decide +kernel
theorem dX3_doBetweenAccumulators_112 : decode cX3_doBetweenAccumulators 112 = .ok (.aload_n 0, 1) := by decide +kernel
theorem dX3_doBetweenAccumulators_113 : decode cX3_doBetweenAccumulators 113 = .ok (.getfield 74, 3) := by decide +kernel
theorem dX3_doBetweenAccumulators_116 : decode cX3_doBetweenAccumulators 116 = .ok (.invokevirtual 126, 3) := by decide +kernel
theorem dX3_doBetweenAccumulators_119 : decode cX3_doBetweenAccumulators 119 = .ok (.putfield 81, 3) := by decide +kernel
theorem dX3_doBetweenAccumulators_122 : decode cX3_doBetweenAccumulators 122 = .ok (.goto 62, 3) := by decide +kernel
theorem dX3_doBetweenAccumulators_125 : decode cX3_doBetweenAccumulators 125 = .ok (.aload_n 0, 1) := by decide +kernel
theorem dX3_doBetweenAccumulators_126 : decode cX3_doBetweenAccumulators 126 = .ok (.aload_n 0, 1) := by decide +kernel
theorem dX3_doBetweenAccumulators_127 : decode cX3_doBetweenAccumulators 127 = .ok (.getfield 25, 3) := by decide +kernel
theorem dX3_doBetweenAccumulators_130 : decode cX3_doBetweenAccumulators 130 = .ok (.aload_n 0, 1) := by decide +kernel
theorem dX3_doBetweenAccumulators_131 : decode cX3_doBetweenAccumulators 131 = .ok (.getfield 81, 3) := by decide +kernel
theorem dX3_doBetweenAccumulators_134 : decode cX3_doBetweenAccumulators 134 = .ok (.invokevirtual 126, 3) := by decide +kernel
theorem dX3_doBetweenAccumulators_137 : decode cX3_doBetweenAccumulators 137 = .ok (.putfield 74, 3) := by decide +kernel
theorem dX3_doBetweenAccumulators_140 : decode cX3_doBetweenAccumulators 140 = .ok (.goto 44, 3) := by decide +kernel
theorem dX3_doBetweenAccumulators_143 : decode cX3_doBetweenAccumulators 143 = .ok (.aload_n 0, 1) := by decide +kernel
theorem dX3_doBetweenAccumulators_144 : decode cX3_doBetweenAccumulators 144 = .ok (.aload_n 0, 1) := by decide +kernel
theorem dX3_doBetweenAccumulators_145 : decode cX3_doBetweenAccumulators 145 = .ok (.getfield 25, 3) := by decide +kernel
theorem dX3_doBetweenAccumulators_148 : decode cX3_doBetweenAccumulators 148 = .ok (.aload_n 0, 1) := by decide +kernel
theorem dX3_doBetweenAccumulators_149 : decode cX3_doBetweenAccumulators 149 = .ok (.getfield 74, 3) := by decide +kernel
theorem dX3_doBetweenAccumulators_152 : decode cX3_doBetweenAccumulators 152 = .ok (.invokevirtual 129, 3) := by decide +kernel
theorem dX3_doBetweenAccumulators_155 : decode cX3_doBetweenAccumulators 155 = .ok (.putfield 74, 3) := by decide +kernel
theorem dX3_doBetweenAccumulators_158 : decode cX3_doBetweenAccumulators 158 = .ok (.goto 26, 3) := by decide +kernel
theorem dX3_doBetweenAccumulators_161 : decode cX3_doBetweenAccumulators 161 = .ok (.aload_n 0, 1) := by decide +kernel
theorem dX3_doBetweenAccumulators_162 : decode cX3_doBetweenAccumulators 162 = .ok (.aload_n 0, 1) := by decide +kernel
theorem dX3_doBetweenAccumulators_163 : decode cX3_doBetweenAccumulators 163 = .ok (.getfield 25, 3) := by decide +kernel
theorem dX3_doBetweenAccumulators_166 : decode cX3_doBetweenAccumulators 166 = .ok (.aload_n 0, 1) := by decide +kernel
theorem dX3_doBetweenAccumulators_167 : decode cX3_doBetweenAccumulators 167 = .ok (.getfield 74, 3) := by decide +kernel
theorem dX3_doBetweenAccumulators_170 : decode cX3_doBetweenAccumulators 170 = .ok (.aload_n 0, 1) := by decide +kernel
theorem dX3_doBetweenAccumulators_171 : decode cX3_doBetweenAccumulators 171 = .ok (.getfield 81, 3) := by decide +kernel
theorem dX3_doBetweenAccumulators_174 : decode cX3_doBetweenAccumulators 174 = .ok (.iconst 0, 1) := by decide +kernel
theorem dX3_doBetweenAccumulators_175 : decode cX3_doBetweenAccumulators 175 = .ok (.invokevirtual 132, 3) := by decide +kernel
theorem dX3_doBetweenAccumulators_178 : decode cX3_doBetweenAccumulators 178 = .ok (.putfield 74, 3) := by decide +kernel
theorem dX3_doBetweenAccumulators_181 : decode cX3_doBetweenAccumulators 181 = .ok (.goto 3, 3) := by decide +kernel
theorem dX3_doBetweenAccumulators_184 : decode cX3_doBetweenAccumulators 184 = .ok (.return_, 1) := by decide +kernel
set_option maxRecDepth 20000 in
theorem ggX3_branch_X1_read : GoodIn wsX3_branch wsX1_read := goodIn_r _ [8, 9, 10, 11, 12, 13, 14, 15, 16, 17, 18, 19, 20, 21, 22, 23, 24, 25, 26, 27, 28, 29, 30, 31, 32, 33, 34, 35, 36, 37, 38, 39, 40, 41, 42, 43, 44, 45, 46, 47, 48, 49, 50, 51, 52, 53, 7, 54, 55, 56, 57, 58, 59, 86, 87, 88, 89, 90, 91, 92, 93, 94, 95, 96, 97, 98, 99, 100, 101, 102, 103, 104, 105, 106, 107, 108, 109, 110, 111, 112, 113] rfl (by decide +kernel)
set_option maxRecDepth 20000 in
theorem gX3_branch_X1_read : GoodIn wsX3_branch (wsV RX3 52 RX1 yX1_read wsX1_read) := goodIn_app (goodIn_of _ (by decide +kernel)) ggX3_branch_X1_read
set_option maxRecDepth 20000 in
theorem ggX3_branch_X3_signed : GoodIn wsX3_branch wsX3_signed := goodIn_r _ [64] rfl (by decide +kernel)
set_option maxRecDepth 20000 in
theorem gX3_branch_X3_signed : GoodIn wsX3_branch (wsV RX3 135 RX3 yX3_signed wsX3_signed) := goodIn_app (goodIn_of _ (by decide +kernel)) ggX3_branch_X3_signed
set_option maxRecDepth 20000 in
theorem ggX3_branch_X3_isEvenBranchTaken : GoodIn wsX3_branch wsX3_isEvenBranchTaken := goodIn_r _ [68, 69, 70, 71, 72, 73, 74, 75, 76, 77, 78, 79, 80, 81, 82, 83, 84, 85, 114] rfl (by decide +kernel)
set_option maxRecDepth 20000 in
theorem gX3_branch_X3_isEvenBranchTaken : GoodIn wsX3_branch (wsV RX3 138 RX3 yX3_isEvenBranchTaken wsX3_isEvenBranchTaken) := goodIn_app (goodIn_of _ (by decide +kernel)) ggX3_branch_X3_isEvenBranchTaken
theorem dX3_branch_0 : decode cX3_branch 0 = .ok (.aload_n 0, 1) := by decide +kernel
theorem dX3_branch_1 : decode cX3_branch 1 = .ok (.aload_n 0, 1) := by decide +kernel
theorem dX3_branch_2 : decode cX3_branch 2 = .ok (.getfield 7, 3) := by decide +kernel
theorem dX3_branch_5 : decode cX3_branch 5 = .ok (.aload_n 0, 1) := by decide +kernel
theorem dX3_branch_6 : decode cX3_branch 6 = .ok (.getfield 48, 3) := by decide +kernel
theorem dX3_branch_9 : decode cX3_branch 9 = .ok (.invokevirtual 52, 3) := by decide +kernel
theorem dX3_branch_12 : decode cX3_branch 12 = .ok (.invokevirtual 135, 3) := by decide +kernel
theorem dX3_branch_15 : decode cX3_branch 15 = .ok (.istore_n 2, 1) := by decide +kernel
theorem dX3_branch_16 : decode cX3_branch 16 = .ok (.aload_n 0, 1) := by decide +kernel
theorem dX3_branch_17 : decode cX3_branch 17 = .ok (.aload_n 0, 1) := by decide +kernel
theorem dX3_branch_18 : decode cX3_branch 18 = .ok (.getfield 48, 3) := by decide +kernel
theorem dX3_branch_21 : decode cX3_branch 21 = .ok (.iconst 1, 1) := by decide +kernel
theorem dX3_branch_22 : decode cX3_branch 22 = .ok (.iadd, 1) := by decide +kernel
theorem dX3_branch_23 : decode cX3_branch 23 = .ok (.ldc 61, 2) := by decide +kernel
theorem dX3_branch_25 : decode cX3_branch 25 = .ok (.iand, 1) := by decide +kernel
theorem dX3_branch_26 : decode cX3_branch 26 = .ok (.putfield 48, 3) := by decide +kernel
theorem dX3_branch_29 : decode cX3_branch 29 = .ok (.iload_n 1, 1) := by decide +kernel
theorem dX3_branch_30 : decode cX3_branch 30 = .ok (.iconst 1, 1) := by decide +kernel
theorem dX3_branch_31 : decode cX3_branch 31 = .ok (.iand, 1) := by decide +kernel
theorem dX3_branch_32 : decode cX3_branch 32 = .ok (.ifCond .eq 7, 3) := by decide +kernel
theorem dX3_branch_35 : decode cX3_branch 35 = .ok (.iconst 1, 1) := by decide +kernel
theorem dX3_branch_36 : decode cX3_branch 36 = .ok (.goto 4, 3) := by decide +kernel
theorem dX3_branch_39 : decode cX3_branch 39 = .ok (.iconst 0, 1) := by decide +kernel
theorem dX3_branch_40 : decode cX3_branch 40 = .ok (.istore_n 3, 1) := by decide +kernel
theorem dX3_branch_41 : decode cX3_branch 41 = .ok (.aload_n 0, 1) := by decide +kernel
theorem dX3_branch_42 : decode cX3_branch 42 = .ok (.iload_n 1, 1) := by decide +kernel
theorem dX3_branch_43 : decode cX3_branch 43 = .ok (.iconst 1, 1) := by decide +kernel
theorem dX3_branch_44 : decode cX3_branch 44 = .ok (.ishr, 1) := by decide +kernel
theorem dX3_branch_45 : decode cX3_branch 45 = .ok (.invokevirtual 138, 3) := by decide +kernel
theorem dX3_branch_48 : decode cX3_branch 48 = .ok (.iload_n 3, 1) := by decide +kernel
theorem dX3_branch_49 : decode cX3_branch 49 = .ok (.if_icmp .eq 16, 3) := by decide +kernel
theorem dX3_branch_52 : decode cX3_branch 52 = .ok (.aload_n 0, 1) := by decide +kernel
theorem dX3_branch_53 : decode cX3_branch 53 = .ok (.aload_n 0, 1) := by decide +kernel
theorem dX3_branch_54 : decode cX3_branch 54 = .ok (.getfield 48, 3) := by decide +kernel
theorem dX3_branch_57 : decode cX3_branch 57 = .ok (.iload_n 2, 1) := by decide +kernel
theorem dX3_branch_58 : decode cX3_branch 58 = .ok (.iadd, 1) := by decide +kernel
theorem dX3_branch_59 : decode cX3_branch 59 = .ok (.ldc 61, 2) := by decide +kernel
theorem dX3_branch_61 : decode cX3_branch 61 = .ok (.iand, 1) := by decide +kernel
theorem dX3_branch_62 : decode cX3_branch 62 = .ok (.putfield 48, 3) := by decide +kernel
theorem dX3_branch_65 : decode cX3_branch 65 = .ok (.return_, 1) := by decide +kernel
theorem dX3_signed_0 : decode cX3_signed 0 = .ok (.iload_n 1, 1) := by decide +kernel
theorem dX3_signed_1 : decode cX3_signed 1 = .ok (.sipush 128, 3) := by decide +kernel
theorem dX3_signed_4 : decode cX3_signed 4 = .ok (.if_icmp .ge 7, 3) := by decide +kernel
theorem dX3_signed_7 : decode cX3_signed 7 = .ok (.iload_n 1, 1) := by decide +kernel
theorem dX3_signed_8 : decode cX3_signed 8 = .ok (.goto 8, 3) := by decide +kernel
theorem dX3_signed_11 : decode cX3_signed 11 = .ok (.iload_n 1, 1) := by decide +kernel
theorem dX3_signed_12 : decode cX3_signed 12 = .ok (.sipush 256, 3) := by decide +kernel
theorem dX3_signed_15 : decode cX3_signed 15 = .ok (.isub, 1) := by decide +kernel
theorem dX3_signed_16 : decode cX3_signed 16 = .ok (.ireturn, 1) := by decide +kernel
set_option maxRecDepth 20000 in
theorem ggX3_isEvenBranchTaken_X2_has : GoodIn wsX3_isEvenBranchTaken wsX2_has := goodIn_r _ [6, 7, 18] rfl (by decide +kernel)
set_option maxRecDepth 20000 in
theorem gX3_isEvenBranchTaken_X2_has : GoodIn wsX3_isEvenBranchTaken (wsV RX3 41 RX2 yX2_has wsX2_has) := goodIn_app (goodIn_of _ (by decide +kernel)) ggX3_isEvenBranchTaken_X2_has
theorem dX3_isEvenBranchTaken_0 : decode cX3_isEvenBranchTaken 0 = .ok (.aload_n 0, 1) := by decide +kernel
theorem dX3_isEvenBranchTaken_1 : decode cX3_isEvenBranchTaken 1 = .ok (.getfield 16, 3) := by decide +kernel
theorem dX3_isEvenBranchTaken_4 : decode cX3_isEvenBranchTaken 4 = .ok (.bipush 8, 2) := by decide +kernel
theorem dX3_isEvenBranchTaken_6 : decode cX3_isEvenBranchTaken 6 = .ok (.invokevirtual 41, 3) := by decide +kernel
theorem dX3_isEvenBranchTaken_9 : decode cX3_isEvenBranchTaken 9 = .ok (.aload_n 0, 1) := by decide +kernel
theorem dX3_isEvenBranchTaken_10 : decode cX3_isEvenBranchTaken 10 = .ok (.getfield 16, 3) := by decide +kernel
theorem dX3_isEvenBranchTaken_13 : decode cX3_isEvenBranchTaken 13 = .ok (.iconst 2, 1) := by decide +kernel
theorem dX3_isEvenBranchTaken_14 : decode cX3_isEvenBranchTaken 14 = .ok (.invokevirtual 41, 3) := by decide +kernel
theorem dX3_isEvenBranchTaken_17 : decode cX3_isEvenBranchTaken 17 = .ok (.if_icmp .ne 7, 3) := by decide +kernel
theorem dX3_isEvenBranchTaken_20 : decode cX3_isEvenBranchTaken 20 = .ok (.iconst 1, 1) := by decide +kernel
theorem dX3_isEvenBranchTaken_21 : decode cX3_isEvenBranchTaken 21 = .ok (.goto 4, 3) := by decide +kernel
theorem dX3_isEvenBranchTaken_24 : decode cX3_isEvenBranchTaken 24 = .ok (.iconst 0, 1) := by decide +kernel
theorem dX3_isEvenBranchTaken_25 : decode cX3_isEvenBranchTaken 25 = .ok (.istore_n 2, 1) := by decide +kernel
theorem dX3_isEvenBranchTaken_26 : decode cX3_isEvenBranchTaken 26 = .ok (.iload_n 1, 1) := by decide +kernel
theorem dX3_isEvenBranchTaken_27 : decode cX3_isEvenBranchTaken 27 = .ok (.tableswitch 150 1 7 #[41, 58, 75, 92, 109, 127, 129], 41) := by decide +kernel
theorem dX3_isEvenBranchTaken_68 : decode cX3_isEvenBranchTaken 68 = .ok (.aload_n 0, 1) := by decide +kernel
theorem dX3_isEvenBranchTaken_69 : decode cX3_isEvenBranchTaken 69 = .ok (.getfield 16, 3) := by decide +kernel
theorem dX3_isEvenBranchTaken_72 : decode cX3_isEvenBranchTaken 72 = .ok (.iconst 5, 1) := by decide +kernel
theorem dX3_isEvenBranchTaken_73 : decode cX3_isEvenBranchTaken 73 = .ok (.invokevirtual 41, 3) := by decide +kernel
theorem dX3_isEvenBranchTaken_76 : decode cX3_isEvenBranchTaken 76 = .ok (.ifCond .ne 7, 3) := by decide +kernel
theorem dX3_isEvenBranchTaken_79 : decode cX3_isEvenBranchTaken 79 = .ok (.iconst 1, 1) := by decide +kernel
theorem dX3_isEvenBranchTaken_80 : decode cX3_isEvenBranchTaken 80 = .ok (.goto 4, 3) := by decide +kernel
theorem dX3_isEvenBranchTaken_83 : decode cX3_isEvenBranchTaken 83 = .ok (.iconst 0, 1) := by decide +kernel
theorem dX3_isEvenBranchTaken_84 : decode cX3_isEvenBranchTaken 84 = .ok (.ireturn, 1) := by decide +kernel
theorem dX3_isEvenBranchTaken_85 : decode cX3_isEvenBranchTaken 85 = .ok (.aload_n 0, 1) := by decide +kernel
theorem dX3_isEvenBranchTaken_86 : decode cX3_isEvenBranchTaken 86 = .ok (.getfield 16, 3) := by decide +kernel
theorem dX3_isEvenBranchTaken_89 : decode cX3_isEvenBranchTaken 89 = .ok (.iconst 1, 1) := by decide +kernel
theorem dX3_isEvenBranchTaken_90 : decode cX3_isEvenBranchTaken 90 = .ok (.invokevirtual 41, 3) := by decide +kernel
theorem dX3_isEvenBranchTaken_93 : decode cX3_isEvenBranchTaken 93 = .ok (.ifCond .ne 7, 3) := by decide +kernel
theorem dX3_isEvenBranchTaken_96 : decode cX3_isEvenBranchTaken 96 = .ok (.iconst 1, 1) := by decide +kernel
theorem dX3_isEvenBranchTaken_97 : decode cX3_isEvenBranchTaken 97 = .ok (.goto 4, 3) := by decide +kernel
theorem dX3_isEvenBranchTaken_100 : decode cX3_isEvenBranchTaken 100 = .ok (.iconst 0, 1) := by decide +kernel
theorem dX3_isEvenBranchTaken_101 : decode cX3_isEvenBranchTaken 101 = .ok (.ireturn, 1) := by decide +kernel
theorem dX3_isEvenBranchTaken_102 : decode cX3_isEvenBranchTaken 102 = .ok (.aload_n 0, 1) := by decide +kernel
theorem dX3_isEvenBranchTaken_103 : decode cX3_isEvenBranchTaken 103 = .ok (.getfield 16, 3) := by decide +kernel
theorem dX3_isEvenBranchTaken_106 : decode cX3_isEvenBranchTaken 106 = .ok (.iconst 4, 1) := by decide +kernel
theorem dX3_isEvenBranchTaken_107 : decode cX3_isEvenBranchTaken 107 = .ok (.invokevirtual 41, 3) := by decide +kernel
theorem dX3_isEvenBranchTaken_110 : decode cX3_isEvenBranchTaken 110 = .ok (.ifCond .ne 7, 3) := by decide +kernel
theorem dX3_isEvenBranchTaken_113 : decode cX3_isEvenBranchTaken 113 = .ok (.iconst 1, 1) := by decide +kernel
theorem dX3_isEvenBranchTaken_114 : decode cX3_isEvenBranchTaken 114 = .ok (.goto 4, 3) := by decide +kernel
theorem dX3_isEvenBranchTaken_117 : decode cX3_isEvenBranchTaken 117 = .ok (.iconst 0, 1) := by decide +kernel
theorem dX3_isEvenBranchTaken_118 : decode cX3_isEvenBranchTaken 118 = .ok (.ireturn, 1) := by decide +kernel
theorem dX3_isEvenBranchTaken_119 : decode cX3_isEvenBranchTaken 119 = .ok (.aload_n 0, 1) := by decide +kernel
theorem dX3_isEvenBranchTaken_120 : decode cX3_isEvenBranchTaken 120 = .ok (.getfield 16, 3) := by decide +kernel
theorem dX3_isEvenBranchTaken_123 : decode cX3_isEvenBranchTaken 123 = .ok (.iconst 2, 1) := by decide +kernel
theorem dX3_isEvenBranchTaken_124 : decode cX3_isEvenBranchTaken 124 = .ok (.invokevirtual 41, 3) := by decide +kernel
theorem dX3_isEvenBranchTaken_127 : decode cX3_isEvenBranchTaken 127 = .ok (.ifCond .ne 7, 3) := by decide +kernel
theorem dX3_isEvenBranchTaken_130 : decode cX3_isEvenBranchTaken 130 = .ok (.iconst 1, 1) := by decide +kernel
theorem dX3_isEvenBranchTaken_131 : decode cX3_isEvenBranchTaken 131 = .ok (.goto 4, 3) := by decide +kernel
theorem dX3_isEvenBranchTaken_134 : decode cX3_isEvenBranchTaken 134 = .ok (.iconst 0, 1) := by decide +kernel
theorem dX3_isEvenBranchTaken_135 : decode cX3_isEvenBranchTaken 135 = .ok (.ireturn, 1) := by decide +kernel
theorem dX3_isEvenBranchTaken_136 : decode cX3_isEvenBranchTaken 136 = .ok (.aload_n 0, 1) := by decide +kernel
theorem dX3_isEvenBranchTaken_137 : decode cX3_isEvenBranchTaken 137 = .ok (.getfield 16, 3) := by decide +kernel
theorem dX3_isEvenBranchTaken_140 : decode cX3_isEvenBranchTaken 140 = .ok (.bipush 8, 2) := by decide +kernel
theorem dX3_isEvenBranchTaken_142 : decode cX3_isEvenBranchTaken 142 = .ok (.invokevirtual 41, 3) := by decide +kernel
theorem dX3_isEvenBranchTaken_145 : decode cX3_isEvenBranchTaken 145 = .ok (.ifCond .ne 7, 3) := by decide +kernel
theorem dX3_isEvenBranchTaken_148 : decode cX3_isEvenBranchTaken 148 = .ok (.iconst 1, 1) := by decide +kernel
theorem dX3_isEvenBranchTaken_149 : decode cX3_isEvenBranchTaken 149 = .ok (.goto 4, 3) := by decide +kernel
theorem dX3_isEvenBranchTaken_152 : decode cX3_isEvenBranchTaken 152 = .ok (.iconst 0, 1) := by decide +kernel
theorem dX3_isEvenBranchTaken_153 : decode cX3_isEvenBranchTaken 153 = .ok (.ireturn, 1) := by decide +kernel
theorem dX3_isEvenBranchTaken_154 : decode cX3_isEvenBranchTaken 154 = .ok (.iload_n 2, 1) := by decide +kernel
theorem dX3_isEvenBranchTaken_155 : decode cX3_isEvenBranchTaken 155 = .ok (.ireturn, 1) := by decide +kernel
theorem dX3_isEvenBranchTaken_156 : decode cX3_isEvenBranchTaken 156 = .ok (.aload_n 0, 1) := by decide +kernel
theorem dX3_isEvenBranchTaken_157 : decode cX3_isEvenBranchTaken 157 = .ok (.getfield 16, 3) := by decide +kernel
theorem dX3_isEvenBranchTaken_160 : decode cX3_isEvenBranchTaken 160 = .ok (.iconst 4, 1) := by decide +kernel
theorem dX3_isEvenBranchTaken_161 : decode cX3_isEvenBranchTaken 161 = .ok (.invokevirtual 41, 3) := by decide +kernel
theorem dX3_isEvenBranchTaken_164 : decode cX3_isEvenBranchTaken 164 = .ok (.ifCond .ne 11, 3) := by decide +kernel
theorem dX3_isEvenBranchTaken_167 : decode cX3_isEvenBranchTaken 167 = .ok (.iload_n 2, 1) := by decide +kernel
theorem dX3_isEvenBranchTaken_168 : decode cX3_isEvenBranchTaken 168 = .ok (.ifCond .eq 7, 3) := by decide +kernel
theorem dX3_isEvenBranchTaken_171 : decode cX3_isEvenBranchTaken 171 = .ok (.iconst 1, 1) := by decide +kernel
theorem dX3_isEvenBranchTaken_172 : decode cX3_isEvenBranchTaken 172 = .ok (.goto 4, 3) := by decide +kernel
theorem dX3_isEvenBranchTaken_175 : decode cX3_isEvenBranchTaken 175 = .ok (.iconst 0, 1) := by decide +kernel
theorem dX3_isEvenBranchTaken_176 : decode cX3_isEvenBranchTaken 176 = .ok (.ireturn, 1) := by decide +kernel
theorem dX3_isEvenBranchTaken_177 : decode cX3_isEvenBranchTaken 177 = .ok (.iconst 1, 1) := by decide +kernel
theorem dX3_isEvenBranchTaken_178 : decode cX3_isEvenBranchTaken 178 = .ok (.ireturn, 1) := by decide +kernel
set_option maxRecDepth 20000 in
theorem ggX3_doStack_X3_pull : GoodIn wsX3_doStack wsX3_pull := goodIn_r _ [13, 1, 2, 14, 15, 16, 17, 18, 19, 20, 21, 22, 23, 24, 25, 26, 27, 28, 29, 30, 31, 32, 33, 34, 35, 36, 37, 38, 39, 40, 41, 42, 43, 44, 45, 46, 47, 48, 49, 50, 51, 52, 53, 54, 55, 56, 57, 58, 59, 60, 61, 62, 63, 64, 65, 66, 67, 68, 69, 70, 142, 143, 144, 145, 146, 147, 148, 149, 150, 151, 152, 153, 154, 155, 156, 157, 158, 159, 160, 161, 162, 163, 164, 165, 166, 167, 168, 169, 170, 171, 172, 173, 174, 175, 176, 177, 178, 179] rfl (by decide +kernel)
set_option maxRecDepth 20000 in
theorem gX3_doStack_X3_pull : GoodIn wsX3_doStack (wsV RX3 144 RX3 yX3_pull wsX3_pull) := goodIn_app (goodIn_of _ (by decide +kernel)) ggX3_doStack_X3_pull
set_option maxRecDepth 20000 in
theorem ggX3_doStack_X3_push : GoodIn wsX3_doStack wsX3_push := goodIn_r _ [74, 14, 1, 2, 75, 76, 77, 18, 78, 20, 21, 23, 24, 25, 79, 80, 81, 31, 82, 33, 34, 37, 35, 36, 39, 40, 41, 42, 83, 84, 85, 86, 87, 88, 89, 90, 91, 92, 93, 46, 94, 56, 55, 48, 50, 49, 95, 96, 97, 98, 99, 100, 101, 62, 63, 64, 65, 142, 143, 144, 145, 146, 147, 148, 149, 150, 151, 152, 153, 154, 155, 156, 157, 158, 159, 160, 161, 162, 163, 164, 165, 166, 167, 168, 169, 170, 171, 172, 173, 174, 175, 176, 177, 178, 179] rfl (by decide +kernel)
set_option maxRecDepth 20000 in
theorem gX3_doStack_X3_push : GoodIn wsX3_doStack (wsV RX3 147 RX3 yX3_push wsX3_push) := goodIn_app (goodIn_of _ (by decide +kernel)) ggX3_doStack_X3_push
set_option maxRecDepth 20000 in
theorem ggX3_doStack_X3_pullWord : GoodIn wsX3_doStack wsX3_pullWord := goodIn_r _ [105, 14, 1, 2, 15, 16, 17, 18, 19, 20, 21, 22, 23, 24, 25, 26, 27, 28, 29, 30, 31, 32, 33, 34, 35, 36, 37, 38, 39, 40, 41, 42, 43, 44, 45, 46, 47, 48, 49, 50, 51, 52, 53, 54, 55, 56, 57, 58, 59, 60, 61, 62, 63, 64, 65, 66, 67, 68, 69, 70, 142, 143, 144, 145, 146, 147, 148, 149, 150, 151, 152, 153, 154, 155, 156, 157, 158, 159, 160, 161, 162, 163, 164, 165, 166, 167, 168, 169, 170, 171, 172, 173, 174, 175, 176, 177, 178, 179] rfl (by decide +kernel)
set_option maxRecDepth 20000 in
theorem gX3_doStack_X3_pullWord : GoodIn wsX3_doStack (wsV RX3 150 RX3 yX3_pullWord wsX3_pullWord) := goodIn_app (goodIn_of _ (by decide +kernel)) ggX3_doStack_X3_pullWord
set_option maxRecDepth 20000 in
theorem ggX3_doStack_X3_pullAll : GoodIn wsX3_doStack wsX3_pullAll := goodIn_r _ [109, 110, 5, 4, 3, 6, 9, 10, 11, 12, 13, 1, 2, 14, 15, 16, 17, 18, 19, 20, 21, 22, 23, 24, 25, 26, 27, 28, 29, 30, 31, 32, 33, 34, 35, 36, 37, 38, 39, 40, 41, 42, 43, 44, 45, 46, 47, 48, 49, 50, 51, 52, 53, 54, 55, 56, 57, 58, 59, 60, 61, 62, 63, 64, 65, 66, 67, 68, 69, 70, 111, 112, 113, 114, 115, 116, 102, 103, 104, 105, 142, 143, 144, 145, 146, 147, 148, 149, 150, 151, 152, 153, 154, 155, 156, 157, 158, 159, 160, 161, 162, 163, 164, 165, 166, 167, 168, 169, 170, 171, 172, 173, 174, 175, 176, 177, 178, 179, 180] rfl (by decide +kernel)
set_option maxRecDepth 20000 in
theorem gX3_doStack_X3_pullAll : GoodIn wsX3_doStack (wsV RX3 153 RX3 yX3_pullAll wsX3_pullAll) := goodIn_app (goodIn_of _ (by decide +kernel)) ggX3_doStack_X3_pullAll
set_option maxRecDepth 20000 in
theorem ggX3_doStack_X3_pushAll : GoodIn wsX3_doStack wsX3_pushAll := goodIn_r _ [120, 6, 3, 4, 5, 110, 121, 122, 123, 12, 124, 14, 1, 2, 75, 76, 77, 18, 78, 20, 21, 23, 24, 25, 79, 80, 81, 31, 82, 33, 34, 37, 35, 36, 39, 40, 41, 42, 83, 84, 85, 86, 87, 88, 89, 90, 91, 92, 93, 46, 94, 56, 55, 48, 50, 49, 95, 96, 97, 98, 99, 100, 101, 62, 63, 64, 65, 71, 72, 73, 74, 125, 126, 127, 114, 128, 116, 142, 143, 144, 145, 146, 147, 148, 149, 150, 151, 152, 153, 154, 155, 156, 157, 158, 159, 160, 161, 162, 163, 164, 165, 166, 167, 168, 169, 170, 171, 172, 173, 174, 175, 176, 177, 178, 179, 180] rfl (by decide +kernel)
set_option maxRecDepth 20000 in
theorem gX3_doStack_X3_pushAll : GoodIn wsX3_doStack (wsV RX3 94 RX3 yX3_pushAll wsX3_pushAll) := goodIn_app (goodIn_of _ (by decide +kernel)) ggX3_doStack_X3_pushAll
set_option maxRecDepth 20000 in
theorem ggX3_doStack_X3_goThrough : GoodIn wsX3_doStack wsX3_goThrough := goodIn_r _ [132, 110, 14, 6, 133, 134, 135, 114, 136, 116, 137, 138, 139, 18, 140, 141, 16, 17, 19, 20, 21, 22, 23, 24, 25, 26, 27, 28, 29, 30, 31, 32, 33, 34, 35, 36, 37, 38, 39, 40, 41, 42, 43, 44, 45, 46, 47, 48, 49, 50, 51, 52, 53, 54, 55, 56, 57, 58, 59, 60, 61, 62, 63, 64, 65, 66, 67, 68, 69, 70, 142, 143, 144, 145, 146, 147, 148, 149, 150, 151, 180, 152, 153, 154, 155, 156, 157, 158, 159, 160, 161, 162, 163, 164, 165, 166, 167, 168, 169, 170, 171, 172, 173, 174, 175, 176, 177, 178, 179] rfl (by decide +kernel)
set_option maxRecDepth 20000 in
theorem gX3_doStack_X3_goThrough : GoodIn wsX3_doStack (wsV RX3 30 RX3 yX3_goThrough wsX3_goThrough) := goodIn_app (goodIn_of _ (by decide +kernel)) ggX3_doStack_X3_goThrough
theorem dX3_doStack_0 : decode cX3_doStack 0 = .ok (.iload_n 1, 1) := by decide +kernel
theorem dX3_doStack_1 : decode cX3_doStack 1 = .ok (.tableswitch 230 48 63 #[79, 95, 111, 122, 133, 149, 165, 176, 230, 187, 230, 198, 230, 230, 205, 217], 79) := by decide +kernel
theorem dX3_doStack_80 : decode cX3_doStack 80 = .ok (.aload_n 0, 1) := by decide +kernel
theorem dX3_doStack_81 : decode cX3_doStack 81 = .ok (.aload_n 0, 1) := by decide +kernel
theorem dX3_doStack_82 : decode cX3_doStack 82 = .ok (.getfield 141, 3) := by decide +kernel
theorem dX3_doStack_85 : decode cX3_doStack 85 = .ok (.iconst 1, 1) := by decide +kernel
theorem dX3_doStack_86 : decode cX3_doStack 86 = .ok (.iadd, 1) := by decide +kernel
theorem dX3_doStack_87 : decode cX3_doStack 87 = .ok (.ldc 61, 2) := by decide +kernel
theorem dX3_doStack_89 : decode cX3_doStack 89 = .ok (.iand, 1) := by decide +kernel
theorem dX3_doStack_90 : decode cX3_doStack 90 = .ok (.putfield 119, 3) := by decide +kernel
theorem dX3_doStack_93 : decode cX3_doStack 93 = .ok (.goto 138, 3) := by decide +kernel
theorem dX3_doStack_96 : decode cX3_doStack 96 = .ok (.aload_n 0, 1) := by decide +kernel
theorem dX3_doStack_97 : decode cX3_doStack 97 = .ok (.aload_n 0, 1) := by decide +kernel
theorem dX3_doStack_98 : decode cX3_doStack 98 = .ok (.getfield 141, 3) := by decide +kernel
theorem dX3_doStack_101 : decode cX3_doStack 101 = .ok (.iconst 1, 1) := by decide +kernel
theorem dX3_doStack_102 : decode cX3_doStack 102 = .ok (.iadd, 1) := by decide +kernel
theorem dX3_doStack_103 : decode cX3_doStack 103 = .ok (.ldc 61, 2) := by decide +kernel
theorem dX3_doStack_105 : decode cX3_doStack 105 = .ok (.iand, 1) := by decide +kernel
theorem dX3_doStack_106 : decode cX3_doStack 106 = .ok (.putfield 141, 3) := by decide +kernel
theorem dX3_doStack_109 : decode cX3_doStack 109 = .ok (.goto 122, 3) := by decide +kernel
theorem dX3_doStack_112 : decode cX3_doStack 112 = .ok (.aload_n 0, 1) := by decide +kernel
theorem dX3_doStack_113 : decode cX3_doStack 113 = .ok (.aload_n 0, 1) := by decide +kernel
theorem dX3_doStack_114 : decode cX3_doStack 114 = .ok (.invokevirtual 144, 3) := by decide +kernel
theorem dX3_doStack_117 : decode cX3_doStack 117 = .ok (.putfield 74, 3) := by decide +kernel
theorem dX3_doStack_120 : decode cX3_doStack 120 = .ok (.goto 111, 3) := by decide +kernel
theorem dX3_doStack_123 : decode cX3_doStack 123 = .ok (.aload_n 0, 1) := by decide +kernel
theorem dX3_doStack_124 : decode cX3_doStack 124 = .ok (.aload_n 0, 1) := by decide +kernel
theorem dX3_doStack_125 : decode cX3_doStack 125 = .ok (.invokevirtual 144, 3) := by decide +kernel
theorem dX3_doStack_128 : decode cX3_doStack 128 = .ok (.putfield 81, 3) := by decide +kernel
theorem dX3_doStack_131 : decode cX3_doStack 131 = .ok (.goto 100, 3) := by decide +kernel
theorem dX3_doStack_134 : decode cX3_doStack 134 = .ok (.aload_n 0, 1) := by decide +kernel
theorem dX3_doStack_135 : decode cX3_doStack 135 = .ok (.aload_n 0, 1) := by decide +kernel
theorem dX3_doStack_136 : decode cX3_doStack 136 = .ok (.getfield 141, 3) := by decide +kernel
theorem dX3_doStack_139 : decode cX3_doStack 139 = .ok (.iconst 1, 1) := by decide +kernel
theorem dX3_doStack_140 : decode cX3_doStack 140 = .ok (.isub, 1) := by decide +kernel
theorem dX3_doStack_141 : decode cX3_doStack 141 = .ok (.ldc 61, 2) := by decide +kernel
theorem dX3_doStack_143 : decode cX3_doStack 143 = .ok (.iand, 1) := by decide +kernel
theorem dX3_doStack_144 : decode cX3_doStack 144 = .ok (.putfield 141, 3) := by decide +kernel
theorem dX3_doStack_147 : decode cX3_doStack 147 = .ok (.goto 84, 3) := by decide +kernel
theorem dX3_doStack_150 : decode cX3_doStack 150 = .ok (.aload_n 0, 1) := by decide +kernel
theorem dX3_doStack_151 : decode cX3_doStack 151 = .ok (.aload_n 0, 1) := by decide +kernel
theorem dX3_doStack_152 : decode cX3_doStack 152 = .ok (.getfield 119, 3) := by decide +kernel
theorem dX3_doStack_155 : decode cX3_doStack 155 = .ok (.iconst 1, 1) := by decide +kernel
theorem dX3_doStack_156 : decode cX3_doStack 156 = .ok (.isub, 1) := by decide +kernel
theorem dX3_doStack_157 : decode cX3_doStack 157 = .ok (.ldc 61, 2) := by decide +kernel
theorem dX3_doStack_159 : decode cX3_doStack 159 = .ok (.iand, 1) := by decide +kernel
theorem dX3_doStack_160 : decode cX3_doStack 160 = .ok (.putfield 141, 3) := by decide +kernel
theorem dX3_doStack_163 : decode cX3_doStack 163 = .ok (.goto 68, 3) := by decide +kernel
theorem dX3_doStack_166 : decode cX3_doStack 166 = .ok (.aload_n 0, 1) := by decide +kernel
theorem dX3_doStack_167 : decode cX3_doStack 167 = .ok (.aload_n 0, 1) := by decide +kernel
theorem dX3_doStack_168 : decode cX3_doStack 168 = .ok (.getfield 74, 3) := by decide +kernel
theorem dX3_doStack_171 : decode cX3_doStack 171 = .ok (.invokevirtual 147, 3) := by decide +kernel
theorem dX3_doStack_174 : decode cX3_doStack 174 = .ok (.goto 57, 3) := by decide +kernel
theorem dX3_doStack_177 : decode cX3_doStack 177 = .ok (.aload_n 0, 1) := by decide +kernel
theorem dX3_doStack_178 : decode cX3_doStack 178 = .ok (.aload_n 0, 1) := by decide +kernel
theorem dX3_doStack_179 : decode cX3_doStack 179 = .ok (.getfield 81, 3) := by decide +kernel
theorem dX3_doStack_182 : decode cX3_doStack 182 = .ok (.invokevirtual 147, 3) := by decide +kernel
theorem dX3_doStack_185 : decode cX3_doStack 185 = .ok (.goto 46, 3) := by decide +kernel
theorem dX3_doStack_188 : decode cX3_doStack 188 = .ok (.aload_n 0, 1) := by decide +kernel
theorem dX3_doStack_189 : decode cX3_doStack 189 = .ok (.aload_n 0, 1) := by decide +kernel
theorem dX3_doStack_190 : decode cX3_doStack 190 = .ok (.invokevirtual 150, 3) := by decide +kernel
theorem dX3_doStack_193 : decode cX3_doStack 193 = .ok (.putfield 48, 3) := by decide +kernel
theorem dX3_doStack_196 : decode cX3_doStack 196 = .ok (.goto 35, 3) := by decide +kernel
theorem dX3_doStack_199 : decode cX3_doStack 199 = .ok (.aload_n 0, 1) := by decide +kernel
theorem dX3_doStack_200 : decode cX3_doStack 200 = .ok (.invokevirtual 153, 3) := by decide +kernel
theorem dX3_doStack_203 : decode cX3_doStack 203 = .ok (.goto 28, 3) := by decide +kernel
theorem dX3_doStack_206 : decode cX3_doStack 206 = .ok (.aload_n 0, 1) := by decide +kernel
theorem dX3_doStack_207 : decode cX3_doStack 207 = .ok (.invokevirtual 94, 3) := by decide +kernel
theorem dX3_doStack_210 : decode cX3_doStack 210 = .ok (.aload_n 0, 1) := by decide +kernel
theorem dX3_doStack_211 : decode cX3_doStack 211 = .ok (.iconst 1, 1) := by decide +kernel
theorem dX3_doStack_212 : decode cX3_doStack 212 = .ok (.putfield 34, 3) := by decide +kernel
theorem dX3_doStack_215 : decode cX3_doStack 215 = .ok (.goto 16, 3) := by decide +kernel
theorem dX3_doStack_218 : decode cX3_doStack 218 = .ok (.aload_n 0, 1) := by decide +kernel
theorem dX3_doStack_219 : decode cX3_doStack 219 = .ok (.invokevirtual 94, 3) := by decide +kernel
theorem dX3_doStack_222 : decode cX3_doStack 222 = .ok (.aload_n 0, 1) := by decide +kernel
theorem dX3_doStack_223 : decode cX3_doStack 223 = .ok (.ldc 156, 2) := by decide +kernel
theorem dX3_doStack_225 : decode cX3_doStack 225 = .ok (.invokevirtual 30, 3) := by decide +kernel
theorem dX3_doStack_228 : decode cX3_doStack 228 = .ok (.goto 3, 3) := by decide +kernel
theorem dX3_doStack_231 : decode cX3_doStack 231 = .ok (.return_, 1) := by decide +kernel
set_option maxRecDepth 20000 in
theorem ggX3_push_X1_write : GoodIn wsX3_push wsX1_write := goodIn_r _ [8, 9, 10, 11, 12, 13, 14, 15, 16, 17, 18, 19, 20, 21, 22, 23, 24, 25, 26, 27, 28, 29, 30, 31, 32, 33, 34, 35, 36, 37, 38, 39, 40, 41, 42, 43, 44, 45, 46, 47, 48, 49, 50, 51, 52, 53, 54, 55, 7, 56, 67, 68, 69, 70, 71, 72, 73, 74, 75, 76, 77, 78, 79, 80, 81, 82, 83, 84, 85, 86, 87, 88, 89, 90, 91, 92, 93, 94] rfl (by decide +kernel)
set_option maxRecDepth 20000 in
theorem gX3_push_X1_write : GoodIn wsX3_push (wsV RX3 157 RX1 yX1_write wsX1_write) := goodIn_app (goodIn_of _ (by decide +kernel)) ggX3_push_X1_write
theorem dX3_push_0 : decode cX3_push 0 = .ok (.aload_n 0, 1) := by decide +kernel
theorem dX3_push_1 : decode cX3_push 1 = .ok (.getfield 7, 3) := by decide +kernel
theorem dX3_push_4 : decode cX3_push 4 = .ok (.aload_n 0, 1) := by decide +kernel
theorem dX3_push_5 : decode cX3_push 5 = .ok (.getfield 141, 3) := by decide +kernel
theorem dX3_push_8 : decode cX3_push 8 = .ok (.iload_n 1, 1) := by decide +kernel
theorem dX3_push_9 : decode cX3_push 9 = .ok (.invokevirtual 157, 3) := by decide +kernel
theorem dX3_push_12 : decode cX3_push 12 = .ok (.aload_n 0, 1) := by decide +kernel
theorem dX3_push_13 : decode cX3_push 13 = .ok (.aload_n 0, 1) := by decide +kernel
theorem dX3_push_14 : decode cX3_push 14 = .ok (.getfield 141, 3) := by decide +kernel
theorem dX3_push_17 : decode cX3_push 17 = .ok (.iconst 1, 1) := by decide +kernel
theorem dX3_push_18 : decode cX3_push 18 = .ok (.isub, 1) := by decide +kernel
theorem dX3_push_19 : decode cX3_push 19 = .ok (.ldc 61, 2) := by decide +kernel
theorem dX3_push_21 : decode cX3_push 21 = .ok (.iand, 1) := by decide +kernel
theorem dX3_push_22 : decode cX3_push 22 = .ok (.putfield 141, 3) := by decide +kernel
theorem dX3_push_25 : decode cX3_push 25 = .ok (.return_, 1) := by decide +kernel
set_option maxRecDepth 20000 in
theorem ggX3_pushWord_X1_write : GoodIn wsX3_pushWord wsX1_write := goodIn_r _ [8, 9, 10, 11, 12, 13, 14, 15, 16, 17, 18, 19, 20, 21, 22, 23, 24, 25, 26, 27, 28, 29, 30, 31, 32, 33, 34, 35, 36, 37, 38, 39, 40, 41, 42, 43, 44, 45, 46, 47, 48, 49, 50, 51, 52, 53, 54, 55, 7, 56, 67, 68, 69, 70, 71, 72, 73, 74, 75, 76, 77, 78, 79, 80, 81, 82, 83, 84, 85, 86, 87, 88, 89, 90, 91, 92, 93, 94] rfl (by decide +kernel)
set_option maxRecDepth 20000 in
theorem gX3_pushWord_X1_write : GoodIn wsX3_pushWord (wsV RX3 157 RX1 yX1_write wsX1_write) := goodIn_app (goodIn_of _ (by decide +kernel)) ggX3_pushWord_X1_write
theorem dX3_pushWord_0 : decode cX3_pushWord 0 = .ok (.aload_n 0, 1) := by decide +kernel
theorem dX3_pushWord_1 : decode cX3_pushWord 1 = .ok (.getfield 7, 3) := by decide +kernel
theorem dX3_pushWord_4 : decode cX3_pushWord 4 = .ok (.aload_n 0, 1) := by decide +kernel
theorem dX3_pushWord_5 : decode cX3_pushWord 5 = .ok (.getfield 141, 3) := by decide +kernel
theorem dX3_pushWord_8 : decode cX3_pushWord 8 = .ok (.iload_n 1, 1) := by decide +kernel
theorem dX3_pushWord_9 : decode cX3_pushWord 9 = .ok (.sipush 255, 3) := by decide +kernel
theorem dX3_pushWord_12 : decode cX3_pushWord 12 = .ok (.iand, 1) := by decide +kernel
theorem dX3_pushWord_13 : decode cX3_pushWord 13 = .ok (.invokevirtual 157, 3) := by decide +kernel
theorem dX3_pushWord_16 : decode cX3_pushWord 16 = .ok (.aload_n 0, 1) := by decide +kernel
theorem dX3_pushWord_17 : decode cX3_pushWord 17 = .ok (.getfield 7, 3) := by decide +kernel
theorem dX3_pushWord_20 : decode cX3_pushWord 20 = .ok (.aload_n 0, 1) := by decide +kernel
theorem dX3_pushWord_21 : decode cX3_pushWord 21 = .ok (.getfield 141, 3) := by decide +kernel
theorem dX3_pushWord_24 : decode cX3_pushWord 24 = .ok (.iconst 1, 1) := by decide +kernel
theorem dX3_pushWord_25 : decode cX3_pushWord 25 = .ok (.isub, 1) := by decide +kernel
theorem dX3_pushWord_26 : decode cX3_pushWord 26 = .ok (.iload_n 1, 1) := by decide +kernel
theorem dX3_pushWord_27 : decode cX3_pushWord 27 = .ok (.bipush 8, 2) := by decide +kernel
theorem dX3_pushWord_29 : decode cX3_pushWord 29 = .ok (.ishr, 1) := by decide +kernel
theorem dX3_pushWord_30 : decode cX3_pushWord 30 = .ok (.invokevirtual 157, 3) := by decide +kernel
theorem dX3_pushWord_33 : decode cX3_pushWord 33 = .ok (.aload_n 0, 1) := by decide +kernel
theorem dX3_pushWord_34 : decode cX3_pushWord 34 = .ok (.aload_n 0, 1) := by decide +kernel
theorem dX3_pushWord_35 : decode cX3_pushWord 35 = .ok (.getfield 141, 3) := by decide +kernel
theorem dX3_pushWord_38 : decode cX3_pushWord 38 = .ok (.iconst 2, 1) := by decide +kernel
theorem dX3_pushWord_39 : decode cX3_pushWord 39 = .ok (.isub, 1) := by decide +kernel
theorem dX3_pushWord_40 : decode cX3_pushWord 40 = .ok (.ldc 61, 2) := by decide +kernel
theorem dX3_pushWord_42 : decode cX3_pushWord 42 = .ok (.iand, 1) := by decide +kernel
theorem dX3_pushWord_43 : decode cX3_pushWord 43 = .ok (.putfield 141, 3) := by decide +kernel
theorem dX3_pushWord_46 : decode cX3_pushWord 46 = .ok (.return_, 1) := by decide +kernel
set_option maxRecDepth 20000 in
theorem ggX3_pushAll_X3_pushWord : GoodIn wsX3_pushAll wsX3_pushWord := goodIn_r _ [10, 11, 12, 13, 14, 15, 16, 17, 18, 19, 20, 21, 22, 23, 24, 25, 26, 27, 28, 29, 30, 31, 32, 33, 34, 35, 36, 37, 38, 39, 40, 41, 42, 43, 44, 45, 46, 47, 48, 49, 50, 51, 52, 53, 54, 55, 56, 57, 58, 59, 60, 61, 62, 63, 64, 65, 66, 77, 78, 79, 80, 81, 82, 83, 84, 85, 86, 87, 88, 89, 90, 91, 92, 93, 94, 95, 96, 97, 98, 99, 100, 101, 102, 103, 104, 105, 106, 107, 108, 109, 110, 111, 112, 113, 114] rfl (by decide +kernel)
set_option maxRecDepth 20000 in
theorem gX3_pushAll_X3_pushWord : GoodIn wsX3_pushAll (wsV RX3 160 RX3 yX3_pushWord wsX3_pushWord) := goodIn_app (goodIn_of _ (by decide +kernel)) ggX3_pushAll_X3_pushWord
set_option maxRecDepth 20000 in
theorem ggX3_pushAll_X3_push : GoodIn wsX3_pushAll wsX3_push := goodIn_r _ [70, 11, 12, 13, 14, 15, 16, 17, 18, 19, 20, 21, 22, 23, 24, 25, 26, 27, 28, 29, 30, 31, 32, 33, 34, 35, 36, 37, 38, 39, 40, 41, 42, 43, 44, 45, 46, 47, 48, 49, 50, 51, 52, 53, 54, 55, 56, 57, 58, 59, 60, 61, 62, 63, 64, 65, 66, 77, 78, 79, 80, 81, 82, 83, 84, 85, 86, 87, 88, 89, 90, 91, 92, 93, 94, 95, 96, 97, 98, 99, 100, 101, 102, 103, 104, 105, 106, 107, 108, 109, 110, 111, 112, 113, 114] rfl (by decide +kernel)
set_option maxRecDepth 20000 in
theorem gX3_pushAll_X3_push : GoodIn wsX3_pushAll (wsV RX3 147 RX3 yX3_push wsX3_push) := goodIn_app (goodIn_of _ (by decide +kernel)) ggX3_pushAll_X3_push
set_option maxRecDepth 20000 in
theorem ggX3_pushAll_X2_asByte : GoodIn wsX3_pushAll wsX2_asByte := goodIn_r _ [75, 76, 115] rfl (by decide +kernel)
set_option maxRecDepth 20000 in
theorem gX3_pushAll_X2_asByte : GoodIn wsX3_pushAll (wsV RX3 112 RX2 yX2_asByte wsX2_asByte) := goodIn_app (goodIn_of _ (by decide +kernel)) ggX3_pushAll_X2_asByte
theorem dX3_pushAll_0 : decode cX3_pushAll 0 = .ok (.aload_n 0, 1) := by decide +kernel
theorem dX3_pushAll_1 : decode cX3_pushAll 1 = .ok (.aload_n 0, 1) := by decide +kernel
theorem dX3_pushAll_2 : decode cX3_pushAll 2 = .ok (.getfield 48, 3) := by decide +kernel
theorem dX3_pushAll_5 : decode cX3_pushAll 5 = .ok (.invokevirtual 160, 3) := by decide +kernel
theorem dX3_pushAll_8 : decode cX3_pushAll 8 = .ok (.aload_n 0, 1) := by decide +kernel
theorem dX3_pushAll_9 : decode cX3_pushAll 9 = .ok (.aload_n 0, 1) := by decide +kernel
theorem dX3_pushAll_10 : decode cX3_pushAll 10 = .ok (.getfield 119, 3) := by decide +kernel
theorem dX3_pushAll_13 : decode cX3_pushAll 13 = .ok (.invokevirtual 160, 3) := by decide +kernel
theorem dX3_pushAll_16 : decode cX3_pushAll 16 = .ok (.aload_n 0, 1) := by decide +kernel
theorem dX3_pushAll_17 : decode cX3_pushAll 17 = .ok (.aload_n 0, 1) := by decide +kernel
theorem dX3_pushAll_18 : decode cX3_pushAll 18 = .ok (.getfield 74, 3) := by decide +kernel
theorem dX3_pushAll_21 : decode cX3_pushAll 21 = .ok (.invokevirtual 147, 3) := by decide +kernel
theorem dX3_pushAll_24 : decode cX3_pushAll 24 = .ok (.aload_n 0, 1) := by decide +kernel
theorem dX3_pushAll_25 : decode cX3_pushAll 25 = .ok (.aload_n 0, 1) := by decide +kernel
theorem dX3_pushAll_26 : decode cX3_pushAll 26 = .ok (.getfield 81, 3) := by decide +kernel
theorem dX3_pushAll_29 : decode cX3_pushAll 29 = .ok (.invokevirtual 147, 3) := by decide +kernel
theorem dX3_pushAll_32 : decode cX3_pushAll 32 = .ok (.aload_n 0, 1) := by decide +kernel
theorem dX3_pushAll_33 : decode cX3_pushAll 33 = .ok (.aload_n 0, 1) := by decide +kernel
theorem dX3_pushAll_34 : decode cX3_pushAll 34 = .ok (.getfield 16, 3) := by decide +kernel
theorem dX3_pushAll_37 : decode cX3_pushAll 37 = .ok (.invokevirtual 112, 3) := by decide +kernel
theorem dX3_pushAll_40 : decode cX3_pushAll 40 = .ok (.invokevirtual 147, 3) := by decide +kernel
theorem dX3_pushAll_43 : decode cX3_pushAll 43 = .ok (.return_, 1) := by decide +kernel
set_option maxRecDepth 20000 in
theorem ggX3_pull_X1_read : GoodIn wsX3_pull wsX1_read := goodIn_r _ [8, 9, 10, 11, 12, 13, 14, 15, 16, 17, 18, 19, 20, 21, 22, 23, 24, 25, 26, 27, 28, 29, 30, 31, 32, 33, 34, 35, 36, 37, 38, 39, 40, 41, 42, 43, 44, 45, 46, 47, 48, 49, 50, 51, 52, 53, 7, 54, 55, 56, 57, 58, 59, 70, 71, 72, 73, 74, 75, 76, 77, 78, 79, 80, 81, 82, 83, 84, 85, 86, 87, 88, 89, 90, 91, 92, 93, 94, 95, 96, 97] rfl (by decide +kernel)
set_option maxRecDepth 20000 in
theorem gX3_pull_X1_read : GoodIn wsX3_pull (wsV RX3 52 RX1 yX1_read wsX1_read) := goodIn_app (goodIn_of _ (by decide +kernel)) ggX3_pull_X1_read
theorem dX3_pull_0 : decode cX3_pull 0 = .ok (.aload_n 0, 1) := by decide +kernel
theorem dX3_pull_1 : decode cX3_pull 1 = .ok (.aload_n 0, 1) := by decide +kernel
theorem dX3_pull_2 : decode cX3_pull 2 = .ok (.getfield 141, 3) := by decide +kernel
theorem dX3_pull_5 : decode cX3_pull 5 = .ok (.iconst 1, 1) := by decide +kernel
theorem dX3_pull_6 : decode cX3_pull 6 = .ok (.iadd, 1) := by decide +kernel
theorem dX3_pull_7 : decode cX3_pull 7 = .ok (.ldc 61, 2) := by decide +kernel
theorem dX3_pull_9 : decode cX3_pull 9 = .ok (.iand, 1) := by decide +kernel
theorem dX3_pull_10 : decode cX3_pull 10 = .ok (.putfield 141, 3) := by decide +kernel
theorem dX3_pull_13 : decode cX3_pull 13 = .ok (.aload_n 0, 1) := by decide +kernel
theorem dX3_pull_14 : decode cX3_pull 14 = .ok (.getfield 7, 3) := by decide +kernel
theorem dX3_pull_17 : decode cX3_pull 17 = .ok (.aload_n 0, 1) := by decide +kernel
theorem dX3_pull_18 : decode cX3_pull 18 = .ok (.getfield 141, 3) := by decide +kernel
theorem dX3_pull_21 : decode cX3_pull 21 = .ok (.invokevirtual 52, 3) := by decide +kernel
theorem dX3_pull_24 : decode cX3_pull 24 = .ok (.ireturn, 1) := by decide +kernel
set_option maxRecDepth 20000 in
theorem ggX3_pullWord_X1_read : GoodIn wsX3_pullWord wsX1_read := goodIn_r _ [8, 9, 10, 11, 12, 13, 14, 15, 16, 17, 18, 19, 20, 21, 22, 23, 24, 25, 26, 27, 28, 29, 30, 31, 32, 33, 34, 35, 36, 37, 38, 39, 40, 41, 42, 43, 44, 45, 46, 47, 48, 49, 50, 51, 52, 53, 7, 54, 55, 56, 57, 58, 59, 70, 71, 72, 73, 74, 75, 76, 77, 78, 79, 80, 81, 82, 83, 84, 85, 86, 87, 88, 89, 90, 91, 92, 93, 94, 95, 96, 97] rfl (by decide +kernel)
set_option maxRecDepth 20000 in
theorem gX3_pullWord_X1_read : GoodIn wsX3_pullWord (wsV RX3 52 RX1 yX1_read wsX1_read) := goodIn_app (goodIn_of _ (by decide +kernel)) ggX3_pullWord_X1_read
theorem dX3_pullWord_0 : decode cX3_pullWord 0 = .ok (.aload_n 0, 1) := by decide +kernel
theorem dX3_pullWord_1 : decode cX3_pullWord 1 = .ok (.getfield 7, 3) := by decide +kernel
theorem dX3_pullWord_4 : decode cX3_pullWord 4 = .ok (.aload_n 0, 1) := by decide +kernel
theorem dX3_pullWord_5 : decode cX3_pullWord 5 = .ok (.getfield 141, 3) := by decide +kernel
theorem dX3_pullWord_8 : decode cX3_pullWord 8 = .ok (.iconst 1, 1) := by decide +kernel
theorem dX3_pullWord_9 : decode cX3_pullWord 9 = .ok (.iadd, 1) := by decide +kernel
theorem dX3_pullWord_10 : decode cX3_pullWord 10 = .ok (.invokevirtual 52, 3) := by decide +kernel
theorem dX3_pullWord_13 : decode cX3_pullWord 13 = .ok (.istore_n 1, 1) := by decide +kernel
theorem dX3_pullWord_14 : decode cX3_pullWord 14 = .ok (.aload_n 0, 1) := by decide +kernel
theorem dX3_pullWord_15 : decode cX3_pullWord 15 = .ok (.getfield 7, 3) := by decide +kernel
theorem dX3_pullWord_18 : decode cX3_pullWord 18 = .ok (.aload_n 0, 1) := by decide +kernel
theorem dX3_pullWord_19 : decode cX3_pullWord 19 = .ok (.getfield 141, 3) := by decide +kernel
theorem dX3_pullWord_22 : decode cX3_pullWord 22 = .ok (.iconst 2, 1) := by decide +kernel
theorem dX3_pullWord_23 : decode cX3_pullWord 23 = .ok (.iadd, 1) := by decide +kernel
theorem dX3_pullWord_24 : decode cX3_pullWord 24 = .ok (.invokevirtual 52, 3) := by decide +kernel
theorem dX3_pullWord_27 : decode cX3_pullWord 27 = .ok (.istore_n 2, 1) := by decide +kernel
theorem dX3_pullWord_28 : decode cX3_pullWord 28 = .ok (.aload_n 0, 1) := by decide +kernel
theorem dX3_pullWord_29 : decode cX3_pullWord 29 = .ok (.aload_n 0, 1) := by decide +kernel
theorem dX3_pullWord_30 : decode cX3_pullWord 30 = .ok (.getfield 141, 3) := by decide +kernel
theorem dX3_pullWord_33 : decode cX3_pullWord 33 = .ok (.iconst 2, 1) := by decide +kernel
theorem dX3_pullWord_34 : decode cX3_pullWord 34 = .ok (.iadd, 1) := by decide +kernel
theorem dX3_pullWord_35 : decode cX3_pullWord 35 = .ok (.ldc 61, 2) := by decide +kernel
theorem dX3_pullWord_37 : decode cX3_pullWord 37 = .ok (.iand, 1) := by decide +kernel
theorem dX3_pullWord_38 : decode cX3_pullWord 38 = .ok (.putfield 141, 3) := by decide +kernel
theorem dX3_pullWord_41 : decode cX3_pullWord 41 = .ok (.iload_n 1, 1) := by decide +kernel
theorem dX3_pullWord_42 : decode cX3_pullWord 42 = .ok (.bipush 8, 2) := by decide +kernel
theorem dX3_pullWord_44 : decode cX3_pullWord 44 = .ok (.ishl, 1) := by decide +kernel
theorem dX3_pullWord_45 : decode cX3_pullWord 45 = .ok (.iload_n 2, 1) := by decide +kernel
theorem dX3_pullWord_46 : decode cX3_pullWord 46 = .ok (.ior, 1) := by decide +kernel
theorem dX3_pullWord_47 : decode cX3_pullWord 47 = .ok (.ireturn, 1) := by decide +kernel
set_option maxRecDepth 20000 in
theorem ggX3_pullAll_X3_pull : GoodIn wsX3_pullAll wsX3_pull := goodIn_r _ [10, 11, 12, 13, 14, 15, 16, 17, 18, 19, 20, 21, 22, 23, 24, 25, 26, 27, 28, 29, 30, 31, 32, 33, 34, 35, 36, 37, 38, 39, 40, 41, 42, 43, 44, 45, 46, 47, 48, 49, 50, 51, 52, 53, 54, 55, 56, 57, 58, 59, 60, 61, 62, 63, 64, 65, 66, 67, 68, 69, 80, 81, 82, 83, 84, 85, 86, 87, 88, 89, 90, 91, 92, 93, 94, 95, 96, 97, 98, 99, 100, 101, 102, 103, 104, 105, 106, 107, 108, 109, 110, 111, 112, 113, 114, 115, 116, 117] rfl (by decide +kernel)
set_option maxRecDepth 20000 in
theorem gX3_pullAll_X3_pull : GoodIn wsX3_pullAll (wsV RX3 144 RX3 yX3_pull wsX3_pull) := goodIn_app (goodIn_of _ (by decide +kernel)) ggX3_pullAll_X3_pull
set_option maxRecDepth 20000 in
theorem ggX3_pullAll_X2_takeByte : GoodIn wsX3_pullAll wsX2_takeByte := goodIn_r _ [74, 75, 118] rfl (by decide +kernel)
set_option maxRecDepth 20000 in
theorem gX3_pullAll_X2_takeByte : GoodIn wsX3_pullAll (wsV RX3 109 RX2 yX2_takeByte wsX2_takeByte) := goodIn_app (goodIn_of _ (by decide +kernel)) ggX3_pullAll_X2_takeByte
set_option maxRecDepth 20000 in
theorem ggX3_pullAll_X3_pullWord : GoodIn wsX3_pullAll wsX3_pullWord := goodIn_r _ [79, 13, 11, 12, 14, 15, 16, 17, 18, 19, 20, 21, 22, 23, 24, 25, 26, 27, 28, 29, 30, 31, 32, 33, 34, 35, 36, 37, 38, 39, 40, 41, 42, 43, 44, 45, 46, 47, 48, 49, 50, 51, 52, 53, 54, 55, 56, 57, 58, 59, 60, 61, 62, 63, 64, 65, 66, 67, 68, 69, 80, 81, 82, 83, 84, 85, 86, 87, 88, 89, 90, 91, 92, 93, 94, 95, 96, 97, 98, 99, 100, 101, 102, 103, 104, 105, 106, 107, 108, 109, 110, 111, 112, 113, 114, 115, 116, 117] rfl (by decide +kernel)
set_option maxRecDepth 20000 in
theorem gX3_pullAll_X3_pullWord : GoodIn wsX3_pullAll (wsV RX3 150 RX3 yX3_pullWord wsX3_pullWord) := goodIn_app (goodIn_of _ (by decide +kernel)) ggX3_pullAll_X3_pullWord
theorem dX3_pullAll_0 : decode cX3_pullAll 0 = .ok (.aload_n 0, 1) := by decide +kernel
theorem dX3_pullAll_1 : decode cX3_pullAll 1 = .ok (.getfield 16, 3) := by decide +kernel
theorem dX3_pullAll_4 : decode cX3_pullAll 4 = .ok (.aload_n 0, 1) := by decide +kernel
theorem dX3_pullAll_5 : decode cX3_pullAll 5 = .ok (.invokevirtual 144, 3) := by decide +kernel
theorem dX3_pullAll_8 : decode cX3_pullAll 8 = .ok (.invokevirtual 109, 3) := by decide +kernel
theorem dX3_pullAll_11 : decode cX3_pullAll 11 = .ok (.aload_n 0, 1) := by decide +kernel
theorem dX3_pullAll_12 : decode cX3_pullAll 12 = .ok (.aload_n 0, 1) := by decide +kernel
theorem dX3_pullAll_13 : decode cX3_pullAll 13 = .ok (.invokevirtual 144, 3) := by decide +kernel
theorem dX3_pullAll_16 : decode cX3_pullAll 16 = .ok (.putfield 81, 3) := by decide +kernel
theorem dX3_pullAll_19 : decode cX3_pullAll 19 = .ok (.aload_n 0, 1) := by decide +kernel
theorem dX3_pullAll_20 : decode cX3_pullAll 20 = .ok (.aload_n 0, 1) := by decide +kernel
theorem dX3_pullAll_21 : decode cX3_pullAll 21 = .ok (.invokevirtual 144, 3) := by decide +kernel
theorem dX3_pullAll_24 : decode cX3_pullAll 24 = .ok (.putfield 74, 3) := by decide +kernel
theorem dX3_pullAll_27 : decode cX3_pullAll 27 = .ok (.aload_n 0, 1) := by decide +kernel
theorem dX3_pullAll_28 : decode cX3_pullAll 28 = .ok (.aload_n 0, 1) := by decide +kernel
theorem dX3_pullAll_29 : decode cX3_pullAll 29 = .ok (.invokevirtual 150, 3) := by decide +kernel
theorem dX3_pullAll_32 : decode cX3_pullAll 32 = .ok (.putfield 119, 3) := by decide +kernel
theorem dX3_pullAll_35 : decode cX3_pullAll 35 = .ok (.aload_n 0, 1) := by decide +kernel
theorem dX3_pullAll_36 : decode cX3_pullAll 36 = .ok (.aload_n 0, 1) := by decide +kernel
theorem dX3_pullAll_37 : decode cX3_pullAll 37 = .ok (.invokevirtual 150, 3) := by decide +kernel
theorem dX3_pullAll_40 : decode cX3_pullAll 40 = .ok (.putfield 48, 3) := by decide +kernel
theorem dX3_pullAll_43 : decode cX3_pullAll 43 = .ok (.return_, 1) := by decide +kernel
set_option maxRecDepth 20000 in
theorem ggX3_operandAddress_X3_immediateSize : GoodIn wsX3_operandAddress wsX3_immediateSize := goodIn_r _ [9] rfl (by decide +kernel)
set_option maxRecDepth 20000 in
theorem gX3_operandAddress_X3_immediateSize : GoodIn wsX3_operandAddress (wsV RX3 163 RX3 yX3_immediateSize wsX3_immediateSize) := goodIn_app (goodIn_of _ (by decide +kernel)) ggX3_operandAddress_X3_immediateSize
set_option maxRecDepth 20000 in
theorem ggX3_operandAddress_X1_read : GoodIn wsX3_operandAddress wsX1_read := goodIn_r _ [14, 15, 16, 17, 18, 19, 20, 21, 22, 23, 24, 25, 26, 27, 28, 29, 30, 31, 32, 33, 34, 35, 36, 37, 38, 39, 40, 41, 42, 43, 44, 45, 46, 47, 48, 49, 50, 51, 52, 53, 54, 55, 56, 57, 58, 59, 13, 60, 61, 62, 63, 64, 65, 81, 82, 83, 84, 85, 86, 87, 88, 89, 90, 91, 92, 93, 94, 95, 96, 97, 98, 99, 100, 101, 102, 103, 104, 105, 106, 107, 108] rfl (by decide +kernel)
set_option maxRecDepth 20000 in
theorem gX3_operandAddress_X1_read : GoodIn wsX3_operandAddress (wsV RX3 52 RX1 yX1_read wsX1_read) := goodIn_app (goodIn_of _ (by decide +kernel)) ggX3_operandAddress_X1_read
set_option maxRecDepth 20000 in
theorem ggX3_operandAddress_X1_readWord : GoodIn wsX3_operandAddress wsX1_readWord := goodIn_r _ [69, 70, 11, 12, 13, 14, 15, 16, 17, 18, 19, 20, 21, 22, 23, 24, 25, 26, 27, 28, 29, 30, 31, 32, 33, 34, 35, 36, 37, 38, 39, 40, 41, 42, 43, 44, 45, 46, 47, 48, 49, 50, 51, 52, 53, 54, 55, 56, 57, 58, 59, 60, 61, 62, 63, 64, 65, 81, 82, 83, 84, 85, 86, 87, 88, 89, 90, 91, 92, 93, 94, 95, 96, 97, 98, 99, 100, 101, 102, 103, 104, 105, 106, 107, 108] rfl (by decide +kernel)
set_option maxRecDepth 20000 in
theorem gX3_operandAddress_X1_readWord : GoodIn wsX3_operandAddress (wsV RX3 102 RX1 yX1_readWord wsX1_readWord) := goodIn_app (goodIn_of _ (by decide +kernel)) ggX3_operandAddress_X1_readWord
theorem dX3_operandAddress_0 : decode cX3_operandAddress 0 = .ok (.aload_n 0, 1) := by decide +kernel
theorem dX3_operandAddress_1 : decode cX3_operandAddress 1 = .ok (.getfield 48, 3) := by decide +kernel
theorem dX3_operandAddress_4 : decode cX3_operandAddress 4 = .ok (.istore_n 2, 1) := by decide +kernel
theorem dX3_operandAddress_5 : decode cX3_operandAddress 5 = .ok (.iload_n 1, 1) := by decide +kernel
theorem dX3_operandAddress_6 : decode cX3_operandAddress 6 = .ok (.iconst 4, 1) := by decide +kernel
theorem dX3_operandAddress_7 : decode cX3_operandAddress 7 = .ok (.ishr, 1) := by decide +kernel
theorem dX3_operandAddress_8 : decode cX3_operandAddress 8 = .ok (.iconst 3, 1) := by decide +kernel
theorem dX3_operandAddress_9 : decode cX3_operandAddress 9 = .ok (.iand, 1) := by decide +kernel
theorem dX3_operandAddress_10 : decode cX3_operandAddress 10 = .ok (.tableswitch 100 0 2 #[26, 48, 70], 26) := by decide +kernel
theorem dX3_operandAddress_36 : decode cX3_operandAddress 36 = .ok (.aload_n 0, 1) := by decide +kernel
theorem dX3_operandAddress_37 : decode cX3_operandAddress 37 = .ok (.aload_n 0, 1) := by decide +kernel
theorem dX3_operandAddress_38 : decode cX3_operandAddress 38 = .ok (.getfield 48, 3) := by decide +kernel
theorem dX3_operandAddress_41 : decode cX3_operandAddress 41 = .ok (.aload_n 0, 1) := by decide +kernel
theorem dX3_operandAddress_42 : decode cX3_operandAddress 42 = .ok (.iload_n 1, 1) := by decide +kernel
theorem dX3_operandAddress_43 : decode cX3_operandAddress 43 = .ok (.bipush 15, 2) := by decide +kernel
theorem dX3_operandAddress_45 : decode cX3_operandAddress 45 = .ok (.iand, 1) := by decide +kernel
theorem dX3_operandAddress_46 : decode cX3_operandAddress 46 = .ok (.invokevirtual 163, 3) := by decide +kernel
theorem dX3_operandAddress_49 : decode cX3_operandAddress 49 = .ok (.iadd, 1) := by decide +kernel
theorem dX3_operandAddress_50 : decode cX3_operandAddress 50 = .ok (.ldc 61, 2) := by decide +kernel
theorem dX3_operandAddress_52 : decode cX3_operandAddress 52 = .ok (.iand, 1) := by decide +kernel
theorem dX3_operandAddress_53 : decode cX3_operandAddress 53 = .ok (.putfield 48, 3) := by decide +kernel
theorem dX3_operandAddress_56 : decode cX3_operandAddress 56 = .ok (.iload_n 2, 1) := by decide +kernel
theorem dX3_operandAddress_57 : decode cX3_operandAddress 57 = .ok (.ireturn, 1) := by decide +kernel
theorem dX3_operandAddress_58 : decode cX3_operandAddress 58 = .ok (.aload_n 0, 1) := by decide +kernel
theorem dX3_operandAddress_59 : decode cX3_operandAddress 59 = .ok (.aload_n 0, 1) := by decide +kernel
theorem dX3_operandAddress_60 : decode cX3_operandAddress 60 = .ok (.getfield 48, 3) := by decide +kernel
theorem dX3_operandAddress_63 : decode cX3_operandAddress 63 = .ok (.iconst 1, 1) := by decide +kernel
theorem dX3_operandAddress_64 : decode cX3_operandAddress 64 = .ok (.iadd, 1) := by decide +kernel
theorem dX3_operandAddress_65 : decode cX3_operandAddress 65 = .ok (.ldc 61, 2) := by decide +kernel
theorem dX3_operandAddress_67 : decode cX3_operandAddress 67 = .ok (.iand, 1) := by decide +kernel
theorem dX3_operandAddress_68 : decode cX3_operandAddress 68 = .ok (.putfield 48, 3) := by decide +kernel
theorem dX3_operandAddress_71 : decode cX3_operandAddress 71 = .ok (.aload_n 0, 1) := by decide +kernel
theorem dX3_operandAddress_72 : decode cX3_operandAddress 72 = .ok (.getfield 7, 3) := by decide +kernel
theorem dX3_operandAddress_75 : decode cX3_operandAddress 75 = .ok (.iload_n 2, 1) := by decide +kernel
theorem dX3_operandAddress_76 : decode cX3_operandAddress 76 = .ok (.invokevirtual 52, 3) := by decide +kernel
theorem dX3_operandAddress_79 : decode cX3_operandAddress 79 = .ok (.ireturn, 1) := by decide +kernel
theorem dX3_operandAddress_80 : decode cX3_operandAddress 80 = .ok (.aload_n 0, 1) := by decide +kernel
theorem dX3_operandAddress_81 : decode cX3_operandAddress 81 = .ok (.aload_n 0, 1) := by decide +kernel
theorem dX3_operandAddress_82 : decode cX3_operandAddress 82 = .ok (.getfield 48, 3) := by decide +kernel
theorem dX3_operandAddress_85 : decode cX3_operandAddress 85 = .ok (.iconst 1, 1) := by decide +kernel
theorem dX3_operandAddress_86 : decode cX3_operandAddress 86 = .ok (.iadd, 1) := by decide +kernel
theorem dX3_operandAddress_87 : decode cX3_operandAddress 87 = .ok (.ldc 61, 2) := by decide +kernel
theorem dX3_operandAddress_89 : decode cX3_operandAddress 89 = .ok (.iand, 1) := by decide +kernel
theorem dX3_operandAddress_90 : decode cX3_operandAddress 90 = .ok (.putfield 48, 3) := by decide +kernel
theorem dX3_operandAddress_93 : decode cX3_operandAddress 93 = .ok (.aload_n 0, 1) := by decide +kernel
theorem dX3_operandAddress_94 : decode cX3_operandAddress 94 = .ok (.getfield 119, 3) := by decide +kernel
theorem dX3_operandAddress_97 : decode cX3_operandAddress 97 = .ok (.aload_n 0, 1) := by decide +kernel
theorem dX3_operandAddress_98 : decode cX3_operandAddress 98 = .ok (.getfield 7, 3) := by decide +kernel
theorem dX3_operandAddress_101 : decode cX3_operandAddress 101 = .ok (.iload_n 2, 1) := by decide +kernel
theorem dX3_operandAddress_102 : decode cX3_operandAddress 102 = .ok (.invokevirtual 52, 3) := by decide +kernel
theorem dX3_operandAddress_105 : decode cX3_operandAddress 105 = .ok (.iadd, 1) := by decide +kernel
theorem dX3_operandAddress_106 : decode cX3_operandAddress 106 = .ok (.ldc 61, 2) := by decide +kernel
theorem dX3_operandAddress_108 : decode cX3_operandAddress 108 = .ok (.iand, 1) := by decide +kernel
theorem dX3_operandAddress_109 : decode cX3_operandAddress 109 = .ok (.ireturn, 1) := by decide +kernel
theorem dX3_operandAddress_110 : decode cX3_operandAddress 110 = .ok (.aload_n 0, 1) := by decide +kernel
theorem dX3_operandAddress_111 : decode cX3_operandAddress 111 = .ok (.aload_n 0, 1) := by decide +kernel
theorem dX3_operandAddress_112 : decode cX3_operandAddress 112 = .ok (.getfield 48, 3) := by decide +kernel
theorem dX3_operandAddress_115 : decode cX3_operandAddress 115 = .ok (.iconst 2, 1) := by decide +kernel
theorem dX3_operandAddress_116 : decode cX3_operandAddress 116 = .ok (.iadd, 1) := by decide +kernel
theorem dX3_operandAddress_117 : decode cX3_operandAddress 117 = .ok (.ldc 61, 2) := by decide +kernel
theorem dX3_operandAddress_119 : decode cX3_operandAddress 119 = .ok (.iand, 1) := by decide +kernel
theorem dX3_operandAddress_120 : decode cX3_operandAddress 120 = .ok (.putfield 48, 3) := by decide +kernel
theorem dX3_operandAddress_123 : decode cX3_operandAddress 123 = .ok (.aload_n 0, 1) := by decide +kernel
theorem dX3_operandAddress_124 : decode cX3_operandAddress 124 = .ok (.getfield 7, 3) := by decide +kernel
theorem dX3_operandAddress_127 : decode cX3_operandAddress 127 = .ok (.iload_n 2, 1) := by decide +kernel
theorem dX3_operandAddress_128 : decode cX3_operandAddress 128 = .ok (.invokevirtual 102, 3) := by decide +kernel
theorem dX3_operandAddress_131 : decode cX3_operandAddress 131 = .ok (.ireturn, 1) := by decide +kernel
theorem dX3_immediateSize_0 : decode cX3_immediateSize 0 = .ok (.iload_n 1, 1) := by decide +kernel
theorem dX3_immediateSize_1 : decode cX3_immediateSize 1 = .ok (.bipush 12, 2) := by decide +kernel
theorem dX3_immediateSize_3 : decode cX3_immediateSize 3 = .ok (.if_icmp .eq 9, 3) := by decide +kernel
theorem dX3_immediateSize_6 : decode cX3_immediateSize 6 = .ok (.iload_n 1, 1) := by decide +kernel
theorem dX3_immediateSize_7 : decode cX3_immediateSize 7 = .ok (.bipush 14, 2) := by decide +kernel
theorem dX3_immediateSize_9 : decode cX3_immediateSize 9 = .ok (.if_icmp .ne 7, 3) := by decide +kernel
theorem dX3_immediateSize_12 : decode cX3_immediateSize 12 = .ok (.iconst 2, 1) := by decide +kernel
theorem dX3_immediateSize_13 : decode cX3_immediateSize 13 = .ok (.goto 4, 3) := by decide +kernel
theorem dX3_immediateSize_16 : decode cX3_immediateSize 16 = .ok (.iconst 1, 1) := by decide +kernel
theorem dX3_immediateSize_17 : decode cX3_immediateSize 17 = .ok (.ireturn, 1) := by decide +kernel
set_option maxRecDepth 20000 in
theorem ggX3_changeInMemory_X1_read : GoodIn wsX3_changeInMemory wsX1_read := goodIn_r _ [8, 9, 10, 11, 12, 13, 14, 15, 16, 17, 18, 19, 20, 21, 22, 23, 24, 25, 26, 27, 28, 29, 30, 31, 32, 33, 34, 35, 36, 37, 38, 39, 40, 41, 42, 43, 44, 45, 46, 47, 48, 49, 50, 51, 52, 53, 7, 54, 55, 56, 57, 58, 59, 139, 140, 141, 142, 143, 144, 145, 146, 147, 148, 149, 150, 151, 152, 153, 154, 155, 156, 157, 158, 159, 160, 161, 162, 163, 164, 165, 166] rfl (by decide +kernel)
set_option maxRecDepth 20000 in
theorem gX3_changeInMemory_X1_read : GoodIn wsX3_changeInMemory (wsV RX3 52 RX1 yX1_read wsX1_read) := goodIn_app (goodIn_of _ (by decide +kernel)) ggX3_changeInMemory_X1_read
set_option maxRecDepth 20000 in
theorem ggX3_changeInMemory_X0_changed : GoodIn wsX3_changeInMemory wsX0_changed := goodIn_r _ [64, 65, 66, 67, 68, 63, 69, 70, 71, 72, 73, 74, 75, 76, 77, 78, 79, 80, 81, 82, 83, 84, 85, 86, 87, 88, 89, 90, 91, 92, 93, 94, 95, 96, 97, 98, 99, 100, 101, 167, 168] rfl (by decide +kernel)
set_option maxRecDepth 20000 in
theorem gX3_changeInMemory_X0_changed : GoodIn wsX3_changeInMemory (wsV RX3 77 RX0 yX0_changed wsX0_changed) := goodIn_app (goodIn_of _ (by decide +kernel)) ggX3_changeInMemory_X0_changed
set_option maxRecDepth 20000 in
theorem ggX3_changeInMemory_X1_write : GoodIn wsX3_changeInMemory wsX1_write := goodIn_r _ [105, 9, 10, 12, 13, 14, 106, 107, 108, 20, 109, 22, 23, 26, 24, 25, 28, 29, 30, 31, 110, 111, 112, 113, 114, 115, 116, 117, 118, 119, 120, 35, 121, 45, 44, 37, 39, 38, 122, 123, 124, 125, 126, 127, 128, 51, 52, 53, 7, 54, 139, 140, 141, 142, 143, 144, 145, 146, 147, 148, 149, 150, 151, 152, 153, 154, 155, 156, 157, 158, 159, 160, 161, 162, 163, 164, 165, 166] rfl (by decide +kernel)
set_option maxRecDepth 20000 in
theorem gX3_changeInMemory_X1_write : GoodIn wsX3_changeInMemory (wsV RX3 157 RX1 yX1_write wsX1_write) := goodIn_app (goodIn_of _ (by decide +kernel)) ggX3_changeInMemory_X1_write
theorem dX3_changeInMemory_0 : decode cX3_changeInMemory 0 = .ok (.iload_n 1, 1) := by decide +kernel
theorem dX3_changeInMemory_1 : decode cX3_changeInMemory 1 = .ok (.bipush 14, 2) := by decide +kernel
theorem dX3_changeInMemory_3 : decode cX3_changeInMemory 3 = .ok (.if_icmp .ne 9, 3) := by decide +kernel
theorem dX3_changeInMemory_6 : decode cX3_changeInMemory 6 = .ok (.aload_n 0, 1) := by decide +kernel
theorem dX3_changeInMemory_7 : decode cX3_changeInMemory 7 = .ok (.iload_n 2, 1) := by decide +kernel
theorem dX3_changeInMemory_8 : decode cX3_changeInMemory 8 = .ok (.putfield 48, 3) := by decide +kernel
theorem dX3_changeInMemory_11 : decode cX3_changeInMemory 11 = .ok (.return_, 1) := by decide +kernel
theorem dX3_changeInMemory_12 : decode cX3_changeInMemory 12 = .ok (.iload_n 1, 1) := by decide +kernel
theorem dX3_changeInMemory_13 : decode cX3_changeInMemory 13 = .ok (.bipush 15, 2) := by decide +kernel
theorem dX3_changeInMemory_15 : decode cX3_changeInMemory 15 = .ok (.if_icmp .ne 7, 3) := by decide +kernel
theorem dX3_changeInMemory_18 : decode cX3_changeInMemory 18 = .ok (.iconst 0, 1) := by decide +kernel
theorem dX3_changeInMemory_19 : decode cX3_changeInMemory 19 = .ok (.goto 11, 3) := by decide +kernel
theorem dX3_changeInMemory_22 : decode cX3_changeInMemory 22 = .ok (.aload_n 0, 1) := by decide +kernel
theorem dX3_changeInMemory_23 : decode cX3_changeInMemory 23 = .ok (.getfield 7, 3) := by decide +kernel
theorem dX3_changeInMemory_26 : decode cX3_changeInMemory 26 = .ok (.iload_n 2, 1) := by decide +kernel
theorem dX3_changeInMemory_27 : decode cX3_changeInMemory 27 = .ok (.invokevirtual 52, 3) := by decide +kernel
theorem dX3_changeInMemory_30 : decode cX3_changeInMemory 30 = .ok (.istore_n 3, 1) := by decide +kernel
theorem dX3_changeInMemory_31 : decode cX3_changeInMemory 31 = .ok (.aload_n 0, 1) := by decide +kernel
theorem dX3_changeInMemory_32 : decode cX3_changeInMemory 32 = .ok (.getfield 25, 3) := by decide +kernel
theorem dX3_changeInMemory_35 : decode cX3_changeInMemory 35 = .ok (.iload_n 1, 1) := by decide +kernel
theorem dX3_changeInMemory_36 : decode cX3_changeInMemory 36 = .ok (.iload_n 3, 1) := by decide +kernel
theorem dX3_changeInMemory_37 : decode cX3_changeInMemory 37 = .ok (.invokevirtual 77, 3) := by decide +kernel
theorem dX3_changeInMemory_40 : decode cX3_changeInMemory 40 = .ok (.istore 4, 2) := by decide +kernel
theorem dX3_changeInMemory_42 : decode cX3_changeInMemory 42 = .ok (.iload_n 1, 1) := by decide +kernel
theorem dX3_changeInMemory_43 : decode cX3_changeInMemory 43 = .ok (.bipush 13, 2) := by decide +kernel
theorem dX3_changeInMemory_45 : decode cX3_changeInMemory 45 = .ok (.if_icmp .eq 13, 3) := by decide +kernel
theorem dX3_changeInMemory_48 : decode cX3_changeInMemory 48 = .ok (.aload_n 0, 1) := by decide +kernel
theorem dX3_changeInMemory_49 : decode cX3_changeInMemory 49 = .ok (.getfield 7, 3) := by decide +kernel
theorem dX3_changeInMemory_52 : decode cX3_changeInMemory 52 = .ok (.iload_n 2, 1) := by decide +kernel
theorem dX3_changeInMemory_53 : decode cX3_changeInMemory 53 = .ok (.iload 4, 2) := by decide +kernel
theorem dX3_changeInMemory_55 : decode cX3_changeInMemory 55 = .ok (.invokevirtual 157, 3) := by decide +kernel
theorem dX3_changeInMemory_58 : decode cX3_changeInMemory 58 = .ok (.return_, 1) := by decide +kernel
set_option maxRecDepth 20000 in
theorem ggX3_doWithOperand_X0_told : GoodIn wsX3_doWithOperand wsX0_told := goodIn_r _ [11, 12, 13, 14, 15, 16, 17, 18, 19, 20, 21, 22, 23, 183, 184] rfl (by decide +kernel)
set_option maxRecDepth 20000 in
theorem gX3_doWithOperand_X0_told : GoodIn wsX3_doWithOperand (wsV RX3 126 RX0 yX0_told wsX0_told) := goodIn_app (goodIn_of _ (by decide +kernel)) ggX3_doWithOperand_X0_told
set_option maxRecDepth 20000 in
theorem ggX3_doWithOperand_X1_write : GoodIn wsX3_doWithOperand wsX1_write := goodIn_r _ [28, 29, 30, 31, 32, 33, 34, 35, 36, 37, 38, 39, 40, 41, 42, 43, 44, 45, 46, 47, 48, 49, 50, 51, 52, 53, 54, 55, 56, 57, 58, 59, 60, 61, 62, 63, 64, 65, 66, 67, 68, 69, 70, 71, 72, 73, 74, 75, 27, 76, 185, 186, 187, 188, 189, 190, 191, 192, 193, 194, 195, 196, 197, 198, 199, 200, 201, 202, 203, 204, 205, 206, 207, 208, 209, 210, 211, 212] rfl (by decide +kernel)
set_option maxRecDepth 20000 in
theorem gX3_doWithOperand_X1_write : GoodIn wsX3_doWithOperand (wsV RX3 157 RX1 yX1_write wsX1_write) := goodIn_app (goodIn_of _ (by decide +kernel)) ggX3_doWithOperand_X1_write
set_option maxRecDepth 20000 in
theorem ggX3_doWithOperand_X1_readWord : GoodIn wsX3_doWithOperand wsX1_readWord := goodIn_r _ [80, 81, 82, 83, 27, 84, 29, 30, 85, 31, 32, 33, 86, 87, 88, 89, 90, 37, 91, 39, 40, 42, 43, 41, 92, 44, 45, 46, 47, 93, 94, 95, 59, 96, 63, 65, 64, 97, 98, 99, 100, 62, 61, 101, 102, 103, 104, 105, 73, 74, 75, 76, 106, 107, 108, 109, 110, 185, 186, 187, 188, 189, 190, 191, 192, 193, 194, 195, 196, 197, 198, 199, 200, 201, 202, 203, 204, 205, 206, 207, 208, 209, 210, 211, 212] rfl (by decide +kernel)
set_option maxRecDepth 20000 in
theorem gX3_doWithOperand_X1_readWord : GoodIn wsX3_doWithOperand (wsV RX3 102 RX1 yX1_readWord wsX1_readWord) := goodIn_app (goodIn_of _ (by decide +kernel)) ggX3_doWithOperand_X1_readWord
set_option maxRecDepth 20000 in
theorem ggX3_doWithOperand_X0_compareWords : GoodIn wsX3_doWithOperand wsX0_compareWords := goodIn_r _ [114, 115, 12, 116, 117, 118, 119, 16, 120, 121, 18, 19, 20, 21, 22, 23, 183, 184] rfl (by decide +kernel)
set_option maxRecDepth 20000 in
theorem gX3_doWithOperand_X0_compareWords : GoodIn wsX3_doWithOperand (wsV RX3 166 RX0 yX0_compareWords wsX0_compareWords) := goodIn_app (goodIn_of _ (by decide +kernel)) ggX3_doWithOperand_X0_compareWords
set_option maxRecDepth 20000 in
theorem ggX3_doWithOperand_X3_call : GoodIn wsX3_doWithOperand wsX3_call := goodIn_r _ [126, 127, 1, 128, 129, 82, 83, 27, 84, 29, 30, 85, 31, 32, 33, 86, 87, 88, 89, 90, 37, 91, 39, 40, 42, 43, 41, 92, 44, 45, 46, 47, 93, 94, 95, 59, 96, 63, 65, 64, 97, 98, 99, 100, 62, 61, 101, 102, 103, 104, 105, 73, 74, 75, 76, 106, 107, 108, 109, 110, 130, 131, 132, 125, 133, 134, 135, 136, 137, 6, 24, 25, 26, 28, 34, 35, 36, 38, 48, 49, 50, 51, 52, 53, 54, 55, 56, 57, 58, 60, 66, 67, 68, 69, 70, 71, 72, 173, 174, 175, 176, 177, 178, 179, 180, 181, 182, 185, 186, 187, 188, 189, 190, 191, 192, 193, 194, 195, 196, 197, 198, 199, 200, 201, 202, 203, 204, 205, 206, 207, 208, 209, 210, 211, 212] rfl (by decide +kernel)
set_option maxRecDepth 20000 in
theorem gX3_doWithOperand_X3_call : GoodIn wsX3_doWithOperand (wsV RX3 169 RX3 yX3_call wsX3_call) := goodIn_app (goodIn_of _ (by decide +kernel)) ggX3_doWithOperand_X3_call
set_option maxRecDepth 20000 in
theorem ggX3_doWithOperand_X3_loadWord : GoodIn wsX3_doWithOperand wsX3_loadWord := goodIn_r _ [141, 2, 1, 6, 5, 77, 78, 79, 27, 80, 81, 82, 83, 84, 29, 30, 85, 31, 32, 33, 86, 87, 88, 89, 90, 37, 91, 39, 40, 42, 43, 41, 92, 44, 45, 46, 47, 93, 94, 95, 59, 96, 63, 65, 64, 97, 98, 99, 100, 62, 61, 101, 102, 103, 104, 105, 73, 74, 75, 76, 106, 107, 108, 109, 110, 142, 143, 144, 10, 145, 12, 117, 118, 119, 16, 120, 121, 18, 19, 20, 21, 22, 23, 173, 174, 175, 176, 177, 178, 179, 180, 181, 182, 185, 186, 187, 188, 189, 190, 191, 192, 193, 194, 195, 196, 197, 198, 199, 200, 201, 202, 203, 204, 205, 206, 207, 208, 209, 210, 211, 212, 183, 184] rfl (by decide +kernel)
set_option maxRecDepth 20000 in
theorem gX3_doWithOperand_X3_loadWord : GoodIn wsX3_doWithOperand (wsV RX3 172 RX3 yX3_loadWord wsX3_loadWord) := goodIn_app (goodIn_of _ (by decide +kernel)) ggX3_doWithOperand_X3_loadWord
set_option maxRecDepth 20000 in
theorem ggX3_doWithOperand_X0_toldWord : GoodIn wsX3_doWithOperand wsX0_toldWord := goodIn_r _ [145, 12, 117, 118, 119, 16, 120, 121, 18, 19, 20, 21, 22, 23, 183, 184] rfl (by decide +kernel)
set_option maxRecDepth 20000 in
theorem gX3_doWithOperand_X0_toldWord : GoodIn wsX3_doWithOperand (wsV RX3 176 RX0 yX0_toldWord wsX0_toldWord) := goodIn_app (goodIn_of _ (by decide +kernel)) ggX3_doWithOperand_X0_toldWord
set_option maxRecDepth 20000 in
theorem ggX3_doWithOperand_X1_writeWord : GoodIn wsX3_doWithOperand wsX1_writeWord := goodIn_r _ [149, 150, 25, 26, 27, 28, 29, 30, 31, 32, 33, 34, 35, 36, 37, 38, 39, 40, 41, 42, 43, 44, 45, 46, 47, 48, 49, 50, 51, 52, 53, 54, 55, 56, 57, 58, 59, 60, 61, 62, 63, 64, 65, 66, 67, 68, 69, 70, 71, 72, 73, 74, 75, 76, 185, 186, 187, 188, 189, 190, 191, 192, 193, 194, 195, 196, 197, 198, 199, 200, 201, 202, 203, 204, 205, 206, 207, 208, 209, 210, 211, 212] rfl (by decide +kernel)
set_option maxRecDepth 20000 in
theorem gX3_doWithOperand_X1_writeWord : GoodIn wsX3_doWithOperand (wsV RX3 179 RX1 yX1_writeWord wsX1_writeWord) := goodIn_app (goodIn_of _ (by decide +kernel)) ggX3_doWithOperand_X1_writeWord
set_option maxRecDepth 20000 in
theorem ggX3_doWithOperand_X1_read : GoodIn wsX3_doWithOperand wsX1_read := goodIn_r _ [84, 29, 30, 85, 31, 32, 33, 86, 87, 88, 89, 90, 37, 91, 39, 40, 42, 43, 41, 92, 44, 45, 46, 47, 93, 94, 95, 59, 96, 63, 65, 64, 97, 98, 99, 100, 62, 61, 101, 102, 103, 104, 105, 73, 74, 75, 27, 76, 106, 107, 108, 109, 110, 185, 186, 187, 188, 189, 190, 191, 192, 193, 194, 195, 196, 197, 198, 199, 200, 201, 202, 203, 204, 205, 206, 207, 208, 209, 210, 211, 212] rfl (by decide +kernel)
set_option maxRecDepth 20000 in
theorem gX3_doWithOperand_X1_read : GoodIn wsX3_doWithOperand (wsV RX3 52 RX1 yX1_read wsX1_read) := goodIn_app (goodIn_of _ (by decide +kernel)) ggX3_doWithOperand_X1_read
set_option maxRecDepth 20000 in
theorem ggX3_doWithOperand_X3_combine : GoodIn wsX3_doWithOperand wsX3_combine := goodIn_r _ [154, 2, 3, 4, 155, 156, 157, 10, 158, 159, 160, 161, 162, 12, 13, 14, 15, 16, 17, 18, 19, 20, 21, 22, 23, 163, 164, 165, 166, 167, 168, 8, 9, 11, 169, 170, 171, 172, 173, 174, 175, 176, 177, 178, 179, 180, 181, 182, 183, 184] rfl (by decide +kernel)
set_option maxRecDepth 20000 in
theorem gX3_doWithOperand_X3_combine : GoodIn wsX3_doWithOperand (wsV RX3 182 RX3 yX3_combine wsX3_combine) := goodIn_app (goodIn_of _ (by decide +kernel)) ggX3_doWithOperand_X3_combine
theorem dX3_doWithOperand_0 : decode cX3_doWithOperand 0 = .ok (.iload_n 1, 1) := by decide +kernel
theorem dX3_doWithOperand_1 : decode cX3_doWithOperand 1 = .ok (.sipush 192, 3) := by decide +kernel
theorem dX3_doWithOperand_4 : decode cX3_doWithOperand 4 = .ok (.if_icmp .ge 7, 3) := by decide +kernel
theorem dX3_doWithOperand_7 : decode cX3_doWithOperand 7 = .ok (.iconst 1, 1) := by decide +kernel
theorem dX3_doWithOperand_8 : decode cX3_doWithOperand 8 = .ok (.goto 4, 3) := by decide +kernel
theorem dX3_doWithOperand_11 : decode cX3_doWithOperand 11 = .ok (.iconst 0, 1) := by decide +kernel
theorem dX3_doWithOperand_12 : decode cX3_doWithOperand 12 = .ok (.istore_n 3, 1) := by decide +kernel
theorem dX3_doWithOperand_13 : decode cX3_doWithOperand 13 = .ok (.iload_n 1, 1) := by decide +kernel
theorem dX3_doWithOperand_14 : decode cX3_doWithOperand 14 = .ok (.bipush 15, 2) := by decide +kernel
theorem dX3_doWithOperand_16 : decode cX3_doWithOperand 16 = .ok (.iand, 1) := by decide +kernel
theorem dX3_doWithOperand_17 : decode cX3_doWithOperand 17 = .ok (.istore 4, 2) := by decide +kernel
theorem dX3_doWithOperand_19 : decode cX3_doWithOperand 19 = .ok (.iload 4, 2) := by decide +kernel
theorem dX3_doWithOperand_21 : decode cX3_doWithOperand 21 = .ok (.tableswitch 157 7 15 #[51, 157, 157, 157, 157, 84, 106, 115, 124], 51) := by decide +kernel
theorem dX3_doWithOperand_72 : decode cX3_doWithOperand 72 = .ok (.aload_n 0, 1) := by decide +kernel
theorem dX3_doWithOperand_73 : decode cX3_doWithOperand 73 = .ok (.getfield 7, 3) := by decide +kernel
theorem dX3_doWithOperand_76 : decode cX3_doWithOperand 76 = .ok (.iload_n 2, 1) := by decide +kernel
theorem dX3_doWithOperand_77 : decode cX3_doWithOperand 77 = .ok (.aload_n 0, 1) := by decide +kernel
theorem dX3_doWithOperand_78 : decode cX3_doWithOperand 78 = .ok (.getfield 25, 3) := by decide +kernel
theorem dX3_doWithOperand_81 : decode cX3_doWithOperand 81 = .ok (.iload_n 3, 1) := by decide +kernel
theorem dX3_doWithOperand_82 : decode cX3_doWithOperand 82 = .ok (.ifCond .eq 10, 3) := by decide +kernel
theorem dX3_doWithOperand_85 : decode cX3_doWithOperand 85 = .ok (.aload_n 0, 1) := by decide +kernel
theorem dX3_doWithOperand_86 : decode cX3_doWithOperand 86 = .ok (.getfield 74, 3) := by decide +kernel
theorem dX3_doWithOperand_89 : decode cX3_doWithOperand 89 = .ok (.goto 7, 3) := by decide +kernel
theorem dX3_doWithOperand_92 : decode cX3_doWithOperand 92 = .ok (.aload_n 0, 1) := by decide +kernel
theorem dX3_doWithOperand_93 : decode cX3_doWithOperand 93 = .ok (.getfield 81, 3) := by decide +kernel
theorem dX3_doWithOperand_96 : decode cX3_doWithOperand 96 = .ok (.invokevirtual 126, 3) := by decide +kernel
theorem dX3_doWithOperand_99 : decode cX3_doWithOperand 99 = .ok (.invokevirtual 157, 3) := by decide +kernel
theorem dX3_doWithOperand_102 : decode cX3_doWithOperand 102 = .ok (.goto 91, 3) := by decide +kernel
theorem dX3_doWithOperand_105 : decode cX3_doWithOperand 105 = .ok (.aload_n 0, 1) := by decide +kernel
theorem dX3_doWithOperand_106 : decode cX3_doWithOperand 106 = .ok (.getfield 25, 3) := by decide +kernel
theorem dX3_doWithOperand_109 : decode cX3_doWithOperand 109 = .ok (.aload_n 0, 1) := by decide +kernel
theorem dX3_doWithOperand_110 : decode cX3_doWithOperand 110 = .ok (.getfield 119, 3) := by decide +kernel
theorem dX3_doWithOperand_113 : decode cX3_doWithOperand 113 = .ok (.aload_n 0, 1) := by decide +kernel
theorem dX3_doWithOperand_114 : decode cX3_doWithOperand 114 = .ok (.getfield 7, 3) := by decide +kernel
theorem dX3_doWithOperand_117 : decode cX3_doWithOperand 117 = .ok (.iload_n 2, 1) := by decide +kernel
theorem dX3_doWithOperand_118 : decode cX3_doWithOperand 118 = .ok (.invokevirtual 102, 3) := by decide +kernel
theorem dX3_doWithOperand_121 : decode cX3_doWithOperand 121 = .ok (.invokevirtual 166, 3) := by decide +kernel
theorem dX3_doWithOperand_124 : decode cX3_doWithOperand 124 = .ok (.goto 69, 3) := by decide +kernel
theorem dX3_doWithOperand_127 : decode cX3_doWithOperand 127 = .ok (.aload_n 0, 1) := by decide +kernel
theorem dX3_doWithOperand_128 : decode cX3_doWithOperand 128 = .ok (.iload_n 1, 1) := by decide +kernel
theorem dX3_doWithOperand_129 : decode cX3_doWithOperand 129 = .ok (.iload_n 2, 1) := by decide +kernel
theorem dX3_doWithOperand_130 : decode cX3_doWithOperand 130 = .ok (.invokevirtual 169, 3) := by decide +kernel
theorem dX3_doWithOperand_133 : decode cX3_doWithOperand 133 = .ok (.goto 60, 3) := by decide +kernel
theorem dX3_doWithOperand_136 : decode cX3_doWithOperand 136 = .ok (.aload_n 0, 1) := by decide +kernel
theorem dX3_doWithOperand_137 : decode cX3_doWithOperand 137 = .ok (.iload_n 3, 1) := by decide +kernel
theorem dX3_doWithOperand_138 : decode cX3_doWithOperand 138 = .ok (.iload_n 2, 1) := by decide +kernel
theorem dX3_doWithOperand_139 : decode cX3_doWithOperand 139 = .ok (.invokevirtual 172, 3) := by decide +kernel
theorem dX3_doWithOperand_142 : decode cX3_doWithOperand 142 = .ok (.goto 51, 3) := by decide +kernel
theorem dX3_doWithOperand_145 : decode cX3_doWithOperand 145 = .ok (.aload_n 0, 1) := by decide +kernel
theorem dX3_doWithOperand_146 : decode cX3_doWithOperand 146 = .ok (.getfield 7, 3) := by decide +kernel
theorem dX3_doWithOperand_149 : decode cX3_doWithOperand 149 = .ok (.iload_n 2, 1) := by decide +kernel
theorem dX3_doWithOperand_150 : decode cX3_doWithOperand 150 = .ok (.aload_n 0, 1) := by decide +kernel
theorem dX3_doWithOperand_151 : decode cX3_doWithOperand 151 = .ok (.getfield 25, 3) := by decide +kernel
theorem dX3_doWithOperand_154 : decode cX3_doWithOperand 154 = .ok (.iload_n 3, 1) := by decide +kernel
theorem dX3_doWithOperand_155 : decode cX3_doWithOperand 155 = .ok (.ifCond .eq 10, 3) := by decide +kernel
theorem dX3_doWithOperand_158 : decode cX3_doWithOperand 158 = .ok (.aload_n 0, 1) := by decide +kernel
theorem dX3_doWithOperand_159 : decode cX3_doWithOperand 159 = .ok (.getfield 141, 3) := by decide +kernel
theorem dX3_doWithOperand_162 : decode cX3_doWithOperand 162 = .ok (.goto 7, 3) := by decide +kernel
theorem dX3_doWithOperand_165 : decode cX3_doWithOperand 165 = .ok (.aload_n 0, 1) := by decide +kernel
theorem dX3_doWithOperand_166 : decode cX3_doWithOperand 166 = .ok (.getfield 119, 3) := by decide +kernel
theorem dX3_doWithOperand_169 : decode cX3_doWithOperand 169 = .ok (.invokevirtual 176, 3) := by decide +kernel
theorem dX3_doWithOperand_172 : decode cX3_doWithOperand 172 = .ok (.invokevirtual 179, 3) := by decide +kernel
theorem dX3_doWithOperand_175 : decode cX3_doWithOperand 175 = .ok (.goto 18, 3) := by decide +kernel
theorem dX3_doWithOperand_178 : decode cX3_doWithOperand 178 = .ok (.aload_n 0, 1) := by decide +kernel
theorem dX3_doWithOperand_179 : decode cX3_doWithOperand 179 = .ok (.iload 4, 2) := by decide +kernel
theorem dX3_doWithOperand_181 : decode cX3_doWithOperand 181 = .ok (.iload_n 3, 1) := by decide +kernel
theorem dX3_doWithOperand_182 : decode cX3_doWithOperand 182 = .ok (.aload_n 0, 1) := by decide +kernel
theorem dX3_doWithOperand_183 : decode cX3_doWithOperand 183 = .ok (.getfield 7, 3) := by decide +kernel
theorem dX3_doWithOperand_186 : decode cX3_doWithOperand 186 = .ok (.iload_n 2, 1) := by decide +kernel
theorem dX3_doWithOperand_187 : decode cX3_doWithOperand 187 = .ok (.invokevirtual 52, 3) := by decide +kernel
theorem dX3_doWithOperand_190 : decode cX3_doWithOperand 190 = .ok (.invokevirtual 182, 3) := by decide +kernel
theorem dX3_doWithOperand_193 : decode cX3_doWithOperand 193 = .ok (.return_, 1) := by decide +kernel
set_option maxRecDepth 20000 in
theorem ggX3_call_X1_read : GoodIn wsX3_call wsX1_read := goodIn_r _ [8, 9, 10, 11, 12, 13, 14, 15, 16, 17, 18, 19, 20, 21, 22, 23, 24, 25, 26, 27, 28, 29, 30, 31, 32, 33, 34, 35, 36, 37, 38, 39, 40, 41, 42, 43, 44, 45, 46, 47, 48, 49, 50, 51, 52, 53, 7, 54, 55, 56, 57, 58, 59, 107, 108, 109, 110, 111, 112, 113, 114, 115, 116, 117, 118, 119, 120, 121, 122, 123, 124, 125, 126, 127, 128, 129, 130, 131, 132, 133, 134] rfl (by decide +kernel)
set_option maxRecDepth 20000 in
theorem gX3_call_X1_read : GoodIn wsX3_call (wsV RX3 52 RX1 yX1_read wsX1_read) := goodIn_app (goodIn_of _ (by decide +kernel)) ggX3_call_X1_read
set_option maxRecDepth 20000 in
theorem ggX3_call_X3_signed : GoodIn wsX3_call wsX3_signed := goodIn_r _ [64] rfl (by decide +kernel)
set_option maxRecDepth 20000 in
theorem gX3_call_X3_signed : GoodIn wsX3_call (wsV RX3 135 RX3 yX3_signed wsX3_signed) := goodIn_app (goodIn_of _ (by decide +kernel)) ggX3_call_X3_signed
set_option maxRecDepth 20000 in
theorem ggX3_call_X3_pushWord : GoodIn wsX3_call wsX3_pushWord := goodIn_r _ [68, 2, 69, 3, 70, 71, 72, 7, 73, 9, 10, 12, 13, 14, 74, 75, 76, 20, 77, 22, 23, 26, 24, 25, 28, 29, 30, 31, 78, 79, 80, 81, 82, 83, 84, 85, 86, 87, 88, 35, 89, 45, 44, 37, 39, 38, 90, 91, 92, 93, 94, 95, 96, 51, 52, 53, 54, 97, 98, 99, 100, 101, 102, 103, 104, 105, 106, 107, 108, 109, 110, 111, 112, 113, 114, 115, 116, 117, 118, 119, 120, 121, 122, 123, 124, 125, 126, 127, 128, 129, 130, 131, 132, 133, 134] rfl (by decide +kernel)
set_option maxRecDepth 20000 in
theorem gX3_call_X3_pushWord : GoodIn wsX3_call (wsV RX3 160 RX3 yX3_pushWord wsX3_pushWord) := goodIn_app (goodIn_of _ (by decide +kernel)) ggX3_call_X3_pushWord
theorem dX3_call_0 : decode cX3_call 0 = .ok (.iload_n 1, 1) := by decide +kernel
theorem dX3_call_1 : decode cX3_call 1 = .ok (.sipush 141, 3) := by decide +kernel
theorem dX3_call_4 : decode cX3_call 4 = .ok (.if_icmp .ne 23, 3) := by decide +kernel
theorem dX3_call_7 : decode cX3_call 7 = .ok (.aload_n 0, 1) := by decide +kernel
theorem dX3_call_8 : decode cX3_call 8 = .ok (.getfield 48, 3) := by decide +kernel
theorem dX3_call_11 : decode cX3_call 11 = .ok (.aload_n 0, 1) := by decide +kernel
theorem dX3_call_12 : decode cX3_call 12 = .ok (.aload_n 0, 1) := by decide +kernel
theorem dX3_call_13 : decode cX3_call 13 = .ok (.getfield 7, 3) := by decide +kernel
theorem dX3_call_16 : decode cX3_call 16 = .ok (.iload_n 2, 1) := by decide +kernel
theorem dX3_call_17 : decode cX3_call 17 = .ok (.invokevirtual 52, 3) := by decide +kernel
theorem dX3_call_20 : decode cX3_call 20 = .ok (.invokevirtual 135, 3) := by decide +kernel
theorem dX3_call_23 : decode cX3_call 23 = .ok (.iadd, 1) := by decide +kernel
theorem dX3_call_24 : decode cX3_call 24 = .ok (.goto 4, 3) := by decide +kernel
theorem dX3_call_27 : decode cX3_call 27 = .ok (.iload_n 2, 1) := by decide +kernel
theorem dX3_call_28 : decode cX3_call 28 = .ok (.istore_n 3, 1) := by decide +kernel
theorem dX3_call_29 : decode cX3_call 29 = .ok (.aload_n 0, 1) := by decide +kernel
theorem dX3_call_30 : decode cX3_call 30 = .ok (.aload_n 0, 1) := by decide +kernel
theorem dX3_call_31 : decode cX3_call 31 = .ok (.getfield 48, 3) := by decide +kernel
theorem dX3_call_34 : decode cX3_call 34 = .ok (.invokevirtual 160, 3) := by decide +kernel
theorem dX3_call_37 : decode cX3_call 37 = .ok (.aload_n 0, 1) := by decide +kernel
theorem dX3_call_38 : decode cX3_call 38 = .ok (.iload_n 3, 1) := by decide +kernel
theorem dX3_call_39 : decode cX3_call 39 = .ok (.ldc 61, 2) := by decide +kernel
theorem dX3_call_41 : decode cX3_call 41 = .ok (.iand, 1) := by decide +kernel
theorem dX3_call_42 : decode cX3_call 42 = .ok (.putfield 48, 3) := by decide +kernel
theorem dX3_call_45 : decode cX3_call 45 = .ok (.return_, 1) := by decide +kernel
set_option maxRecDepth 20000 in
theorem ggX3_loadWord_X1_readWord : GoodIn wsX3_loadWord wsX1_readWord := goodIn_r _ [9, 10, 11, 12, 8, 13, 14, 15, 16, 17, 18, 19, 20, 21, 22, 23, 24, 25, 26, 27, 28, 29, 30, 31, 32, 33, 34, 35, 36, 37, 38, 39, 40, 41, 42, 43, 44, 45, 46, 47, 48, 49, 50, 51, 52, 53, 54, 55, 56, 57, 58, 59, 60, 61, 62, 63, 64, 93, 94, 95, 96, 97, 98, 99, 100, 101, 102, 103, 104, 105, 106, 107, 108, 109, 110, 111, 112, 113, 114, 115, 116, 117, 118, 119, 120] rfl (by decide +kernel)
set_option maxRecDepth 20000 in
theorem gX3_loadWord_X1_readWord : GoodIn wsX3_loadWord (wsV RX3 102 RX1 yX1_readWord wsX1_readWord) := goodIn_app (goodIn_of _ (by decide +kernel)) ggX3_loadWord_X1_readWord
set_option maxRecDepth 20000 in
theorem ggX3_loadWord_X0_toldWord : GoodIn wsX3_loadWord wsX0_toldWord := goodIn_r _ [69, 70, 71, 72, 73, 74, 75, 76, 77, 78, 79, 80, 81, 82, 121, 122] rfl (by decide +kernel)
set_option maxRecDepth 20000 in
theorem gX3_loadWord_X0_toldWord : GoodIn wsX3_loadWord (wsV RX3 176 RX0 yX0_toldWord wsX0_toldWord) := goodIn_app (goodIn_of _ (by decide +kernel)) ggX3_loadWord_X0_toldWord
theorem dX3_loadWord_0 : decode cX3_loadWord 0 = .ok (.aload_n 0, 1) := by decide +kernel
theorem dX3_loadWord_1 : decode cX3_loadWord 1 = .ok (.getfield 25, 3) := by decide +kernel
theorem dX3_loadWord_4 : decode cX3_loadWord 4 = .ok (.aload_n 0, 1) := by decide +kernel
theorem dX3_loadWord_5 : decode cX3_loadWord 5 = .ok (.getfield 7, 3) := by decide +kernel
theorem dX3_loadWord_8 : decode cX3_loadWord 8 = .ok (.iload_n 2, 1) := by decide +kernel
theorem dX3_loadWord_9 : decode cX3_loadWord 9 = .ok (.invokevirtual 102, 3) := by decide +kernel
theorem dX3_loadWord_12 : decode cX3_loadWord 12 = .ok (.invokevirtual 176, 3) := by decide +kernel
theorem dX3_loadWord_15 : decode cX3_loadWord 15 = .ok (.istore_n 3, 1) := by decide +kernel
theorem dX3_loadWord_16 : decode cX3_loadWord 16 = .ok (.iload_n 1, 1) := by decide +kernel
theorem dX3_loadWord_17 : decode cX3_loadWord 17 = .ok (.ifCond .eq 11, 3) := by decide +kernel
theorem dX3_loadWord_20 : decode cX3_loadWord 20 = .ok (.aload_n 0, 1) := by decide +kernel
theorem dX3_loadWord_21 : decode cX3_loadWord 21 = .ok (.iload_n 3, 1) := by decide +kernel
theorem dX3_loadWord_22 : decode cX3_loadWord 22 = .ok (.putfield 141, 3) := by decide +kernel
theorem dX3_loadWord_25 : decode cX3_loadWord 25 = .ok (.goto 8, 3) := by decide +kernel
theorem dX3_loadWord_28 : decode cX3_loadWord 28 = .ok (.aload_n 0, 1) := by decide +kernel
theorem dX3_loadWord_29 : decode cX3_loadWord 29 = .ok (.iload_n 3, 1) := by decide +kernel
theorem dX3_loadWord_30 : decode cX3_loadWord 30 = .ok (.putfield 119, 3) := by decide +kernel
theorem dX3_loadWord_33 : decode cX3_loadWord 33 = .ok (.return_, 1) := by decide +kernel
set_option maxRecDepth 20000 in
theorem ggX3_combine_X0_combined : GoodIn wsX3_combine wsX0_combined := goodIn_r _ [8, 9, 10, 11, 7, 12, 13, 14, 15, 16, 17, 18, 19, 20, 21, 22, 23, 24, 25, 26, 27, 28, 29, 30, 31, 32, 33, 34, 35, 36, 37, 48, 49] rfl (by decide +kernel)
set_option maxRecDepth 20000 in
theorem gX3_combine_X0_combined : GoodIn wsX3_combine (wsV RX3 186 RX0 yX0_combined wsX0_combined) := goodIn_app (goodIn_of _ (by decide +kernel)) ggX3_combine_X0_combined
theorem dX3_combine_0 : decode cX3_combine 0 = .ok (.iload_n 2, 1) := by decide +kernel
theorem dX3_combine_1 : decode cX3_combine 1 = .ok (.ifCond .eq 23, 3) := by decide +kernel
theorem dX3_combine_4 : decode cX3_combine 4 = .ok (.aload_n 0, 1) := by decide +kernel
theorem dX3_combine_5 : decode cX3_combine 5 = .ok (.aload_n 0, 1) := by decide +kernel
theorem dX3_combine_6 : decode cX3_combine 6 = .ok (.getfield 25, 3) := by decide +kernel
theorem dX3_combine_9 : decode cX3_combine 9 = .ok (.iload_n 1, 1) := by decide +kernel
theorem dX3_combine_10 : decode cX3_combine 10 = .ok (.aload_n 0, 1) := by decide +kernel
theorem dX3_combine_11 : decode cX3_combine 11 = .ok (.getfield 74, 3) := by decide +kernel
theorem dX3_combine_14 : decode cX3_combine 14 = .ok (.iload_n 3, 1) := by decide +kernel
theorem dX3_combine_15 : decode cX3_combine 15 = .ok (.invokevirtual 186, 3) := by decide +kernel
theorem dX3_combine_18 : decode cX3_combine 18 = .ok (.putfield 74, 3) := by decide +kernel
theorem dX3_combine_21 : decode cX3_combine 21 = .ok (.goto 20, 3) := by decide +kernel
theorem dX3_combine_24 : decode cX3_combine 24 = .ok (.aload_n 0, 1) := by decide +kernel
theorem dX3_combine_25 : decode cX3_combine 25 = .ok (.aload_n 0, 1) := by decide +kernel
theorem dX3_combine_26 : decode cX3_combine 26 = .ok (.getfield 25, 3) := by decide +kernel
theorem dX3_combine_29 : decode cX3_combine 29 = .ok (.iload_n 1, 1) := by decide +kernel
theorem dX3_combine_30 : decode cX3_combine 30 = .ok (.aload_n 0, 1) := by decide +kernel
theorem dX3_combine_31 : decode cX3_combine 31 = .ok (.getfield 81, 3) := by decide +kernel
theorem dX3_combine_34 : decode cX3_combine 34 = .ok (.iload_n 3, 1) := by decide +kernel
theorem dX3_combine_35 : decode cX3_combine 35 = .ok (.invokevirtual 186, 3) := by decide +kernel
theorem dX3_combine_38 : decode cX3_combine 38 = .ok (.putfield 81, 3) := by decide +kernel
theorem dX3_combine_41 : decode cX3_combine 41 = .ok (.return_, 1) := by decide +kernel
theorem dX4_init_0 : decode cX4_init 0 = .ok (.aload_n 0, 1) := by decide +kernel
theorem dX4_init_1 : decode cX4_init 1 = .ok (.invokespecial 3, 3) := by decide +kernel
theorem dX4_init_4 : decode cX4_init 4 = .ok (.aload_n 0, 1) := by decide +kernel
theorem dX4_init_5 : decode cX4_init 5 = .ok (.bipush 64, 2) := by decide +kernel
theorem dX4_init_7 : decode cX4_init 7 = .ok (.newarray .int, 2) := by decide +kernel
theorem dX4_init_9 : decode cX4_init 9 = .ok (.putfield 11, 3) := by decide +kernel
theorem dX4_init_12 : decode cX4_init 12 = .ok (.aload_n 0, 1) := by decide +kernel
theorem dX4_init_13 : decode cX4_init 13 = .ok (.sipush 256, 3) := by decide +kernel
theorem dX4_init_16 : decode cX4_init 16 = .ok (.newarray .int, 2) := by decide +kernel
theorem dX4_init_18 : decode cX4_init 18 = .ok (.putfield 15, 3) := by decide +kernel
theorem dX4_init_21 : decode cX4_init 21 = .ok (.aload_n 0, 1) := by decide +kernel
theorem dX4_init_22 : decode cX4_init 22 = .ok (.iconst 3, 1) := by decide +kernel
theorem dX4_init_23 : decode cX4_init 23 = .ok (.putfield 18, 3) := by decide +kernel
theorem dX4_init_26 : decode cX4_init 26 = .ok (.aload_n 0, 1) := by decide +kernel
theorem dX4_init_27 : decode cX4_init 27 = .ok (.iconst 1, 1) := by decide +kernel
theorem dX4_init_28 : decode cX4_init 28 = .ok (.putfield 22, 3) := by decide +kernel
theorem dX4_init_31 : decode cX4_init 31 = .ok (.return_, 1) := by decide +kernel
theorem dX4_stepsOfByte_0 : decode cX4_stepsOfByte 0 = .ok (.aload_n 0, 1) := by decide +kernel
theorem dX4_stepsOfByte_1 : decode cX4_stepsOfByte 1 = .ok (.getfield 18, 3) := by decide +kernel
theorem dX4_stepsOfByte_4 : decode cX4_stepsOfByte 4 = .ok (.iconst 3, 1) := by decide +kernel
theorem dX4_stepsOfByte_5 : decode cX4_stepsOfByte 5 = .ok (.iand, 1) := by decide +kernel
theorem dX4_stepsOfByte_6 : decode cX4_stepsOfByte 6 = .ok (.lookupswitch 31 #[(0, 26), (1, 28)], 26) := by decide +kernel
theorem dX4_stepsOfByte_32 : decode cX4_stepsOfByte 32 = .ok (.iconst 1, 1) := by decide +kernel
theorem dX4_stepsOfByte_33 : decode cX4_stepsOfByte 33 = .ok (.ireturn, 1) := by decide +kernel
theorem dX4_stepsOfByte_34 : decode cX4_stepsOfByte 34 = .ok (.bipush 16, 2) := by decide +kernel
theorem dX4_stepsOfByte_36 : decode cX4_stepsOfByte 36 = .ok (.ireturn, 1) := by decide +kernel
theorem dX4_stepsOfByte_37 : decode cX4_stepsOfByte 37 = .ok (.bipush 64, 2) := by decide +kernel
theorem dX4_stepsOfByte_39 : decode cX4_stepsOfByte 39 = .ok (.ireturn, 1) := by decide +kernel
theorem dX4_takeOnLine_0 : decode cX4_takeOnLine 0 = .ok (.aload_n 0, 1) := by decide +kernel
theorem dX4_takeOnLine_1 : decode cX4_takeOnLine 1 = .ok (.getfield 26, 3) := by decide +kernel
theorem dX4_takeOnLine_4 : decode cX4_takeOnLine 4 = .ok (.bipush 64, 2) := by decide +kernel
theorem dX4_takeOnLine_6 : decode cX4_takeOnLine 6 = .ok (.if_icmp .lt 5, 3) := by decide +kernel
theorem dX4_takeOnLine_9 : decode cX4_takeOnLine 9 = .ok (.iconst 0, 1) := by decide +kernel
theorem dX4_takeOnLine_10 : decode cX4_takeOnLine 10 = .ok (.ireturn, 1) := by decide +kernel
theorem dX4_takeOnLine_11 : decode cX4_takeOnLine 11 = .ok (.aload_n 0, 1) := by decide +kernel
theorem dX4_takeOnLine_12 : decode cX4_takeOnLine 12 = .ok (.getfield 11, 3) := by decide +kernel
theorem dX4_takeOnLine_15 : decode cX4_takeOnLine 15 = .ok (.aload_n 0, 1) := by decide +kernel
theorem dX4_takeOnLine_16 : decode cX4_takeOnLine 16 = .ok (.getfield 29, 3) := by decide +kernel
theorem dX4_takeOnLine_19 : decode cX4_takeOnLine 19 = .ok (.aload_n 0, 1) := by decide +kernel
theorem dX4_takeOnLine_20 : decode cX4_takeOnLine 20 = .ok (.getfield 26, 3) := by decide +kernel
theorem dX4_takeOnLine_23 : decode cX4_takeOnLine 23 = .ok (.iadd, 1) := by decide +kernel
theorem dX4_takeOnLine_24 : decode cX4_takeOnLine 24 = .ok (.bipush 64, 2) := by decide +kernel
theorem dX4_takeOnLine_26 : decode cX4_takeOnLine 26 = .ok (.irem, 1) := by decide +kernel
theorem dX4_takeOnLine_27 : decode cX4_takeOnLine 27 = .ok (.iload_n 1, 1) := by decide +kernel
theorem dX4_takeOnLine_28 : decode cX4_takeOnLine 28 = .ok (.iastore, 1) := by decide +kernel
theorem dX4_takeOnLine_29 : decode cX4_takeOnLine 29 = .ok (.aload_n 0, 1) := by decide +kernel
theorem dX4_takeOnLine_30 : decode cX4_takeOnLine 30 = .ok (.dup, 1) := by decide +kernel
theorem dX4_takeOnLine_31 : decode cX4_takeOnLine 31 = .ok (.getfield 26, 3) := by decide +kernel
theorem dX4_takeOnLine_34 : decode cX4_takeOnLine 34 = .ok (.iconst 1, 1) := by decide +kernel
theorem dX4_takeOnLine_35 : decode cX4_takeOnLine 35 = .ok (.iadd, 1) := by decide +kernel
theorem dX4_takeOnLine_36 : decode cX4_takeOnLine 36 = .ok (.putfield 26, 3) := by decide +kernel
theorem dX4_takeOnLine_39 : decode cX4_takeOnLine 39 = .ok (.iconst 1, 1) := by decide +kernel
theorem dX4_takeOnLine_40 : decode cX4_takeOnLine 40 = .ok (.ireturn, 1) := by decide +kernel
theorem dX4_sentAt_0 : decode cX4_sentAt 0 = .ok (.iload_n 1, 1) := by decide +kernel
theorem dX4_sentAt_1 : decode cX4_sentAt 1 = .ok (.ifCond .lt 20, 3) := by decide +kernel
theorem dX4_sentAt_4 : decode cX4_sentAt 4 = .ok (.iload_n 1, 1) := by decide +kernel
theorem dX4_sentAt_5 : decode cX4_sentAt 5 = .ok (.aload_n 0, 1) := by decide +kernel
theorem dX4_sentAt_6 : decode cX4_sentAt 6 = .ok (.getfield 32, 3) := by decide +kernel
theorem dX4_sentAt_9 : decode cX4_sentAt 9 = .ok (.if_icmp .ge 12, 3) := by decide +kernel
theorem dX4_sentAt_12 : decode cX4_sentAt 12 = .ok (.aload_n 0, 1) := by decide +kernel
theorem dX4_sentAt_13 : decode cX4_sentAt 13 = .ok (.getfield 15, 3) := by decide +kernel
theorem dX4_sentAt_16 : decode cX4_sentAt 16 = .ok (.iload_n 1, 1) := by decide +kernel
theorem dX4_sentAt_17 : decode cX4_sentAt 17 = .ok (.iaload, 1) := by decide +kernel
theorem dX4_sentAt_18 : decode cX4_sentAt 18 = .ok (.goto 4, 3) := by decide +kernel
theorem dX4_sentAt_21 : decode cX4_sentAt 21 = .ok (.iconst (-1), 1) := by decide +kernel
theorem dX4_sentAt_22 : decode cX4_sentAt 22 = .ok (.ireturn, 1) := by decide +kernel
set_option maxRecDepth 20000 in
theorem ggX4_passTime_X4_passTimeIn : GoodIn wsX4_passTime wsX4_passTimeIn := goodIn_r _ [6, 7, 8, 9, 10, 11, 12, 13, 14, 5, 15, 16, 17, 18, 19, 20, 21, 22, 23, 34, 35, 36, 37, 38, 39, 40, 41, 42, 43, 44, 45, 46, 47, 48, 49] rfl (by decide +kernel)
set_option maxRecDepth 20000 in
theorem gX4_passTime_X4_passTimeIn : GoodIn wsX4_passTime (wsV RX4 35 RX4 yX4_passTimeIn wsX4_passTimeIn) := goodIn_app (goodIn_of _ (by decide +kernel)) ggX4_passTime_X4_passTimeIn
set_option maxRecDepth 20000 in
theorem ggX4_passTime_X4_passTimeOut : GoodIn wsX4_passTime wsX4_passTimeOut := goodIn_r _ [27, 28, 29, 30, 31, 32, 33, 19, 20, 21, 5, 22, 23, 34, 35, 36, 37, 38, 39, 40, 41, 42, 43, 44, 45, 46, 47, 48, 49] rfl (by decide +kernel)
set_option maxRecDepth 20000 in
theorem gX4_passTime_X4_passTimeOut : GoodIn wsX4_passTime (wsV RX4 38 RX4 yX4_passTimeOut wsX4_passTimeOut) := goodIn_app (goodIn_of _ (by decide +kernel)) ggX4_passTime_X4_passTimeOut
theorem dX4_passTime_0 : decode cX4_passTime 0 = .ok (.aload_n 0, 1) := by decide +kernel
theorem dX4_passTime_1 : decode cX4_passTime 1 = .ok (.getfield 22, 3) := by decide +kernel
theorem dX4_passTime_4 : decode cX4_passTime 4 = .ok (.ifCond .ne 11, 3) := by decide +kernel
theorem dX4_passTime_7 : decode cX4_passTime 7 = .ok (.aload_n 0, 1) := by decide +kernel
theorem dX4_passTime_8 : decode cX4_passTime 8 = .ok (.invokevirtual 35, 3) := by decide +kernel
theorem dX4_passTime_11 : decode cX4_passTime 11 = .ok (.aload_n 0, 1) := by decide +kernel
theorem dX4_passTime_12 : decode cX4_passTime 12 = .ok (.invokevirtual 38, 3) := by decide +kernel
theorem dX4_passTime_15 : decode cX4_passTime 15 = .ok (.return_, 1) := by decide +kernel
set_option maxRecDepth 20000 in
theorem ggX4_passTimeIn_X4_takeIn : GoodIn wsX4_passTimeIn wsX4_takeIn := goodIn_r _ [10, 11, 12, 5, 13, 19, 20, 21, 22, 23, 24, 25, 26, 27, 28, 29, 30, 31, 32, 33, 34] rfl (by decide +kernel)
set_option maxRecDepth 20000 in
theorem gX4_passTimeIn_X4_takeIn : GoodIn wsX4_passTimeIn (wsV RX4 44 RX4 yX4_takeIn wsX4_takeIn) := goodIn_app (goodIn_of _ (by decide +kernel)) ggX4_passTimeIn_X4_takeIn
set_option maxRecDepth 20000 in
theorem ggX4_passTimeIn_X4_stepsOfByte : GoodIn wsX4_passTimeIn wsX4_stepsOfByte := goodIn_r _ [17, 18, 19, 20, 21, 22, 23, 24, 25, 26, 27, 28, 29, 30, 31, 32, 33, 34] rfl (by decide +kernel)
set_option maxRecDepth 20000 in
theorem gX4_passTimeIn_X4_stepsOfByte : GoodIn wsX4_passTimeIn (wsV RX4 50 RX4 yX4_stepsOfByte wsX4_stepsOfByte) := goodIn_app (goodIn_of _ (by decide +kernel)) ggX4_passTimeIn_X4_stepsOfByte
theorem dX4_passTimeIn_0 : decode cX4_passTimeIn 0 = .ok (.aload_n 0, 1) := by decide +kernel
theorem dX4_passTimeIn_1 : decode cX4_passTimeIn 1 = .ok (.getfield 41, 3) := by decide +kernel
theorem dX4_passTimeIn_4 : decode cX4_passTimeIn 4 = .ok (.ifCond .le 27, 3) := by decide +kernel
theorem dX4_passTimeIn_7 : decode cX4_passTimeIn 7 = .ok (.aload_n 0, 1) := by decide +kernel
theorem dX4_passTimeIn_8 : decode cX4_passTimeIn 8 = .ok (.dup, 1) := by decide +kernel
theorem dX4_passTimeIn_9 : decode cX4_passTimeIn 9 = .ok (.getfield 41, 3) := by decide +kernel
theorem dX4_passTimeIn_12 : decode cX4_passTimeIn 12 = .ok (.iconst 1, 1) := by decide +kernel
theorem dX4_passTimeIn_13 : decode cX4_passTimeIn 13 = .ok (.isub, 1) := by decide +kernel
theorem dX4_passTimeIn_14 : decode cX4_passTimeIn 14 = .ok (.putfield 41, 3) := by decide +kernel
theorem dX4_passTimeIn_17 : decode cX4_passTimeIn 17 = .ok (.aload_n 0, 1) := by decide +kernel
theorem dX4_passTimeIn_18 : decode cX4_passTimeIn 18 = .ok (.getfield 41, 3) := by decide +kernel
theorem dX4_passTimeIn_21 : decode cX4_passTimeIn 21 = .ok (.ifCond .ne 61, 3) := by decide +kernel
theorem dX4_passTimeIn_24 : decode cX4_passTimeIn 24 = .ok (.aload_n 0, 1) := by decide +kernel
theorem dX4_passTimeIn_25 : decode cX4_passTimeIn 25 = .ok (.invokevirtual 44, 3) := by decide +kernel
theorem dX4_passTimeIn_28 : decode cX4_passTimeIn 28 = .ok (.goto 54, 3) := by decide +kernel
theorem dX4_passTimeIn_31 : decode cX4_passTimeIn 31 = .ok (.aload_n 0, 1) := by decide +kernel
theorem dX4_passTimeIn_32 : decode cX4_passTimeIn 32 = .ok (.getfield 26, 3) := by decide +kernel
theorem dX4_passTimeIn_35 : decode cX4_passTimeIn 35 = .ok (.ifCond .le 47, 3) := by decide +kernel
theorem dX4_passTimeIn_38 : decode cX4_passTimeIn 38 = .ok (.aload_n 0, 1) := by decide +kernel
theorem dX4_passTimeIn_39 : decode cX4_passTimeIn 39 = .ok (.aload_n 0, 1) := by decide +kernel
theorem dX4_passTimeIn_40 : decode cX4_passTimeIn 40 = .ok (.getfield 11, 3) := by decide +kernel
theorem dX4_passTimeIn_43 : decode cX4_passTimeIn 43 = .ok (.aload_n 0, 1) := by decide +kernel
theorem dX4_passTimeIn_44 : decode cX4_passTimeIn 44 = .ok (.getfield 29, 3) := by decide +kernel
theorem dX4_passTimeIn_47 : decode cX4_passTimeIn 47 = .ok (.iaload, 1) := by decide +kernel
theorem dX4_passTimeIn_48 : decode cX4_passTimeIn 48 = .ok (.putfield 47, 3) := by decide +kernel
theorem dX4_passTimeIn_51 : decode cX4_passTimeIn 51 = .ok (.aload_n 0, 1) := by decide +kernel
theorem dX4_passTimeIn_52 : decode cX4_passTimeIn 52 = .ok (.aload_n 0, 1) := by decide +kernel
theorem dX4_passTimeIn_53 : decode cX4_passTimeIn 53 = .ok (.getfield 29, 3) := by decide +kernel
theorem dX4_passTimeIn_56 : decode cX4_passTimeIn 56 = .ok (.iconst 1, 1) := by decide +kernel
theorem dX4_passTimeIn_57 : decode cX4_passTimeIn 57 = .ok (.iadd, 1) := by decide +kernel
theorem dX4_passTimeIn_58 : decode cX4_passTimeIn 58 = .ok (.bipush 64, 2) := by decide +kernel
theorem dX4_passTimeIn_60 : decode cX4_passTimeIn 60 = .ok (.irem, 1) := by decide +kernel
theorem dX4_passTimeIn_61 : decode cX4_passTimeIn 61 = .ok (.putfield 29, 3) := by decide +kernel
theorem dX4_passTimeIn_64 : decode cX4_passTimeIn 64 = .ok (.aload_n 0, 1) := by decide +kernel
theorem dX4_passTimeIn_65 : decode cX4_passTimeIn 65 = .ok (.dup, 1) := by decide +kernel
theorem dX4_passTimeIn_66 : decode cX4_passTimeIn 66 = .ok (.getfield 26, 3) := by decide +kernel
theorem dX4_passTimeIn_69 : decode cX4_passTimeIn 69 = .ok (.iconst 1, 1) := by decide +kernel
theorem dX4_passTimeIn_70 : decode cX4_passTimeIn 70 = .ok (.isub, 1) := by decide +kernel
theorem dX4_passTimeIn_71 : decode cX4_passTimeIn 71 = .ok (.putfield 26, 3) := by decide +kernel
theorem dX4_passTimeIn_74 : decode cX4_passTimeIn 74 = .ok (.aload_n 0, 1) := by decide +kernel
theorem dX4_passTimeIn_75 : decode cX4_passTimeIn 75 = .ok (.aload_n 0, 1) := by decide +kernel
theorem dX4_passTimeIn_76 : decode cX4_passTimeIn 76 = .ok (.invokevirtual 50, 3) := by decide +kernel
theorem dX4_passTimeIn_79 : decode cX4_passTimeIn 79 = .ok (.putfield 41, 3) := by decide +kernel
theorem dX4_passTimeIn_82 : decode cX4_passTimeIn 82 = .ok (.return_, 1) := by decide +kernel
theorem dX4_takeIn_0 : decode cX4_takeIn 0 = .ok (.aload_n 0, 1) := by decide +kernel
theorem dX4_takeIn_1 : decode cX4_takeIn 1 = .ok (.getfield 54, 3) := by decide +kernel
theorem dX4_takeIn_4 : decode cX4_takeIn 4 = .ok (.ifCond .eq 11, 3) := by decide +kernel
theorem dX4_takeIn_7 : decode cX4_takeIn 7 = .ok (.aload_n 0, 1) := by decide +kernel
theorem dX4_takeIn_8 : decode cX4_takeIn 8 = .ok (.iconst 1, 1) := by decide +kernel
theorem dX4_takeIn_9 : decode cX4_takeIn 9 = .ok (.putfield 57, 3) := by decide +kernel
theorem dX4_takeIn_12 : decode cX4_takeIn 12 = .ok (.goto 16, 3) := by decide +kernel
theorem dX4_takeIn_15 : decode cX4_takeIn 15 = .ok (.aload_n 0, 1) := by decide +kernel
theorem dX4_takeIn_16 : decode cX4_takeIn 16 = .ok (.iconst 1, 1) := by decide +kernel
theorem dX4_takeIn_17 : decode cX4_takeIn 17 = .ok (.putfield 54, 3) := by decide +kernel
theorem dX4_takeIn_20 : decode cX4_takeIn 20 = .ok (.aload_n 0, 1) := by decide +kernel
theorem dX4_takeIn_21 : decode cX4_takeIn 21 = .ok (.aload_n 0, 1) := by decide +kernel
theorem dX4_takeIn_22 : decode cX4_takeIn 22 = .ok (.getfield 47, 3) := by decide +kernel
theorem dX4_takeIn_25 : decode cX4_takeIn 25 = .ok (.putfield 60, 3) := by decide +kernel
theorem dX4_takeIn_28 : decode cX4_takeIn 28 = .ok (.return_, 1) := by decide +kernel
set_option maxRecDepth 20000 in
theorem ggX4_passTimeOut_X4_stepsOfByte : GoodIn wsX4_passTimeOut wsX4_stepsOfByte := goodIn_r _ [11, 12, 13, 14, 15, 16, 17, 18, 19, 20, 21, 22, 23, 24, 25, 26, 27, 28] rfl (by decide +kernel)
set_option maxRecDepth 20000 in
theorem gX4_passTimeOut_X4_stepsOfByte : GoodIn wsX4_passTimeOut (wsV RX4 50 RX4 yX4_stepsOfByte wsX4_stepsOfByte) := goodIn_app (goodIn_of _ (by decide +kernel)) ggX4_passTimeOut_X4_stepsOfByte
theorem dX4_passTimeOut_0 : decode cX4_passTimeOut 0 = .ok (.aload_n 0, 1) := by decide +kernel
theorem dX4_passTimeOut_1 : decode cX4_passTimeOut 1 = .ok (.getfield 63, 3) := by decide +kernel
theorem dX4_passTimeOut_4 : decode cX4_passTimeOut 4 = .ok (.ifCond .le 56, 3) := by decide +kernel
theorem dX4_passTimeOut_7 : decode cX4_passTimeOut 7 = .ok (.aload_n 0, 1) := by decide +kernel
theorem dX4_passTimeOut_8 : decode cX4_passTimeOut 8 = .ok (.dup, 1) := by decide +kernel
theorem dX4_passTimeOut_9 : decode cX4_passTimeOut 9 = .ok (.getfield 63, 3) := by decide +kernel
theorem dX4_passTimeOut_12 : decode cX4_passTimeOut 12 = .ok (.iconst 1, 1) := by decide +kernel
theorem dX4_passTimeOut_13 : decode cX4_passTimeOut 13 = .ok (.isub, 1) := by decide +kernel
theorem dX4_passTimeOut_14 : decode cX4_passTimeOut 14 = .ok (.putfield 63, 3) := by decide +kernel
theorem dX4_passTimeOut_17 : decode cX4_passTimeOut 17 = .ok (.aload_n 0, 1) := by decide +kernel
theorem dX4_passTimeOut_18 : decode cX4_passTimeOut 18 = .ok (.getfield 63, 3) := by decide +kernel
theorem dX4_passTimeOut_21 : decode cX4_passTimeOut 21 = .ok (.ifCond .ne 67, 3) := by decide +kernel
theorem dX4_passTimeOut_24 : decode cX4_passTimeOut 24 = .ok (.aload_n 0, 1) := by decide +kernel
theorem dX4_passTimeOut_25 : decode cX4_passTimeOut 25 = .ok (.getfield 32, 3) := by decide +kernel
theorem dX4_passTimeOut_28 : decode cX4_passTimeOut 28 = .ok (.sipush 256, 3) := by decide +kernel
theorem dX4_passTimeOut_31 : decode cX4_passTimeOut 31 = .ok (.if_icmp .ge 57, 3) := by decide +kernel
theorem dX4_passTimeOut_34 : decode cX4_passTimeOut 34 = .ok (.aload_n 0, 1) := by decide +kernel
theorem dX4_passTimeOut_35 : decode cX4_passTimeOut 35 = .ok (.getfield 15, 3) := by decide +kernel
theorem dX4_passTimeOut_38 : decode cX4_passTimeOut 38 = .ok (.aload_n 0, 1) := by decide +kernel
theorem dX4_passTimeOut_39 : decode cX4_passTimeOut 39 = .ok (.getfield 32, 3) := by decide +kernel
theorem dX4_passTimeOut_42 : decode cX4_passTimeOut 42 = .ok (.aload_n 0, 1) := by decide +kernel
theorem dX4_passTimeOut_43 : decode cX4_passTimeOut 43 = .ok (.getfield 66, 3) := by decide +kernel
theorem dX4_passTimeOut_46 : decode cX4_passTimeOut 46 = .ok (.iastore, 1) := by decide +kernel
theorem dX4_passTimeOut_47 : decode cX4_passTimeOut 47 = .ok (.aload_n 0, 1) := by decide +kernel
theorem dX4_passTimeOut_48 : decode cX4_passTimeOut 48 = .ok (.dup, 1) := by decide +kernel
theorem dX4_passTimeOut_49 : decode cX4_passTimeOut 49 = .ok (.getfield 32, 3) := by decide +kernel
theorem dX4_passTimeOut_52 : decode cX4_passTimeOut 52 = .ok (.iconst 1, 1) := by decide +kernel
theorem dX4_passTimeOut_53 : decode cX4_passTimeOut 53 = .ok (.iadd, 1) := by decide +kernel
theorem dX4_passTimeOut_54 : decode cX4_passTimeOut 54 = .ok (.putfield 32, 3) := by decide +kernel
theorem dX4_passTimeOut_57 : decode cX4_passTimeOut 57 = .ok (.goto 31, 3) := by decide +kernel
theorem dX4_passTimeOut_60 : decode cX4_passTimeOut 60 = .ok (.aload_n 0, 1) := by decide +kernel
theorem dX4_passTimeOut_61 : decode cX4_passTimeOut 61 = .ok (.getfield 69, 3) := by decide +kernel
theorem dX4_passTimeOut_64 : decode cX4_passTimeOut 64 = .ok (.ifCond .eq 24, 3) := by decide +kernel
theorem dX4_passTimeOut_67 : decode cX4_passTimeOut 67 = .ok (.aload_n 0, 1) := by decide +kernel
theorem dX4_passTimeOut_68 : decode cX4_passTimeOut 68 = .ok (.iconst 0, 1) := by decide +kernel
theorem dX4_passTimeOut_69 : decode cX4_passTimeOut 69 = .ok (.putfield 69, 3) := by decide +kernel
theorem dX4_passTimeOut_72 : decode cX4_passTimeOut 72 = .ok (.aload_n 0, 1) := by decide +kernel
theorem dX4_passTimeOut_73 : decode cX4_passTimeOut 73 = .ok (.aload_n 0, 1) := by decide +kernel
theorem dX4_passTimeOut_74 : decode cX4_passTimeOut 74 = .ok (.getfield 72, 3) := by decide +kernel
theorem dX4_passTimeOut_77 : decode cX4_passTimeOut 77 = .ok (.putfield 66, 3) := by decide +kernel
theorem dX4_passTimeOut_80 : decode cX4_passTimeOut 80 = .ok (.aload_n 0, 1) := by decide +kernel
theorem dX4_passTimeOut_81 : decode cX4_passTimeOut 81 = .ok (.aload_n 0, 1) := by decide +kernel
theorem dX4_passTimeOut_82 : decode cX4_passTimeOut 82 = .ok (.invokevirtual 50, 3) := by decide +kernel
theorem dX4_passTimeOut_85 : decode cX4_passTimeOut 85 = .ok (.putfield 63, 3) := by decide +kernel
theorem dX4_passTimeOut_88 : decode cX4_passTimeOut 88 = .ok (.return_, 1) := by decide +kernel
theorem dX4_asks_0 : decode cX4_asks 0 = .ok (.aload_n 0, 1) := by decide +kernel
theorem dX4_asks_1 : decode cX4_asks 1 = .ok (.getfield 22, 3) := by decide +kernel
theorem dX4_asks_4 : decode cX4_asks 4 = .ok (.ifCond .eq 5, 3) := by decide +kernel
theorem dX4_asks_7 : decode cX4_asks 7 = .ok (.iconst 0, 1) := by decide +kernel
theorem dX4_asks_8 : decode cX4_asks 8 = .ok (.ireturn, 1) := by decide +kernel
theorem dX4_asks_9 : decode cX4_asks 9 = .ok (.aload_n 0, 1) := by decide +kernel
theorem dX4_asks_10 : decode cX4_asks 10 = .ok (.getfield 18, 3) := by decide +kernel
theorem dX4_asks_13 : decode cX4_asks 13 = .ok (.bipush 96, 2) := by decide +kernel
theorem dX4_asks_15 : decode cX4_asks 15 = .ok (.iand, 1) := by decide +kernel
theorem dX4_asks_16 : decode cX4_asks 16 = .ok (.bipush 32, 2) := by decide +kernel
theorem dX4_asks_18 : decode cX4_asks 18 = .ok (.if_icmp .ne 14, 3) := by decide +kernel
theorem dX4_asks_21 : decode cX4_asks 21 = .ok (.aload_n 0, 1) := by decide +kernel
theorem dX4_asks_22 : decode cX4_asks 22 = .ok (.getfield 69, 3) := by decide +kernel
theorem dX4_asks_25 : decode cX4_asks 25 = .ok (.ifCond .ne 7, 3) := by decide +kernel
theorem dX4_asks_28 : decode cX4_asks 28 = .ok (.iconst 1, 1) := by decide +kernel
theorem dX4_asks_29 : decode cX4_asks 29 = .ok (.goto 4, 3) := by decide +kernel
theorem dX4_asks_32 : decode cX4_asks 32 = .ok (.iconst 0, 1) := by decide +kernel
theorem dX4_asks_33 : decode cX4_asks 33 = .ok (.istore_n 1, 1) := by decide +kernel
theorem dX4_asks_34 : decode cX4_asks 34 = .ok (.aload_n 0, 1) := by decide +kernel
theorem dX4_asks_35 : decode cX4_asks 35 = .ok (.getfield 18, 3) := by decide +kernel
theorem dX4_asks_38 : decode cX4_asks 38 = .ok (.sipush 128, 3) := by decide +kernel
theorem dX4_asks_41 : decode cX4_asks 41 = .ok (.iand, 1) := by decide +kernel
theorem dX4_asks_42 : decode cX4_asks 42 = .ok (.ifCond .eq 21, 3) := by decide +kernel
theorem dX4_asks_45 : decode cX4_asks 45 = .ok (.aload_n 0, 1) := by decide +kernel
theorem dX4_asks_46 : decode cX4_asks 46 = .ok (.getfield 54, 3) := by decide +kernel
theorem dX4_asks_49 : decode cX4_asks 49 = .ok (.ifCond .ne 10, 3) := by decide +kernel
theorem dX4_asks_52 : decode cX4_asks 52 = .ok (.aload_n 0, 1) := by decide +kernel
theorem dX4_asks_53 : decode cX4_asks 53 = .ok (.getfield 57, 3) := by decide +kernel
theorem dX4_asks_56 : decode cX4_asks 56 = .ok (.ifCond .eq 7, 3) := by decide +kernel
theorem dX4_asks_59 : decode cX4_asks 59 = .ok (.iconst 1, 1) := by decide +kernel
theorem dX4_asks_60 : decode cX4_asks 60 = .ok (.goto 4, 3) := by decide +kernel
theorem dX4_asks_63 : decode cX4_asks 63 = .ok (.iconst 0, 1) := by decide +kernel
theorem dX4_asks_64 : decode cX4_asks 64 = .ok (.istore_n 2, 1) := by decide +kernel
theorem dX4_asks_65 : decode cX4_asks 65 = .ok (.iload_n 1, 1) := by decide +kernel
theorem dX4_asks_66 : decode cX4_asks 66 = .ok (.ifCond .ne 7, 3) := by decide +kernel
theorem dX4_asks_69 : decode cX4_asks 69 = .ok (.iload_n 2, 1) := by decide +kernel
theorem dX4_asks_70 : decode cX4_asks 70 = .ok (.ifCond .eq 7, 3) := by decide +kernel
theorem dX4_asks_73 : decode cX4_asks 73 = .ok (.iconst 1, 1) := by decide +kernel
theorem dX4_asks_74 : decode cX4_asks 74 = .ok (.goto 4, 3) := by decide +kernel
theorem dX4_asks_77 : decode cX4_asks 77 = .ok (.iconst 0, 1) := by decide +kernel
theorem dX4_asks_78 : decode cX4_asks 78 = .ok (.ireturn, 1) := by decide +kernel
set_option maxRecDepth 20000 in
theorem ggX4_status_X4_asks : GoodIn wsX4_status wsX4_asks := goodIn_r _ [8, 9, 10, 2, 1, 3, 11, 12, 13, 14, 15, 16, 17, 18, 19, 20, 21, 22, 23, 24, 25, 26] rfl (by decide +kernel)
set_option maxRecDepth 20000 in
theorem gX4_status_X4_asks : GoodIn wsX4_status (wsV RX4 75 RX4 yX4_asks wsX4_asks) := goodIn_app (goodIn_of _ (by decide +kernel)) ggX4_status_X4_asks
theorem dX4_status_0 : decode cX4_status 0 = .ok (.aload_n 0, 1) := by decide +kernel
theorem dX4_status_1 : decode cX4_status 1 = .ok (.getfield 54, 3) := by decide +kernel
theorem dX4_status_4 : decode cX4_status 4 = .ok (.ifCond .eq 7, 3) := by decide +kernel
theorem dX4_status_7 : decode cX4_status 7 = .ok (.iconst 1, 1) := by decide +kernel
theorem dX4_status_8 : decode cX4_status 8 = .ok (.goto 4, 3) := by decide +kernel
theorem dX4_status_11 : decode cX4_status 11 = .ok (.iconst 0, 1) := by decide +kernel
theorem dX4_status_12 : decode cX4_status 12 = .ok (.aload_n 0, 1) := by decide +kernel
theorem dX4_status_13 : decode cX4_status 13 = .ok (.getfield 69, 3) := by decide +kernel
theorem dX4_status_16 : decode cX4_status 16 = .ok (.ifCond .eq 7, 3) := by decide +kernel
theorem dX4_status_19 : decode cX4_status 19 = .ok (.iconst 0, 1) := by decide +kernel
theorem dX4_status_20 : decode cX4_status 20 = .ok (.goto 4, 3) := by decide +kernel
theorem dX4_status_23 : decode cX4_status 23 = .ok (.iconst 2, 1) := by decide +kernel
theorem dX4_status_24 : decode cX4_status 24 = .ok (.ior, 1) := by decide +kernel
theorem dX4_status_25 : decode cX4_status 25 = .ok (.aload_n 0, 1) := by decide +kernel
theorem dX4_status_26 : decode cX4_status 26 = .ok (.getfield 57, 3) := by decide +kernel
theorem dX4_status_29 : decode cX4_status 29 = .ok (.ifCond .eq 8, 3) := by decide +kernel
theorem dX4_status_32 : decode cX4_status 32 = .ok (.bipush 32, 2) := by decide +kernel
theorem dX4_status_34 : decode cX4_status 34 = .ok (.goto 4, 3) := by decide +kernel
theorem dX4_status_37 : decode cX4_status 37 = .ok (.iconst 0, 1) := by decide +kernel
theorem dX4_status_38 : decode cX4_status 38 = .ok (.ior, 1) := by decide +kernel
theorem dX4_status_39 : decode cX4_status 39 = .ok (.aload_n 0, 1) := by decide +kernel
theorem dX4_status_40 : decode cX4_status 40 = .ok (.invokevirtual 75, 3) := by decide +kernel
theorem dX4_status_43 : decode cX4_status 43 = .ok (.ifCond .eq 9, 3) := by decide +kernel
theorem dX4_status_46 : decode cX4_status 46 = .ok (.sipush 128, 3) := by decide +kernel
theorem dX4_status_49 : decode cX4_status 49 = .ok (.goto 4, 3) := by decide +kernel
theorem dX4_status_52 : decode cX4_status 52 = .ok (.iconst 0, 1) := by decide +kernel
theorem dX4_status_53 : decode cX4_status 53 = .ok (.ior, 1) := by decide +kernel
theorem dX4_status_54 : decode cX4_status 54 = .ok (.ireturn, 1) := by decide +kernel
theorem dX4_readData_0 : decode cX4_readData 0 = .ok (.aload_n 0, 1) := by decide +kernel
theorem dX4_readData_1 : decode cX4_readData 1 = .ok (.iconst 0, 1) := by decide +kernel
theorem dX4_readData_2 : decode cX4_readData 2 = .ok (.putfield 54, 3) := by decide +kernel
theorem dX4_readData_5 : decode cX4_readData 5 = .ok (.aload_n 0, 1) := by decide +kernel
theorem dX4_readData_6 : decode cX4_readData 6 = .ok (.iconst 0, 1) := by decide +kernel
theorem dX4_readData_7 : decode cX4_readData 7 = .ok (.putfield 57, 3) := by decide +kernel
theorem dX4_readData_10 : decode cX4_readData 10 = .ok (.aload_n 0, 1) := by decide +kernel
theorem dX4_readData_11 : decode cX4_readData 11 = .ok (.getfield 60, 3) := by decide +kernel
theorem dX4_readData_14 : decode cX4_readData 14 = .ok (.ireturn, 1) := by decide +kernel
theorem dX4_writeControl_0 : decode cX4_writeControl 0 = .ok (.aload_n 0, 1) := by decide +kernel
theorem dX4_writeControl_1 : decode cX4_writeControl 1 = .ok (.iload_n 1, 1) := by decide +kernel
theorem dX4_writeControl_2 : decode cX4_writeControl 2 = .ok (.putfield 18, 3) := by decide +kernel
theorem dX4_writeControl_5 : decode cX4_writeControl 5 = .ok (.aload_n 0, 1) := by decide +kernel
theorem dX4_writeControl_6 : decode cX4_writeControl 6 = .ok (.iload_n 1, 1) := by decide +kernel
theorem dX4_writeControl_7 : decode cX4_writeControl 7 = .ok (.iconst 3, 1) := by decide +kernel
theorem dX4_writeControl_8 : decode cX4_writeControl 8 = .ok (.iand, 1) := by decide +kernel
theorem dX4_writeControl_9 : decode cX4_writeControl 9 = .ok (.iconst 3, 1) := by decide +kernel
theorem dX4_writeControl_10 : decode cX4_writeControl 10 = .ok (.if_icmp .ne 7, 3) := by decide +kernel
theorem dX4_writeControl_13 : decode cX4_writeControl 13 = .ok (.iconst 1, 1) := by decide +kernel
theorem dX4_writeControl_14 : decode cX4_writeControl 14 = .ok (.goto 4, 3) := by decide +kernel
theorem dX4_writeControl_17 : decode cX4_writeControl 17 = .ok (.iconst 0, 1) := by decide +kernel
theorem dX4_writeControl_18 : decode cX4_writeControl 18 = .ok (.putfield 22, 3) := by decide +kernel
theorem dX4_writeControl_21 : decode cX4_writeControl 21 = .ok (.aload_n 0, 1) := by decide +kernel
theorem dX4_writeControl_22 : decode cX4_writeControl 22 = .ok (.getfield 22, 3) := by decide +kernel
theorem dX4_writeControl_25 : decode cX4_writeControl 25 = .ok (.ifCond .eq 28, 3) := by decide +kernel
theorem dX4_writeControl_28 : decode cX4_writeControl 28 = .ok (.aload_n 0, 1) := by decide +kernel
theorem dX4_writeControl_29 : decode cX4_writeControl 29 = .ok (.iconst 0, 1) := by decide +kernel
theorem dX4_writeControl_30 : decode cX4_writeControl 30 = .ok (.putfield 54, 3) := by decide +kernel
theorem dX4_writeControl_33 : decode cX4_writeControl 33 = .ok (.aload_n 0, 1) := by decide +kernel
theorem dX4_writeControl_34 : decode cX4_writeControl 34 = .ok (.iconst 0, 1) := by decide +kernel
theorem dX4_writeControl_35 : decode cX4_writeControl 35 = .ok (.putfield 57, 3) := by decide +kernel
theorem dX4_writeControl_38 : decode cX4_writeControl 38 = .ok (.aload_n 0, 1) := by decide +kernel
theorem dX4_writeControl_39 : decode cX4_writeControl 39 = .ok (.iconst 0, 1) := by decide +kernel
theorem dX4_writeControl_40 : decode cX4_writeControl 40 = .ok (.putfield 69, 3) := by decide +kernel
theorem dX4_writeControl_43 : decode cX4_writeControl 43 = .ok (.aload_n 0, 1) := by decide +kernel
theorem dX4_writeControl_44 : decode cX4_writeControl 44 = .ok (.iconst 0, 1) := by decide +kernel
theorem dX4_writeControl_45 : decode cX4_writeControl 45 = .ok (.putfield 41, 3) := by decide +kernel
theorem dX4_writeControl_48 : decode cX4_writeControl 48 = .ok (.aload_n 0, 1) := by decide +kernel
theorem dX4_writeControl_49 : decode cX4_writeControl 49 = .ok (.iconst 0, 1) := by decide +kernel
theorem dX4_writeControl_50 : decode cX4_writeControl 50 = .ok (.putfield 63, 3) := by decide +kernel
theorem dX4_writeControl_53 : decode cX4_writeControl 53 = .ok (.return_, 1) := by decide +kernel
theorem dX4_writeData_0 : decode cX4_writeData 0 = .ok (.aload_n 0, 1) := by decide +kernel
theorem dX4_writeData_1 : decode cX4_writeData 1 = .ok (.getfield 22, 3) := by decide +kernel
theorem dX4_writeData_4 : decode cX4_writeData 4 = .ok (.ifCond .ne 13, 3) := by decide +kernel
theorem dX4_writeData_7 : decode cX4_writeData 7 = .ok (.aload_n 0, 1) := by decide +kernel
theorem dX4_writeData_8 : decode cX4_writeData 8 = .ok (.iload_n 1, 1) := by decide +kernel
theorem dX4_writeData_9 : decode cX4_writeData 9 = .ok (.putfield 72, 3) := by decide +kernel
theorem dX4_writeData_12 : decode cX4_writeData 12 = .ok (.aload_n 0, 1) := by decide +kernel
theorem dX4_writeData_13 : decode cX4_writeData 13 = .ok (.iconst 1, 1) := by decide +kernel
theorem dX4_writeData_14 : decode cX4_writeData 14 = .ok (.putfield 69, 3) := by decide +kernel
theorem dX4_writeData_17 : decode cX4_writeData 17 = .ok (.return_, 1) := by decide +kernel
theorem dX5_init_0 : decode cX5_init 0 = .ok (.aload_n 0, 1) := by decide +kernel
theorem dX5_init_1 : decode cX5_init 1 = .ok (.invokespecial 1, 3) := by decide +kernel
theorem dX5_init_4 : decode cX5_init 4 = .ok (.aload_n 0, 1) := by decide +kernel
theorem dX5_init_5 : decode cX5_init 5 = .ok (.iload_n 1, 1) := by decide +kernel
theorem dX5_init_6 : decode cX5_init 6 = .ok (.putfield 7, 3) := by decide +kernel
theorem dX5_init_9 : decode cX5_init 9 = .ok (.return_, 1) := by decide +kernel
theorem dX5_isKind_0 : decode cX5_isKind 0 = .ok (.aload_n 0, 1) := by decide +kernel
theorem dX5_isKind_1 : decode cX5_isKind 1 = .ok (.getfield 13, 3) := by decide +kernel
theorem dX5_isKind_4 : decode cX5_isKind 4 = .ok (.bipush 56, 2) := by decide +kernel
theorem dX5_isKind_6 : decode cX5_isKind 6 = .ok (.iand, 1) := by decide +kernel
theorem dX5_isKind_7 : decode cX5_isKind 7 = .ok (.iload_n 1, 1) := by decide +kernel
theorem dX5_isKind_8 : decode cX5_isKind 8 = .ok (.if_icmp .ne 7, 3) := by decide +kernel
theorem dX5_isKind_11 : decode cX5_isKind 11 = .ok (.iconst 1, 1) := by decide +kernel
theorem dX5_isKind_12 : decode cX5_isKind 12 = .ok (.goto 4, 3) := by decide +kernel
theorem dX5_isKind_15 : decode cX5_isKind 15 = .ok (.iconst 0, 1) := by decide +kernel
theorem dX5_isKind_16 : decode cX5_isKind 16 = .ok (.ireturn, 1) := by decide +kernel
theorem dX5_isStrobed_0 : decode cX5_isStrobed 0 = .ok (.aload_n 0, 1) := by decide +kernel
theorem dX5_isStrobed_1 : decode cX5_isStrobed 1 = .ok (.getfield 13, 3) := by decide +kernel
theorem dX5_isStrobed_4 : decode cX5_isStrobed 4 = .ok (.bipush 48, 2) := by decide +kernel
theorem dX5_isStrobed_6 : decode cX5_isStrobed 6 = .ok (.iand, 1) := by decide +kernel
theorem dX5_isStrobed_7 : decode cX5_isStrobed 7 = .ok (.bipush 32, 2) := by decide +kernel
theorem dX5_isStrobed_9 : decode cX5_isStrobed 9 = .ok (.if_icmp .ne 7, 3) := by decide +kernel
theorem dX5_isStrobed_12 : decode cX5_isStrobed 12 = .ok (.iconst 1, 1) := by decide +kernel
theorem dX5_isStrobed_13 : decode cX5_isStrobed 13 = .ok (.goto 4, 3) := by decide +kernel
theorem dX5_isStrobed_16 : decode cX5_isStrobed 16 = .ok (.iconst 0, 1) := by decide +kernel
theorem dX5_isStrobed_17 : decode cX5_isStrobed 17 = .ok (.ireturn, 1) := by decide +kernel
theorem dX5_secondLineIsOutput_0 : decode cX5_secondLineIsOutput 0 = .ok (.aload_n 0, 1) := by decide +kernel
theorem dX5_secondLineIsOutput_1 : decode cX5_secondLineIsOutput 1 = .ok (.getfield 13, 3) := by decide +kernel
theorem dX5_secondLineIsOutput_4 : decode cX5_secondLineIsOutput 4 = .ok (.bipush 32, 2) := by decide +kernel
theorem dX5_secondLineIsOutput_6 : decode cX5_secondLineIsOutput 6 = .ok (.iand, 1) := by decide +kernel
theorem dX5_secondLineIsOutput_7 : decode cX5_secondLineIsOutput 7 = .ok (.ifCond .eq 7, 3) := by decide +kernel
theorem dX5_secondLineIsOutput_10 : decode cX5_secondLineIsOutput 10 = .ok (.iconst 1, 1) := by decide +kernel
theorem dX5_secondLineIsOutput_11 : decode cX5_secondLineIsOutput 11 = .ok (.goto 4, 3) := by decide +kernel
theorem dX5_secondLineIsOutput_14 : decode cX5_secondLineIsOutput 14 = .ok (.iconst 0, 1) := by decide +kernel
theorem dX5_secondLineIsOutput_15 : decode cX5_secondLineIsOutput 15 = .ok (.ireturn, 1) := by decide +kernel
set_option maxRecDepth 20000 in
theorem ggX5_readData_X5_isStrobed : GoodIn wsX5_readData wsX5_isStrobed := goodIn_r _ [11, 1, 12, 13, 14, 15, 16, 17, 18] rfl (by decide +kernel)
set_option maxRecDepth 20000 in
theorem gX5_readData_X5_isStrobed : GoodIn wsX5_readData (wsV RX5 20 RX5 yX5_isStrobed wsX5_isStrobed) := goodIn_app (goodIn_of _ (by decide +kernel)) ggX5_readData_X5_isStrobed
theorem dX5_readData_0 : decode cX5_readData 0 = .ok (.aload_n 0, 1) := by decide +kernel
theorem dX5_readData_1 : decode cX5_readData 1 = .ok (.getfield 13, 3) := by decide +kernel
theorem dX5_readData_4 : decode cX5_readData 4 = .ok (.iconst 4, 1) := by decide +kernel
theorem dX5_readData_5 : decode cX5_readData 5 = .ok (.iand, 1) := by decide +kernel
theorem dX5_readData_6 : decode cX5_readData 6 = .ok (.ifCond .ne 8, 3) := by decide +kernel
theorem dX5_readData_9 : decode cX5_readData 9 = .ok (.aload_n 0, 1) := by decide +kernel
theorem dX5_readData_10 : decode cX5_readData 10 = .ok (.getfield 17, 3) := by decide +kernel
theorem dX5_readData_13 : decode cX5_readData 13 = .ok (.ireturn, 1) := by decide +kernel
theorem dX5_readData_14 : decode cX5_readData 14 = .ok (.aload_n 0, 1) := by decide +kernel
theorem dX5_readData_15 : decode cX5_readData 15 = .ok (.dup, 1) := by decide +kernel
theorem dX5_readData_16 : decode cX5_readData 16 = .ok (.getfield 13, 3) := by decide +kernel
theorem dX5_readData_19 : decode cX5_readData 19 = .ok (.bipush 63, 2) := by decide +kernel
theorem dX5_readData_21 : decode cX5_readData 21 = .ok (.iand, 1) := by decide +kernel
theorem dX5_readData_22 : decode cX5_readData 22 = .ok (.putfield 13, 3) := by decide +kernel
theorem dX5_readData_25 : decode cX5_readData 25 = .ok (.aload_n 0, 1) := by decide +kernel
theorem dX5_readData_26 : decode cX5_readData 26 = .ok (.getfield 7, 3) := by decide +kernel
theorem dX5_readData_29 : decode cX5_readData 29 = .ok (.ifCond .eq 15, 3) := by decide +kernel
theorem dX5_readData_32 : decode cX5_readData 32 = .ok (.aload_n 0, 1) := by decide +kernel
theorem dX5_readData_33 : decode cX5_readData 33 = .ok (.invokevirtual 20, 3) := by decide +kernel
theorem dX5_readData_36 : decode cX5_readData 36 = .ok (.ifCond .eq 8, 3) := by decide +kernel
theorem dX5_readData_39 : decode cX5_readData 39 = .ok (.aload_n 0, 1) := by decide +kernel
theorem dX5_readData_40 : decode cX5_readData 40 = .ok (.iconst 0, 1) := by decide +kernel
theorem dX5_readData_41 : decode cX5_readData 41 = .ok (.putfield 24, 3) := by decide +kernel
theorem dX5_readData_44 : decode cX5_readData 44 = .ok (.aload_n 0, 1) := by decide +kernel
theorem dX5_readData_45 : decode cX5_readData 45 = .ok (.getfield 27, 3) := by decide +kernel
theorem dX5_readData_48 : decode cX5_readData 48 = .ok (.aload_n 0, 1) := by decide +kernel
theorem dX5_readData_49 : decode cX5_readData 49 = .ok (.getfield 17, 3) := by decide +kernel
theorem dX5_readData_52 : decode cX5_readData 52 = .ok (.iand, 1) := by decide +kernel
theorem dX5_readData_53 : decode cX5_readData 53 = .ok (.aload_n 0, 1) := by decide +kernel
theorem dX5_readData_54 : decode cX5_readData 54 = .ok (.getfield 30, 3) := by decide +kernel
theorem dX5_readData_57 : decode cX5_readData 57 = .ok (.aload_n 0, 1) := by decide +kernel
theorem dX5_readData_58 : decode cX5_readData 58 = .ok (.getfield 17, 3) := by decide +kernel
theorem dX5_readData_61 : decode cX5_readData 61 = .ok (.iconst (-1), 1) := by decide +kernel
theorem dX5_readData_62 : decode cX5_readData 62 = .ok (.ixor, 1) := by decide +kernel
theorem dX5_readData_63 : decode cX5_readData 63 = .ok (.iand, 1) := by decide +kernel
theorem dX5_readData_64 : decode cX5_readData 64 = .ok (.ior, 1) := by decide +kernel
theorem dX5_readData_65 : decode cX5_readData 65 = .ok (.ireturn, 1) := by decide +kernel
set_option maxRecDepth 20000 in
theorem ggX5_writeData_X5_isStrobed : GoodIn wsX5_writeData wsX5_isStrobed := goodIn_r _ [10, 1, 11, 12, 13, 14, 15, 16, 17] rfl (by decide +kernel)
set_option maxRecDepth 20000 in
theorem gX5_writeData_X5_isStrobed : GoodIn wsX5_writeData (wsV RX5 20 RX5 yX5_isStrobed wsX5_isStrobed) := goodIn_app (goodIn_of _ (by decide +kernel)) ggX5_writeData_X5_isStrobed
theorem dX5_writeData_0 : decode cX5_writeData 0 = .ok (.aload_n 0, 1) := by decide +kernel
theorem dX5_writeData_1 : decode cX5_writeData 1 = .ok (.getfield 13, 3) := by decide +kernel
theorem dX5_writeData_4 : decode cX5_writeData 4 = .ok (.iconst 4, 1) := by decide +kernel
theorem dX5_writeData_5 : decode cX5_writeData 5 = .ok (.iand, 1) := by decide +kernel
theorem dX5_writeData_6 : decode cX5_writeData 6 = .ok (.ifCond .ne 9, 3) := by decide +kernel
theorem dX5_writeData_9 : decode cX5_writeData 9 = .ok (.aload_n 0, 1) := by decide +kernel
theorem dX5_writeData_10 : decode cX5_writeData 10 = .ok (.iload_n 1, 1) := by decide +kernel
theorem dX5_writeData_11 : decode cX5_writeData 11 = .ok (.putfield 17, 3) := by decide +kernel
theorem dX5_writeData_14 : decode cX5_writeData 14 = .ok (.return_, 1) := by decide +kernel
theorem dX5_writeData_15 : decode cX5_writeData 15 = .ok (.aload_n 0, 1) := by decide +kernel
theorem dX5_writeData_16 : decode cX5_writeData 16 = .ok (.iload_n 1, 1) := by decide +kernel
theorem dX5_writeData_17 : decode cX5_writeData 17 = .ok (.putfield 27, 3) := by decide +kernel
theorem dX5_writeData_20 : decode cX5_writeData 20 = .ok (.aload_n 0, 1) := by decide +kernel
theorem dX5_writeData_21 : decode cX5_writeData 21 = .ok (.getfield 7, 3) := by decide +kernel
theorem dX5_writeData_24 : decode cX5_writeData 24 = .ok (.ifCond .ne 15, 3) := by decide +kernel
theorem dX5_writeData_27 : decode cX5_writeData 27 = .ok (.aload_n 0, 1) := by decide +kernel
theorem dX5_writeData_28 : decode cX5_writeData 28 = .ok (.invokevirtual 20, 3) := by decide +kernel
theorem dX5_writeData_31 : decode cX5_writeData 31 = .ok (.ifCond .eq 8, 3) := by decide +kernel
theorem dX5_writeData_34 : decode cX5_writeData 34 = .ok (.aload_n 0, 1) := by decide +kernel
theorem dX5_writeData_35 : decode cX5_writeData 35 = .ok (.iconst 0, 1) := by decide +kernel
theorem dX5_writeData_36 : decode cX5_writeData 36 = .ok (.putfield 24, 3) := by decide +kernel
theorem dX5_writeData_39 : decode cX5_writeData 39 = .ok (.return_, 1) := by decide +kernel
set_option maxRecDepth 20000 in
theorem ggX5_writeControl_X5_isStrobed : GoodIn wsX5_writeControl wsX5_isStrobed := goodIn_r _ [7, 1, 12, 13, 14, 15, 16, 17, 18] rfl (by decide +kernel)
set_option maxRecDepth 20000 in
theorem gX5_writeControl_X5_isStrobed : GoodIn wsX5_writeControl (wsV RX5 20 RX5 yX5_isStrobed wsX5_isStrobed) := goodIn_app (goodIn_of _ (by decide +kernel)) ggX5_writeControl_X5_isStrobed
set_option maxRecDepth 20000 in
theorem ggX5_writeControl_X5_secondLineIsOutput : GoodIn wsX5_writeControl wsX5_secondLineIsOutput := goodIn_r _ [11, 1, 12, 13, 14, 15, 16, 17, 18] rfl (by decide +kernel)
set_option maxRecDepth 20000 in
theorem gX5_writeControl_X5_secondLineIsOutput : GoodIn wsX5_writeControl (wsV RX5 33 RX5 yX5_secondLineIsOutput wsX5_secondLineIsOutput) := goodIn_app (goodIn_of _ (by decide +kernel)) ggX5_writeControl_X5_secondLineIsOutput
theorem dX5_writeControl_0 : decode cX5_writeControl 0 = .ok (.aload_n 0, 1) := by decide +kernel
theorem dX5_writeControl_1 : decode cX5_writeControl 1 = .ok (.aload_n 0, 1) := by decide +kernel
theorem dX5_writeControl_2 : decode cX5_writeControl 2 = .ok (.getfield 13, 3) := by decide +kernel
theorem dX5_writeControl_5 : decode cX5_writeControl 5 = .ok (.bipush (-64), 2) := by decide +kernel
theorem dX5_writeControl_7 : decode cX5_writeControl 7 = .ok (.iand, 1) := by decide +kernel
theorem dX5_writeControl_8 : decode cX5_writeControl 8 = .ok (.iload_n 1, 1) := by decide +kernel
theorem dX5_writeControl_9 : decode cX5_writeControl 9 = .ok (.bipush 63, 2) := by decide +kernel
theorem dX5_writeControl_11 : decode cX5_writeControl 11 = .ok (.iand, 1) := by decide +kernel
theorem dX5_writeControl_12 : decode cX5_writeControl 12 = .ok (.ior, 1) := by decide +kernel
theorem dX5_writeControl_13 : decode cX5_writeControl 13 = .ok (.putfield 13, 3) := by decide +kernel
theorem dX5_writeControl_16 : decode cX5_writeControl 16 = .ok (.aload_n 0, 1) := by decide +kernel
theorem dX5_writeControl_17 : decode cX5_writeControl 17 = .ok (.invokevirtual 20, 3) := by decide +kernel
theorem dX5_writeControl_20 : decode cX5_writeControl 20 = .ok (.ifCond .eq 11, 3) := by decide +kernel
theorem dX5_writeControl_23 : decode cX5_writeControl 23 = .ok (.aload_n 0, 1) := by decide +kernel
theorem dX5_writeControl_24 : decode cX5_writeControl 24 = .ok (.iconst 1, 1) := by decide +kernel
theorem dX5_writeControl_25 : decode cX5_writeControl 25 = .ok (.putfield 24, 3) := by decide +kernel
theorem dX5_writeControl_28 : decode cX5_writeControl 28 = .ok (.goto 19, 3) := by decide +kernel
theorem dX5_writeControl_31 : decode cX5_writeControl 31 = .ok (.aload_n 0, 1) := by decide +kernel
theorem dX5_writeControl_32 : decode cX5_writeControl 32 = .ok (.invokevirtual 33, 3) := by decide +kernel
theorem dX5_writeControl_35 : decode cX5_writeControl 35 = .ok (.ifCond .eq 12, 3) := by decide +kernel
theorem dX5_writeControl_38 : decode cX5_writeControl 38 = .ok (.aload_n 0, 1) := by decide +kernel
theorem dX5_writeControl_39 : decode cX5_writeControl 39 = .ok (.iload_n 1, 1) := by decide +kernel
theorem dX5_writeControl_40 : decode cX5_writeControl 40 = .ok (.iconst 3, 1) := by decide +kernel
theorem dX5_writeControl_41 : decode cX5_writeControl 41 = .ok (.ishr, 1) := by decide +kernel
theorem dX5_writeControl_42 : decode cX5_writeControl 42 = .ok (.iconst 1, 1) := by decide +kernel
theorem dX5_writeControl_43 : decode cX5_writeControl 43 = .ok (.iand, 1) := by decide +kernel
theorem dX5_writeControl_44 : decode cX5_writeControl 44 = .ok (.putfield 24, 3) := by decide +kernel
theorem dX5_writeControl_47 : decode cX5_writeControl 47 = .ok (.return_, 1) := by decide +kernel
set_option maxRecDepth 20000 in
theorem ggX5_setFirstLine_X5_isSeen : GoodIn wsX5_setFirstLine wsX5_isSeen := goodIn_r _ [8, 2, 13, 14, 15, 16, 17, 18, 19] rfl (by decide +kernel)
set_option maxRecDepth 20000 in
theorem gX5_setFirstLine_X5_isSeen : GoodIn wsX5_setFirstLine (wsV RX5 39 RX5 yX5_isSeen wsX5_isSeen) := goodIn_app (goodIn_of _ (by decide +kernel)) ggX5_setFirstLine_X5_isSeen
set_option maxRecDepth 20000 in
theorem ggX5_setFirstLine_X5_isKind : GoodIn wsX5_setFirstLine wsX5_isKind := goodIn_r _ [12, 2, 13, 14, 15, 16, 17, 18, 19] rfl (by decide +kernel)
set_option maxRecDepth 20000 in
theorem gX5_setFirstLine_X5_isKind : GoodIn wsX5_setFirstLine (wsV RX5 43 RX5 yX5_isKind wsX5_isKind) := goodIn_app (goodIn_of _ (by decide +kernel)) ggX5_setFirstLine_X5_isKind
theorem dX5_setFirstLine_0 : decode cX5_setFirstLine 0 = .ok (.aload_n 0, 1) := by decide +kernel
theorem dX5_setFirstLine_1 : decode cX5_setFirstLine 1 = .ok (.aload_n 0, 1) := by decide +kernel
theorem dX5_setFirstLine_2 : decode cX5_setFirstLine 2 = .ok (.getfield 36, 3) := by decide +kernel
theorem dX5_setFirstLine_5 : decode cX5_setFirstLine 5 = .ok (.iload_n 1, 1) := by decide +kernel
theorem dX5_setFirstLine_6 : decode cX5_setFirstLine 6 = .ok (.iconst 2, 1) := by decide +kernel
theorem dX5_setFirstLine_7 : decode cX5_setFirstLine 7 = .ok (.invokevirtual 39, 3) := by decide +kernel
theorem dX5_setFirstLine_10 : decode cX5_setFirstLine 10 = .ok (.istore_n 2, 1) := by decide +kernel
theorem dX5_setFirstLine_11 : decode cX5_setFirstLine 11 = .ok (.aload_n 0, 1) := by decide +kernel
theorem dX5_setFirstLine_12 : decode cX5_setFirstLine 12 = .ok (.iload_n 1, 1) := by decide +kernel
theorem dX5_setFirstLine_13 : decode cX5_setFirstLine 13 = .ok (.putfield 36, 3) := by decide +kernel
theorem dX5_setFirstLine_16 : decode cX5_setFirstLine 16 = .ok (.iload_n 2, 1) := by decide +kernel
theorem dX5_setFirstLine_17 : decode cX5_setFirstLine 17 = .ok (.ifCond .eq 29, 3) := by decide +kernel
theorem dX5_setFirstLine_20 : decode cX5_setFirstLine 20 = .ok (.aload_n 0, 1) := by decide +kernel
theorem dX5_setFirstLine_21 : decode cX5_setFirstLine 21 = .ok (.dup, 1) := by decide +kernel
theorem dX5_setFirstLine_22 : decode cX5_setFirstLine 22 = .ok (.getfield 13, 3) := by decide +kernel
theorem dX5_setFirstLine_25 : decode cX5_setFirstLine 25 = .ok (.sipush 128, 3) := by decide +kernel
theorem dX5_setFirstLine_28 : decode cX5_setFirstLine 28 = .ok (.ior, 1) := by decide +kernel
theorem dX5_setFirstLine_29 : decode cX5_setFirstLine 29 = .ok (.putfield 13, 3) := by decide +kernel
