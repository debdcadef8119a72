theorem dX0_init_0 : decode cX0_init 0 = .ok (.aload_n 0, 1) := by decide +kernel
theorem dX0_init_1 : decode cX0_init 1 = .ok (.invokespecial 1, 3) := by decide +kernel
theorem dX0_init_4 : decode cX0_init 4 = .ok (.aload_n 0, 1) := by decide +kernel
theorem dX0_init_5 : decode cX0_init 5 = .ok (.aload_n 1, 1) := by decide +kernel
theorem dX0_init_6 : decode cX0_init 6 = .ok (.putfield 7, 3) := by decide +kernel
theorem dX0_init_9 : decode cX0_init 9 = .ok (.return_, 1) := by decide +kernel
theorem dX0_carry_0 : decode cX0_carry 0 = .ok (.aload_n 0, 1) := by decide +kernel
theorem dX0_carry_1 : decode cX0_carry 1 = .ok (.getfield 7, 3) := by decide +kernel
theorem dX0_carry_4 : decode cX0_carry 4 = .ok (.getfield 13, 3) := by decide +kernel
theorem dX0_carry_7 : decode cX0_carry 7 = .ok (.iconst 1, 1) := by decide +kernel
theorem dX0_carry_8 : decode cX0_carry 8 = .ok (.iand, 1) := by decide +kernel
theorem dX0_carry_9 : decode cX0_carry 9 = .ok (.ireturn, 1) := by decide +kernel
set_option maxRecDepth 20000 in
theorem ggX0_combined_X0_difference : GoodIn wsX0_combined wsX0_difference := goodIn_r _ [5, 6, 7, 8, 9, 10, 11, 12, 13, 14, 15, 16, 17, 31, 32] (by decide +kernel) (by decide +kernel)
set_option maxRecDepth 20000 in
theorem gX0_combined_X0_difference : GoodIn wsX0_combined (wsV RX0 19 RX0 yX0_difference wsX0_difference) := goodIn_app (goodIn_of _ (by decide +kernel)) ggX0_combined_X0_difference
set_option maxRecDepth 20000 in
theorem ggX0_combined_X0_carry : GoodIn wsX0_combined wsX0_carry := goodIn_r _ [21, 6, 22, 31, 32] (by decide +kernel) (by decide +kernel)
set_option maxRecDepth 20000 in
theorem gX0_combined_X0_carry : GoodIn wsX0_combined (wsV RX0 23 RX0 yX0_carry wsX0_carry) := goodIn_app (goodIn_of _ (by decide +kernel)) ggX0_combined_X0_carry
set_option maxRecDepth 20000 in
theorem ggX0_combined_X0_told : GoodIn wsX0_combined wsX0_told := goodIn_r _ [26, 6, 7, 8, 9, 10, 11, 12, 13, 14, 15, 16, 17, 31, 32] (by decide +kernel) (by decide +kernel)
set_option maxRecDepth 20000 in
theorem gX0_combined_X0_told : GoodIn wsX0_combined (wsV RX0 27 RX0 yX0_told wsX0_told) := goodIn_app (goodIn_of _ (by decide +kernel)) ggX0_combined_X0_told
set_option maxRecDepth 20000 in
theorem ggX0_combined_X0_sum : GoodIn wsX0_combined wsX0_sum := goodIn_r _ [30, 6, 17, 13, 14, 10, 15, 16, 7, 8, 9, 11, 12, 31, 32] (by decide +kernel) (by decide +kernel)
set_option maxRecDepth 20000 in
theorem gX0_combined_X0_sum : GoodIn wsX0_combined (wsV RX0 31 RX0 yX0_sum wsX0_sum) := goodIn_app (goodIn_of _ (by decide +kernel)) ggX0_combined_X0_sum
theorem dX0_combined_0 : decode cX0_combined 0 = .ok (.iload_n 1, 1) := by decide +kernel
theorem dX0_combined_1 : decode cX0_combined 1 = .ok (.tableswitch 151 0 11 #[63, 71, 81, 151, 92, 100, 110, 151, 116, 124, 135, 143], 63) := by decide +kernel
theorem dX0_combined_64 : decode cX0_combined 64 = .ok (.aload_n 0, 1) := by decide +kernel
theorem dX0_combined_65 : decode cX0_combined 65 = .ok (.iload_n 2, 1) := by decide +kernel
theorem dX0_combined_66 : decode cX0_combined 66 = .ok (.iload_n 3, 1) := by decide +kernel
theorem dX0_combined_67 : decode cX0_combined 67 = .ok (.iconst 0, 1) := by decide +kernel
theorem dX0_combined_68 : decode cX0_combined 68 = .ok (.invokevirtual 19, 3) := by decide +kernel
theorem dX0_combined_71 : decode cX0_combined 71 = .ok (.ireturn, 1) := by decide +kernel
theorem dX0_combined_72 : decode cX0_combined 72 = .ok (.aload_n 0, 1) := by decide +kernel
theorem dX0_combined_73 : decode cX0_combined 73 = .ok (.iload_n 2, 1) := by decide +kernel
theorem dX0_combined_74 : decode cX0_combined 74 = .ok (.iload_n 3, 1) := by decide +kernel
theorem dX0_combined_75 : decode cX0_combined 75 = .ok (.iconst 0, 1) := by decide +kernel
theorem dX0_combined_76 : decode cX0_combined 76 = .ok (.invokevirtual 19, 3) := by decide +kernel
theorem dX0_combined_79 : decode cX0_combined 79 = .ok (.pop, 1) := by decide +kernel
theorem dX0_combined_80 : decode cX0_combined 80 = .ok (.iload_n 2, 1) := by decide +kernel
theorem dX0_combined_81 : decode cX0_combined 81 = .ok (.ireturn, 1) := by decide +kernel
theorem dX0_combined_82 : decode cX0_combined 82 = .ok (.aload_n 0, 1) := by decide +kernel
theorem dX0_combined_83 : decode cX0_combined 83 = .ok (.iload_n 2, 1) := by decide +kernel
theorem dX0_combined_84 : decode cX0_combined 84 = .ok (.iload_n 3, 1) := by decide +kernel
theorem dX0_combined_85 : decode cX0_combined 85 = .ok (.aload_n 0, 1) := by decide +kernel
theorem dX0_combined_86 : decode cX0_combined 86 = .ok (.invokevirtual 23, 3) := by decide +kernel
theorem dX0_combined_89 : decode cX0_combined 89 = .ok (.invokevirtual 19, 3) := by decide +kernel
theorem dX0_combined_92 : decode cX0_combined 92 = .ok (.ireturn, 1) := by decide +kernel
theorem dX0_combined_93 : decode cX0_combined 93 = .ok (.aload_n 0, 1) := by decide +kernel
theorem dX0_combined_94 : decode cX0_combined 94 = .ok (.iload_n 2, 1) := by decide +kernel
theorem dX0_combined_95 : decode cX0_combined 95 = .ok (.iload_n 3, 1) := by decide +kernel
theorem dX0_combined_96 : decode cX0_combined 96 = .ok (.iand, 1) := by decide +kernel
theorem dX0_combined_97 : decode cX0_combined 97 = .ok (.invokevirtual 27, 3) := by decide +kernel
theorem dX0_combined_100 : decode cX0_combined 100 = .ok (.ireturn, 1) := by decide +kernel
theorem dX0_combined_101 : decode cX0_combined 101 = .ok (.aload_n 0, 1) := by decide +kernel
theorem dX0_combined_102 : decode cX0_combined 102 = .ok (.iload_n 2, 1) := by decide +kernel
theorem dX0_combined_103 : decode cX0_combined 103 = .ok (.iload_n 3, 1) := by decide +kernel
theorem dX0_combined_104 : decode cX0_combined 104 = .ok (.iand, 1) := by decide +kernel
theorem dX0_combined_105 : decode cX0_combined 105 = .ok (.invokevirtual 27, 3) := by decide +kernel
theorem dX0_combined_108 : decode cX0_combined 108 = .ok (.pop, 1) := by decide +kernel
theorem dX0_combined_109 : decode cX0_combined 109 = .ok (.iload_n 2, 1) := by decide +kernel
theorem dX0_combined_110 : decode cX0_combined 110 = .ok (.ireturn, 1) := by decide +kernel
theorem dX0_combined_111 : decode cX0_combined 111 = .ok (.aload_n 0, 1) := by decide +kernel
theorem dX0_combined_112 : decode cX0_combined 112 = .ok (.iload_n 3, 1) := by decide +kernel
theorem dX0_combined_113 : decode cX0_combined 113 = .ok (.invokevirtual 27, 3) := by decide +kernel
theorem dX0_combined_116 : decode cX0_combined 116 = .ok (.ireturn, 1) := by decide +kernel
theorem dX0_combined_117 : decode cX0_combined 117 = .ok (.aload_n 0, 1) := by decide +kernel
theorem dX0_combined_118 : decode cX0_combined 118 = .ok (.iload_n 2, 1) := by decide +kernel
theorem dX0_combined_119 : decode cX0_combined 119 = .ok (.iload_n 3, 1) := by decide +kernel
theorem dX0_combined_120 : decode cX0_combined 120 = .ok (.ixor, 1) := by decide +kernel
theorem dX0_combined_121 : decode cX0_combined 121 = .ok (.invokevirtual 27, 3) := by decide +kernel
theorem dX0_combined_124 : decode cX0_combined 124 = .ok (.ireturn, 1) := by decide +kernel
theorem dX0_combined_125 : decode cX0_combined 125 = .ok (.aload_n 0, 1) := by decide +kernel
theorem dX0_combined_126 : decode cX0_combined 126 = .ok (.iload_n 2, 1) := by decide +kernel
theorem dX0_combined_127 : decode cX0_combined 127 = .ok (.iload_n 3, 1) := by decide +kernel
theorem dX0_combined_128 : decode cX0_combined 128 = .ok (.aload_n 0, 1) := by decide +kernel
theorem dX0_combined_129 : decode cX0_combined 129 = .ok (.invokevirtual 23, 3) := by decide +kernel
theorem dX0_combined_132 : decode cX0_combined 132 = .ok (.invokevirtual 31, 3) := by decide +kernel
theorem dX0_combined_135 : decode cX0_combined 135 = .ok (.ireturn, 1) := by decide +kernel
theorem dX0_combined_136 : decode cX0_combined 136 = .ok (.aload_n 0, 1) := by decide +kernel
theorem dX0_combined_137 : decode cX0_combined 137 = .ok (.iload_n 2, 1) := by decide +kernel
theorem dX0_combined_138 : decode cX0_combined 138 = .ok (.iload_n 3, 1) := by decide +kernel
theorem dX0_combined_139 : decode cX0_combined 139 = .ok (.ior, 1) := by decide +kernel
theorem dX0_combined_140 : decode cX0_combined 140 = .ok (.invokevirtual 27, 3) := by decide +kernel
theorem dX0_combined_143 : decode cX0_combined 143 = .ok (.ireturn, 1) := by decide +kernel
theorem dX0_combined_144 : decode cX0_combined 144 = .ok (.aload_n 0, 1) := by decide +kernel
theorem dX0_combined_145 : decode cX0_combined 145 = .ok (.iload_n 2, 1) := by decide +kernel
theorem dX0_combined_146 : decode cX0_combined 146 = .ok (.iload_n 3, 1) := by decide +kernel
theorem dX0_combined_147 : decode cX0_combined 147 = .ok (.iconst 0, 1) := by decide +kernel
theorem dX0_combined_148 : decode cX0_combined 148 = .ok (.invokevirtual 31, 3) := by decide +kernel
theorem dX0_combined_151 : decode cX0_combined 151 = .ok (.ireturn, 1) := by decide +kernel
theorem dX0_combined_152 : decode cX0_combined 152 = .ok (.iload_n 2, 1) := by decide +kernel
theorem dX0_combined_153 : decode cX0_combined 153 = .ok (.ireturn, 1) := by decide +kernel
set_option maxRecDepth 20000 in
theorem ggX0_changed_X0_negated : GoodIn wsX0_changed wsX0_negated := goodIn_r _ [6, 1, 7, 8, 9, 10, 11, 12, 13, 14, 15, 16, 17, 39, 40] (by decide +kernel) (by decide +kernel)
set_option maxRecDepth 20000 in
theorem gX0_changed_X0_negated : GoodIn wsX0_changed (wsV RX0 34 RX0 yX0_negated wsX0_negated) := goodIn_app (goodIn_of _ (by decide +kernel)) ggX0_changed_X0_negated
set_option maxRecDepth 20000 in
theorem ggX0_changed_X2_tell : GoodIn wsX0_changed wsX2_tell := goodIn_r _ [15, 16, 40] (by decide +kernel) (by decide +kernel)
set_option maxRecDepth 20000 in
theorem gX0_changed_X2_tell : GoodIn wsX0_changed (wsV RX0 37 RX2 yX2_tell wsX2_tell) := goodIn_app (goodIn_of _ (by decide +kernel)) ggX0_changed_X2_tell
set_option maxRecDepth 20000 in
theorem ggX0_changed_X0_told : GoodIn wsX0_changed wsX0_told := goodIn_r _ [21, 1, 7, 8, 9, 10, 11, 12, 13, 14, 15, 16, 17, 39, 40] (by decide +kernel) (by decide +kernel)
set_option maxRecDepth 20000 in
theorem gX0_changed_X0_told : GoodIn wsX0_changed (wsV RX0 27 RX0 yX0_told wsX0_told) := goodIn_app (goodIn_of _ (by decide +kernel)) ggX0_changed_X0_told
set_option maxRecDepth 20000 in
theorem ggX0_changed_X0_shifted : GoodIn wsX0_changed wsX0_shifted := goodIn_r _ [25, 1, 17, 13, 14, 10, 15, 16, 7, 8, 9, 11, 12, 26, 27, 28, 29, 39, 40] (by decide +kernel) (by decide +kernel)
set_option maxRecDepth 20000 in
theorem gX0_changed_X0_shifted : GoodIn wsX0_changed (wsV RX0 41 RX0 yX0_shifted wsX0_shifted) := goodIn_app (goodIn_of _ (by decide +kernel)) ggX0_changed_X0_shifted
set_option maxRecDepth 20000 in
theorem ggX0_changed_X0_carry : GoodIn wsX0_changed wsX0_carry := goodIn_r _ [33, 1, 34, 39, 40] (by decide +kernel) (by decide +kernel)
set_option maxRecDepth 20000 in
theorem gX0_changed_X0_carry : GoodIn wsX0_changed (wsV RX0 23 RX0 yX0_carry wsX0_carry) := goodIn_app (goodIn_of _ (by decide +kernel)) ggX0_changed_X0_carry
set_option maxRecDepth 20000 in
theorem ggX0_changed_X0_counted : GoodIn wsX0_changed wsX0_counted := goodIn_r _ [38, 1, 7, 8, 9, 10, 11, 12, 13, 14, 15, 16, 17, 39, 40] (by decide +kernel) (by decide +kernel)
set_option maxRecDepth 20000 in
theorem gX0_changed_X0_counted : GoodIn wsX0_changed (wsV RX0 45 RX0 yX0_counted wsX0_counted) := goodIn_app (goodIn_of _ (by decide +kernel)) ggX0_changed_X0_counted
theorem dX0_changed_0 : decode cX0_changed 0 = .ok (.iload_n 1, 1) := by decide +kernel
theorem dX0_changed_1 : decode cX0_changed 1 = .ok (.tableswitch 265 0 15 #[79, 265, 265, 85, 104, 265, 115, 134, 151, 167, 188, 265, 212, 235, 265, 250], 79) := by decide +kernel
theorem dX0_changed_80 : decode cX0_changed 80 = .ok (.aload_n 0, 1) := by decide +kernel
theorem dX0_changed_81 : decode cX0_changed 81 = .ok (.iload_n 2, 1) := by decide +kernel
theorem dX0_changed_82 : decode cX0_changed 82 = .ok (.invokevirtual 34, 3) := by decide +kernel
theorem dX0_changed_85 : decode cX0_changed 85 = .ok (.ireturn, 1) := by decide +kernel
theorem dX0_changed_86 : decode cX0_changed 86 = .ok (.aload_n 0, 1) := by decide +kernel
theorem dX0_changed_87 : decode cX0_changed 87 = .ok (.getfield 7, 3) := by decide +kernel
theorem dX0_changed_90 : decode cX0_changed 90 = .ok (.iconst 1, 1) := by decide +kernel
theorem dX0_changed_91 : decode cX0_changed 91 = .ok (.iconst 1, 1) := by decide +kernel
theorem dX0_changed_92 : decode cX0_changed 92 = .ok (.invokevirtual 37, 3) := by decide +kernel
theorem dX0_changed_95 : decode cX0_changed 95 = .ok (.aload_n 0, 1) := by decide +kernel
theorem dX0_changed_96 : decode cX0_changed 96 = .ok (.iload_n 2, 1) := by decide +kernel
theorem dX0_changed_97 : decode cX0_changed 97 = .ok (.sipush 255, 3) := by decide +kernel
theorem dX0_changed_100 : decode cX0_changed 100 = .ok (.ixor, 1) := by decide +kernel
theorem dX0_changed_101 : decode cX0_changed 101 = .ok (.invokevirtual 27, 3) := by decide +kernel
theorem dX0_changed_104 : decode cX0_changed 104 = .ok (.ireturn, 1) := by decide +kernel
theorem dX0_changed_105 : decode cX0_changed 105 = .ok (.aload_n 0, 1) := by decide +kernel
theorem dX0_changed_106 : decode cX0_changed 106 = .ok (.iload_n 2, 1) := by decide +kernel
theorem dX0_changed_107 : decode cX0_changed 107 = .ok (.iconst 1, 1) := by decide +kernel
theorem dX0_changed_108 : decode cX0_changed 108 = .ok (.ishr, 1) := by decide +kernel
theorem dX0_changed_109 : decode cX0_changed 109 = .ok (.iload_n 2, 1) := by decide +kernel
theorem dX0_changed_110 : decode cX0_changed 110 = .ok (.iconst 1, 1) := by decide +kernel
theorem dX0_changed_111 : decode cX0_changed 111 = .ok (.iand, 1) := by decide +kernel
theorem dX0_changed_112 : decode cX0_changed 112 = .ok (.invokevirtual 41, 3) := by decide +kernel
theorem dX0_changed_115 : decode cX0_changed 115 = .ok (.ireturn, 1) := by decide +kernel
theorem dX0_changed_116 : decode cX0_changed 116 = .ok (.aload_n 0, 1) := by decide +kernel
theorem dX0_changed_117 : decode cX0_changed 117 = .ok (.iload_n 2, 1) := by decide +kernel
theorem dX0_changed_118 : decode cX0_changed 118 = .ok (.iconst 1, 1) := by decide +kernel
theorem dX0_changed_119 : decode cX0_changed 119 = .ok (.ishr, 1) := by decide +kernel
theorem dX0_changed_120 : decode cX0_changed 120 = .ok (.aload_n 0, 1) := by decide +kernel
theorem dX0_changed_121 : decode cX0_changed 121 = .ok (.invokevirtual 23, 3) := by decide +kernel
theorem dX0_changed_124 : decode cX0_changed 124 = .ok (.bipush 7, 2) := by decide +kernel
theorem dX0_changed_126 : decode cX0_changed 126 = .ok (.ishl, 1) := by decide +kernel
theorem dX0_changed_127 : decode cX0_changed 127 = .ok (.ior, 1) := by decide +kernel
theorem dX0_changed_128 : decode cX0_changed 128 = .ok (.iload_n 2, 1) := by decide +kernel
theorem dX0_changed_129 : decode cX0_changed 129 = .ok (.iconst 1, 1) := by decide +kernel
theorem dX0_changed_130 : decode cX0_changed 130 = .ok (.iand, 1) := by decide +kernel
theorem dX0_changed_131 : decode cX0_changed 131 = .ok (.invokevirtual 41, 3) := by decide +kernel
theorem dX0_changed_134 : decode cX0_changed 134 = .ok (.ireturn, 1) := by decide +kernel
theorem dX0_changed_135 : decode cX0_changed 135 = .ok (.aload_n 0, 1) := by decide +kernel
theorem dX0_changed_136 : decode cX0_changed 136 = .ok (.iload_n 2, 1) := by decide +kernel
theorem dX0_changed_137 : decode cX0_changed 137 = .ok (.iconst 1, 1) := by decide +kernel
theorem dX0_changed_138 : decode cX0_changed 138 = .ok (.ishr, 1) := by decide +kernel
theorem dX0_changed_139 : decode cX0_changed 139 = .ok (.iload_n 2, 1) := by decide +kernel
theorem dX0_changed_140 : decode cX0_changed 140 = .ok (.sipush 128, 3) := by decide +kernel
theorem dX0_changed_143 : decode cX0_changed 143 = .ok (.iand, 1) := by decide +kernel
theorem dX0_changed_144 : decode cX0_changed 144 = .ok (.ior, 1) := by decide +kernel
theorem dX0_changed_145 : decode cX0_changed 145 = .ok (.iload_n 2, 1) := by decide +kernel
theorem dX0_changed_146 : decode cX0_changed 146 = .ok (.iconst 1, 1) := by decide +kernel
theorem dX0_changed_147 : decode cX0_changed 147 = .ok (.iand, 1) := by decide +kernel
theorem dX0_changed_148 : decode cX0_changed 148 = .ok (.invokevirtual 41, 3) := by decide +kernel
theorem dX0_changed_151 : decode cX0_changed 151 = .ok (.ireturn, 1) := by decide +kernel
theorem dX0_changed_152 : decode cX0_changed 152 = .ok (.aload_n 0, 1) := by decide +kernel
theorem dX0_changed_153 : decode cX0_changed 153 = .ok (.iload_n 2, 1) := by decide +kernel
theorem dX0_changed_154 : decode cX0_changed 154 = .ok (.iconst 1, 1) := by decide +kernel
theorem dX0_changed_155 : decode cX0_changed 155 = .ok (.ishl, 1) := by decide +kernel
theorem dX0_changed_156 : decode cX0_changed 156 = .ok (.sipush 255, 3) := by decide +kernel
theorem dX0_changed_159 : decode cX0_changed 159 = .ok (.iand, 1) := by decide +kernel
theorem dX0_changed_160 : decode cX0_changed 160 = .ok (.iload_n 2, 1) := by decide +kernel
theorem dX0_changed_161 : decode cX0_changed 161 = .ok (.bipush 7, 2) := by decide +kernel
theorem dX0_changed_163 : decode cX0_changed 163 = .ok (.ishr, 1) := by decide +kernel
theorem dX0_changed_164 : decode cX0_changed 164 = .ok (.invokevirtual 41, 3) := by decide +kernel
theorem dX0_changed_167 : decode cX0_changed 167 = .ok (.ireturn, 1) := by decide +kernel
theorem dX0_changed_168 : decode cX0_changed 168 = .ok (.aload_n 0, 1) := by decide +kernel
theorem dX0_changed_169 : decode cX0_changed 169 = .ok (.iload_n 2, 1) := by decide +kernel
theorem dX0_changed_170 : decode cX0_changed 170 = .ok (.iconst 1, 1) := by decide +kernel
theorem dX0_changed_171 : decode cX0_changed 171 = .ok (.ishl, 1) := by decide +kernel
theorem dX0_changed_172 : decode cX0_changed 172 = .ok (.sipush 255, 3) := by decide +kernel
theorem dX0_changed_175 : decode cX0_changed 175 = .ok (.iand, 1) := by decide +kernel
theorem dX0_changed_176 : decode cX0_changed 176 = .ok (.aload_n 0, 1) := by decide +kernel
theorem dX0_changed_177 : decode cX0_changed 177 = .ok (.invokevirtual 23, 3) := by decide +kernel
theorem dX0_changed_180 : decode cX0_changed 180 = .ok (.ior, 1) := by decide +kernel
theorem dX0_changed_181 : decode cX0_changed 181 = .ok (.iload_n 2, 1) := by decide +kernel
theorem dX0_changed_182 : decode cX0_changed 182 = .ok (.bipush 7, 2) := by decide +kernel
theorem dX0_changed_184 : decode cX0_changed 184 = .ok (.ishr, 1) := by decide +kernel
theorem dX0_changed_185 : decode cX0_changed 185 = .ok (.invokevirtual 41, 3) := by decide +kernel
theorem dX0_changed_188 : decode cX0_changed 188 = .ok (.ireturn, 1) := by decide +kernel
theorem dX0_changed_189 : decode cX0_changed 189 = .ok (.aload_n 0, 1) := by decide +kernel
theorem dX0_changed_190 : decode cX0_changed 190 = .ok (.iload_n 2, 1) := by decide +kernel
theorem dX0_changed_191 : decode cX0_changed 191 = .ok (.iconst 1, 1) := by decide +kernel
theorem dX0_changed_192 : decode cX0_changed 192 = .ok (.isub, 1) := by decide +kernel
theorem dX0_changed_193 : decode cX0_changed 193 = .ok (.sipush 255, 3) := by decide +kernel
theorem dX0_changed_196 : decode cX0_changed 196 = .ok (.iand, 1) := by decide +kernel
theorem dX0_changed_197 : decode cX0_changed 197 = .ok (.iload_n 2, 1) := by decide +kernel
theorem dX0_changed_198 : decode cX0_changed 198 = .ok (.sipush 128, 3) := by decide +kernel
theorem dX0_changed_201 : decode cX0_changed 201 = .ok (.if_icmp .ne 7, 3) := by decide +kernel
theorem dX0_changed_204 : decode cX0_changed 204 = .ok (.iconst 1, 1) := by decide +kernel
theorem dX0_changed_205 : decode cX0_changed 205 = .ok (.goto 4, 3) := by decide +kernel
theorem dX0_changed_208 : decode cX0_changed 208 = .ok (.iconst 0, 1) := by decide +kernel
theorem dX0_changed_209 : decode cX0_changed 209 = .ok (.invokevirtual 45, 3) := by decide +kernel
theorem dX0_changed_212 : decode cX0_changed 212 = .ok (.ireturn, 1) := by decide +kernel
theorem dX0_changed_213 : decode cX0_changed 213 = .ok (.aload_n 0, 1) := by decide +kernel
theorem dX0_changed_214 : decode cX0_changed 214 = .ok (.iload_n 2, 1) := by decide +kernel
theorem dX0_changed_215 : decode cX0_changed 215 = .ok (.iconst 1, 1) := by decide +kernel
theorem dX0_changed_216 : decode cX0_changed 216 = .ok (.iadd, 1) := by decide +kernel
theorem dX0_changed_217 : decode cX0_changed 217 = .ok (.sipush 255, 3) := by decide +kernel
theorem dX0_changed_220 : decode cX0_changed 220 = .ok (.iand, 1) := by decide +kernel
theorem dX0_changed_221 : decode cX0_changed 221 = .ok (.iload_n 2, 1) := by decide +kernel
theorem dX0_changed_222 : decode cX0_changed 222 = .ok (.bipush 127, 2) := by decide +kernel
theorem dX0_changed_224 : decode cX0_changed 224 = .ok (.if_icmp .ne 7, 3) := by decide +kernel
theorem dX0_changed_227 : decode cX0_changed 227 = .ok (.iconst 1, 1) := by decide +kernel
theorem dX0_changed_228 : decode cX0_changed 228 = .ok (.goto 4, 3) := by decide +kernel
theorem dX0_changed_231 : decode cX0_changed 231 = .ok (.iconst 0, 1) := by decide +kernel
theorem dX0_changed_232 : decode cX0_changed 232 = .ok (.invokevirtual 45, 3) := by decide +kernel
theorem dX0_changed_235 : decode cX0_changed 235 = .ok (.ireturn, 1) := by decide +kernel
theorem dX0_changed_236 : decode cX0_changed 236 = .ok (.aload_n 0, 1) := by decide +kernel
theorem dX0_changed_237 : decode cX0_changed 237 = .ok (.getfield 7, 3) := by decide +kernel
theorem dX0_changed_240 : decode cX0_changed 240 = .ok (.iconst 1, 1) := by decide +kernel
theorem dX0_changed_241 : decode cX0_changed 241 = .ok (.iconst 0, 1) := by decide +kernel
theorem dX0_changed_242 : decode cX0_changed 242 = .ok (.invokevirtual 37, 3) := by decide +kernel
theorem dX0_changed_245 : decode cX0_changed 245 = .ok (.aload_n 0, 1) := by decide +kernel
theorem dX0_changed_246 : decode cX0_changed 246 = .ok (.iload_n 2, 1) := by decide +kernel
theorem dX0_changed_247 : decode cX0_changed 247 = .ok (.invokevirtual 27, 3) := by decide +kernel
theorem dX0_changed_250 : decode cX0_changed 250 = .ok (.ireturn, 1) := by decide +kernel
theorem dX0_changed_251 : decode cX0_changed 251 = .ok (.aload_n 0, 1) := by decide +kernel
theorem dX0_changed_252 : decode cX0_changed 252 = .ok (.getfield 7, 3) := by decide +kernel
theorem dX0_changed_255 : decode cX0_changed 255 = .ok (.iconst 1, 1) := by decide +kernel
theorem dX0_changed_256 : decode cX0_changed 256 = .ok (.iconst 0, 1) := by decide +kernel
theorem dX0_changed_257 : decode cX0_changed 257 = .ok (.invokevirtual 37, 3) := by decide +kernel
theorem dX0_changed_260 : decode cX0_changed 260 = .ok (.aload_n 0, 1) := by decide +kernel
theorem dX0_changed_261 : decode cX0_changed 261 = .ok (.iconst 0, 1) := by decide +kernel
theorem dX0_changed_262 : decode cX0_changed 262 = .ok (.invokevirtual 27, 3) := by decide +kernel
theorem dX0_changed_265 : decode cX0_changed 265 = .ok (.ireturn, 1) := by decide +kernel
theorem dX0_changed_266 : decode cX0_changed 266 = .ok (.iload_n 2, 1) := by decide +kernel
theorem dX0_changed_267 : decode cX0_changed 267 = .ok (.ireturn, 1) := by decide +kernel
set_option maxRecDepth 20000 in
theorem ggX0_told_X2_tellSignAndZero : GoodIn wsX0_told wsX2_tellSignAndZero := goodIn_r _ [6, 7, 8, 9, 5, 10, 11, 14] (by decide +kernel) (by decide +kernel)
set_option maxRecDepth 20000 in
theorem gX0_told_X2_tellSignAndZero : GoodIn wsX0_told (wsV RX0 49 RX2 yX2_tellSignAndZero wsX2_tellSignAndZero) := goodIn_app (goodIn_of _ (by decide +kernel)) ggX0_told_X2_tellSignAndZero
set_option maxRecDepth 20000 in
theorem ggX0_told_X2_tell : GoodIn wsX0_told wsX2_tell := goodIn_r _ [10, 11, 14] (by decide +kernel) (by decide +kernel)
set_option maxRecDepth 20000 in
theorem gX0_told_X2_tell : GoodIn wsX0_told (wsV RX0 37 RX2 yX2_tell wsX2_tell) := goodIn_app (goodIn_of _ (by decide +kernel)) ggX0_told_X2_tell
theorem dX0_told_0 : decode cX0_told 0 = .ok (.aload_n 0, 1) := by decide +kernel
theorem dX0_told_1 : decode cX0_told 1 = .ok (.getfield 7, 3) := by decide +kernel
theorem dX0_told_4 : decode cX0_told 4 = .ok (.iload_n 1, 1) := by decide +kernel
theorem dX0_told_5 : decode cX0_told 5 = .ok (.invokevirtual 49, 3) := by decide +kernel
theorem dX0_told_8 : decode cX0_told 8 = .ok (.aload_n 0, 1) := by decide +kernel
theorem dX0_told_9 : decode cX0_told 9 = .ok (.getfield 7, 3) := by decide +kernel
theorem dX0_told_12 : decode cX0_told 12 = .ok (.iconst 2, 1) := by decide +kernel
theorem dX0_told_13 : decode cX0_told 13 = .ok (.iconst 0, 1) := by decide +kernel
theorem dX0_told_14 : decode cX0_told 14 = .ok (.invokevirtual 37, 3) := by decide +kernel
theorem dX0_told_17 : decode cX0_told 17 = .ok (.iload_n 1, 1) := by decide +kernel
theorem dX0_told_18 : decode cX0_told 18 = .ok (.ireturn, 1) := by decide +kernel
set_option maxRecDepth 20000 in
theorem ggX0_toldWord_X2_tellWordSignAndZero : GoodIn wsX0_toldWord wsX2_tellWordSignAndZero := goodIn_r _ [6, 7, 8, 9, 10, 5, 11, 12, 15] (by decide +kernel) (by decide +kernel)
set_option maxRecDepth 20000 in
theorem gX0_toldWord_X2_tellWordSignAndZero : GoodIn wsX0_toldWord (wsV RX0 53 RX2 yX2_tellWordSignAndZero wsX2_tellWordSignAndZero) := goodIn_app (goodIn_of _ (by decide +kernel)) ggX0_toldWord_X2_tellWordSignAndZero
set_option maxRecDepth 20000 in
theorem ggX0_toldWord_X2_tell : GoodIn wsX0_toldWord wsX2_tell := goodIn_r _ [11, 12, 15] (by decide +kernel) (by decide +kernel)
set_option maxRecDepth 20000 in
theorem gX0_toldWord_X2_tell : GoodIn wsX0_toldWord (wsV RX0 37 RX2 yX2_tell wsX2_tell) := goodIn_app (goodIn_of _ (by decide +kernel)) ggX0_toldWord_X2_tell
theorem dX0_toldWord_0 : decode cX0_toldWord 0 = .ok (.aload_n 0, 1) := by decide +kernel
theorem dX0_toldWord_1 : decode cX0_toldWord 1 = .ok (.getfield 7, 3) := by decide +kernel
theorem dX0_toldWord_4 : decode cX0_toldWord 4 = .ok (.iload_n 1, 1) := by decide +kernel
theorem dX0_toldWord_5 : decode cX0_toldWord 5 = .ok (.invokevirtual 53, 3) := by decide +kernel
theorem dX0_toldWord_8 : decode cX0_toldWord 8 = .ok (.aload_n 0, 1) := by decide +kernel
theorem dX0_toldWord_9 : decode cX0_toldWord 9 = .ok (.getfield 7, 3) := by decide +kernel
theorem dX0_toldWord_12 : decode cX0_toldWord 12 = .ok (.iconst 2, 1) := by decide +kernel
theorem dX0_toldWord_13 : decode cX0_toldWord 13 = .ok (.iconst 0, 1) := by decide +kernel
theorem dX0_toldWord_14 : decode cX0_toldWord 14 = .ok (.invokevirtual 37, 3) := by decide +kernel
theorem dX0_toldWord_17 : decode cX0_toldWord 17 = .ok (.iload_n 1, 1) := by decide +kernel
theorem dX0_toldWord_18 : decode cX0_toldWord 18 = .ok (.ireturn, 1) := by decide +kernel
set_option maxRecDepth 20000 in
theorem ggX0_sum_X2_tell : GoodIn wsX0_sum wsX2_tell := goodIn_r _ [6, 7, 14] (by decide +kernel) (by decide +kernel)
set_option maxRecDepth 20000 in
theorem gX0_sum_X2_tell : GoodIn wsX0_sum (wsV RX0 37 RX2 yX2_tell wsX2_tell) := goodIn_app (goodIn_of _ (by decide +kernel)) ggX0_sum_X2_tell
set_option maxRecDepth 20000 in
theorem ggX0_sum_X2_tellSignAndZero : GoodIn wsX0_sum wsX2_tellSignAndZero := goodIn_r _ [11, 12, 3, 4, 5, 6, 7, 14] (by decide +kernel) (by decide +kernel)
set_option maxRecDepth 20000 in
theorem gX0_sum_X2_tellSignAndZero : GoodIn wsX0_sum (wsV RX0 49 RX2 yX2_tellSignAndZero wsX2_tellSignAndZero) := goodIn_app (goodIn_of _ (by decide +kernel)) ggX0_sum_X2_tellSignAndZero
theorem dX0_sum_0 : decode cX0_sum 0 = .ok (.iload_n 1, 1) := by decide +kernel
theorem dX0_sum_1 : decode cX0_sum 1 = .ok (.iload_n 2, 1) := by decide +kernel
theorem dX0_sum_2 : decode cX0_sum 2 = .ok (.iadd, 1) := by decide +kernel
theorem dX0_sum_3 : decode cX0_sum 3 = .ok (.iload_n 3, 1) := by decide +kernel
theorem dX0_sum_4 : decode cX0_sum 4 = .ok (.iadd, 1) := by decide +kernel
theorem dX0_sum_5 : decode cX0_sum 5 = .ok (.istore 4, 2) := by decide +kernel
theorem dX0_sum_7 : decode cX0_sum 7 = .ok (.iload 4, 2) := by decide +kernel
theorem dX0_sum_9 : decode cX0_sum 9 = .ok (.sipush 255, 3) := by decide +kernel
theorem dX0_sum_12 : decode cX0_sum 12 = .ok (.iand, 1) := by decide +kernel
theorem dX0_sum_13 : decode cX0_sum 13 = .ok (.istore 5, 2) := by decide +kernel
theorem dX0_sum_15 : decode cX0_sum 15 = .ok (.aload_n 0, 1) := by decide +kernel
theorem dX0_sum_16 : decode cX0_sum 16 = .ok (.getfield 7, 3) := by decide +kernel
theorem dX0_sum_19 : decode cX0_sum 19 = .ok (.bipush 32, 2) := by decide +kernel
theorem dX0_sum_21 : decode cX0_sum 21 = .ok (.iload_n 1, 1) := by decide +kernel
theorem dX0_sum_22 : decode cX0_sum 22 = .ok (.bipush 15, 2) := by decide +kernel
theorem dX0_sum_24 : decode cX0_sum 24 = .ok (.iand, 1) := by decide +kernel
theorem dX0_sum_25 : decode cX0_sum 25 = .ok (.iload_n 2, 1) := by decide +kernel
theorem dX0_sum_26 : decode cX0_sum 26 = .ok (.bipush 15, 2) := by decide +kernel
theorem dX0_sum_28 : decode cX0_sum 28 = .ok (.iand, 1) := by decide +kernel
theorem dX0_sum_29 : decode cX0_sum 29 = .ok (.iadd, 1) := by decide +kernel
theorem dX0_sum_30 : decode cX0_sum 30 = .ok (.iload_n 3, 1) := by decide +kernel
theorem dX0_sum_31 : decode cX0_sum 31 = .ok (.iadd, 1) := by decide +kernel
theorem dX0_sum_32 : decode cX0_sum 32 = .ok (.bipush 15, 2) := by decide +kernel
theorem dX0_sum_34 : decode cX0_sum 34 = .ok (.if_icmp .le 7, 3) := by decide +kernel
theorem dX0_sum_37 : decode cX0_sum 37 = .ok (.iconst 1, 1) := by decide +kernel
theorem dX0_sum_38 : decode cX0_sum 38 = .ok (.goto 4, 3) := by decide +kernel
theorem dX0_sum_41 : decode cX0_sum 41 = .ok (.iconst 0, 1) := by decide +kernel
theorem dX0_sum_42 : decode cX0_sum 42 = .ok (.invokevirtual 37, 3) := by decide +kernel
theorem dX0_sum_45 : decode cX0_sum 45 = .ok (.aload_n 0, 1) := by decide +kernel
theorem dX0_sum_46 : decode cX0_sum 46 = .ok (.getfield 7, 3) := by decide +kernel
theorem dX0_sum_49 : decode cX0_sum 49 = .ok (.iload 5, 2) := by decide +kernel
theorem dX0_sum_51 : decode cX0_sum 51 = .ok (.invokevirtual 49, 3) := by decide +kernel
theorem dX0_sum_54 : decode cX0_sum 54 = .ok (.aload_n 0, 1) := by decide +kernel
theorem dX0_sum_55 : decode cX0_sum 55 = .ok (.getfield 7, 3) := by decide +kernel
theorem dX0_sum_58 : decode cX0_sum 58 = .ok (.iconst 2, 1) := by decide +kernel
theorem dX0_sum_59 : decode cX0_sum 59 = .ok (.iload_n 1, 1) := by decide +kernel
theorem dX0_sum_60 : decode cX0_sum 60 = .ok (.iload 5, 2) := by decide +kernel
theorem dX0_sum_62 : decode cX0_sum 62 = .ok (.ixor, 1) := by decide +kernel
theorem dX0_sum_63 : decode cX0_sum 63 = .ok (.iload_n 2, 1) := by decide +kernel
theorem dX0_sum_64 : decode cX0_sum 64 = .ok (.iload 5, 2) := by decide +kernel
theorem dX0_sum_66 : decode cX0_sum 66 = .ok (.ixor, 1) := by decide +kernel
theorem dX0_sum_67 : decode cX0_sum 67 = .ok (.iand, 1) := by decide +kernel
theorem dX0_sum_68 : decode cX0_sum 68 = .ok (.sipush 128, 3) := by decide +kernel
theorem dX0_sum_71 : decode cX0_sum 71 = .ok (.iand, 1) := by decide +kernel
theorem dX0_sum_72 : decode cX0_sum 72 = .ok (.ifCond .eq 7, 3) := by decide +kernel
theorem dX0_sum_75 : decode cX0_sum 75 = .ok (.iconst 1, 1) := by decide +kernel
theorem dX0_sum_76 : decode cX0_sum 76 = .ok (.goto 4, 3) := by decide +kernel
theorem dX0_sum_79 : decode cX0_sum 79 = .ok (.iconst 0, 1) := by decide +kernel
theorem dX0_sum_80 : decode cX0_sum 80 = .ok (.invokevirtual 37, 3) := by decide +kernel
theorem dX0_sum_83 : decode cX0_sum 83 = .ok (.aload_n 0, 1) := by decide +kernel
theorem dX0_sum_84 : decode cX0_sum 84 = .ok (.getfield 7, 3) := by decide +kernel
theorem dX0_sum_87 : decode cX0_sum 87 = .ok (.iconst 1, 1) := by decide +kernel
theorem dX0_sum_88 : decode cX0_sum 88 = .ok (.iload 4, 2) := by decide +kernel
theorem dX0_sum_90 : decode cX0_sum 90 = .ok (.sipush 255, 3) := by decide +kernel
theorem dX0_sum_93 : decode cX0_sum 93 = .ok (.if_icmp .le 7, 3) := by decide +kernel
theorem dX0_sum_96 : decode cX0_sum 96 = .ok (.iconst 1, 1) := by decide +kernel
theorem dX0_sum_97 : decode cX0_sum 97 = .ok (.goto 4, 3) := by decide +kernel
theorem dX0_sum_100 : decode cX0_sum 100 = .ok (.iconst 0, 1) := by decide +kernel
theorem dX0_sum_101 : decode cX0_sum 101 = .ok (.invokevirtual 37, 3) := by decide +kernel
theorem dX0_sum_104 : decode cX0_sum 104 = .ok (.iload 5, 2) := by decide +kernel
theorem dX0_sum_106 : decode cX0_sum 106 = .ok (.ireturn, 1) := by decide +kernel
set_option maxRecDepth 20000 in
theorem ggX0_difference_X2_tellSignAndZero : GoodIn wsX0_difference wsX2_tellSignAndZero := goodIn_r _ [6, 7, 8, 9, 5, 10, 11, 14] (by decide +kernel) (by decide +kernel)
set_option maxRecDepth 20000 in
theorem gX0_difference_X2_tellSignAndZero : GoodIn wsX0_difference (wsV RX0 49 RX2 yX2_tellSignAndZero wsX2_tellSignAndZero) := goodIn_app (goodIn_of _ (by decide +kernel)) ggX0_difference_X2_tellSignAndZero
set_option maxRecDepth 20000 in
theorem ggX0_difference_X2_tell : GoodIn wsX0_difference wsX2_tell := goodIn_r _ [10, 11, 14] (by decide +kernel) (by decide +kernel)
set_option maxRecDepth 20000 in
theorem gX0_difference_X2_tell : GoodIn wsX0_difference (wsV RX0 37 RX2 yX2_tell wsX2_tell) := goodIn_app (goodIn_of _ (by decide +kernel)) ggX0_difference_X2_tell
theorem dX0_difference_0 : decode cX0_difference 0 = .ok (.iload_n 1, 1) := by decide +kernel
theorem dX0_difference_1 : decode cX0_difference 1 = .ok (.iload_n 2, 1) := by decide +kernel
theorem dX0_difference_2 : decode cX0_difference 2 = .ok (.isub, 1) := by decide +kernel
theorem dX0_difference_3 : decode cX0_difference 3 = .ok (.iload_n 3, 1) := by decide +kernel
theorem dX0_difference_4 : decode cX0_difference 4 = .ok (.isub, 1) := by decide +kernel
theorem dX0_difference_5 : decode cX0_difference 5 = .ok (.istore 4, 2) := by decide +kernel
theorem dX0_difference_7 : decode cX0_difference 7 = .ok (.iload 4, 2) := by decide +kernel
theorem dX0_difference_9 : decode cX0_difference 9 = .ok (.sipush 255, 3) := by decide +kernel
theorem dX0_difference_12 : decode cX0_difference 12 = .ok (.iand, 1) := by decide +kernel
theorem dX0_difference_13 : decode cX0_difference 13 = .ok (.istore 5, 2) := by decide +kernel
theorem dX0_difference_15 : decode cX0_difference 15 = .ok (.aload_n 0, 1) := by decide +kernel
theorem dX0_difference_16 : decode cX0_difference 16 = .ok (.getfield 7, 3) := by decide +kernel
theorem dX0_difference_19 : decode cX0_difference 19 = .ok (.iload 5, 2) := by decide +kernel
theorem dX0_difference_21 : decode cX0_difference 21 = .ok (.invokevirtual 49, 3) := by decide +kernel
theorem dX0_difference_24 : decode cX0_difference 24 = .ok (.aload_n 0, 1) := by decide +kernel
theorem dX0_difference_25 : decode cX0_difference 25 = .ok (.getfield 7, 3) := by decide +kernel
theorem dX0_difference_28 : decode cX0_difference 28 = .ok (.iconst 2, 1) := by decide +kernel
theorem dX0_difference_29 : decode cX0_difference 29 = .ok (.iload_n 1, 1) := by decide +kernel
theorem dX0_difference_30 : decode cX0_difference 30 = .ok (.iload_n 2, 1) := by decide +kernel
theorem dX0_difference_31 : decode cX0_difference 31 = .ok (.ixor, 1) := by decide +kernel
theorem dX0_difference_32 : decode cX0_difference 32 = .ok (.iload_n 1, 1) := by decide +kernel
theorem dX0_difference_33 : decode cX0_difference 33 = .ok (.iload 5, 2) := by decide +kernel
theorem dX0_difference_35 : decode cX0_difference 35 = .ok (.ixor, 1) := by decide +kernel
theorem dX0_difference_36 : decode cX0_difference 36 = .ok (.iand, 1) := by decide +kernel
theorem dX0_difference_37 : decode cX0_difference 37 = .ok (.sipush 128, 3) := by decide +kernel
theorem dX0_difference_40 : decode cX0_difference 40 = .ok (.iand, 1) := by decide +kernel
theorem dX0_difference_41 : decode cX0_difference 41 = .ok (.ifCond .eq 7, 3) := by decide +kernel
theorem dX0_difference_44 : decode cX0_difference 44 = .ok (.iconst 1, 1) := by decide +kernel
theorem dX0_difference_45 : decode cX0_difference 45 = .ok (.goto 4, 3) := by decide +kernel
theorem dX0_difference_48 : decode cX0_difference 48 = .ok (.iconst 0, 1) := by decide +kernel
theorem dX0_difference_49 : decode cX0_difference 49 = .ok (.invokevirtual 37, 3) := by decide +kernel
theorem dX0_difference_52 : decode cX0_difference 52 = .ok (.aload_n 0, 1) := by decide +kernel
theorem dX0_difference_53 : decode cX0_difference 53 = .ok (.getfield 7, 3) := by decide +kernel
theorem dX0_difference_56 : decode cX0_difference 56 = .ok (.iconst 1, 1) := by decide +kernel
theorem dX0_difference_57 : decode cX0_difference 57 = .ok (.iload 4, 2) := by decide +kernel
theorem dX0_difference_59 : decode cX0_difference 59 = .ok (.ifCond .ge 7, 3) := by decide +kernel
theorem dX0_difference_62 : decode cX0_difference 62 = .ok (.iconst 1, 1) := by decide +kernel
theorem dX0_difference_63 : decode cX0_difference 63 = .ok (.goto 4, 3) := by decide +kernel
theorem dX0_difference_66 : decode cX0_difference 66 = .ok (.iconst 0, 1) := by decide +kernel
theorem dX0_difference_67 : decode cX0_difference 67 = .ok (.invokevirtual 37, 3) := by decide +kernel
theorem dX0_difference_70 : decode cX0_difference 70 = .ok (.iload 5, 2) := by decide +kernel
theorem dX0_difference_72 : decode cX0_difference 72 = .ok (.ireturn, 1) := by decide +kernel
set_option maxRecDepth 20000 in
theorem ggX0_compareWords_X2_tellWordSignAndZero : GoodIn wsX0_compareWords wsX2_tellWordSignAndZero := goodIn_r _ [8, 9, 10, 11, 12, 7, 13, 14, 17] (by decide +kernel) (by decide +kernel)
set_option maxRecDepth 20000 in
theorem gX0_compareWords_X2_tellWordSignAndZero : GoodIn wsX0_compareWords (wsV RX0 53 RX2 yX2_tellWordSignAndZero wsX2_tellWordSignAndZero) := goodIn_app (goodIn_of _ (by decide +kernel)) ggX0_compareWords_X2_tellWordSignAndZero
set_option maxRecDepth 20000 in
theorem ggX0_compareWords_X2_tell : GoodIn wsX0_compareWords wsX2_tell := goodIn_r _ [13, 14, 17] (by decide +kernel) (by decide +kernel)
set_option maxRecDepth 20000 in
theorem gX0_compareWords_X2_tell : GoodIn wsX0_compareWords (wsV RX0 37 RX2 yX2_tell wsX2_tell) := goodIn_app (goodIn_of _ (by decide +kernel)) ggX0_compareWords_X2_tell
theorem dX0_compareWords_0 : decode cX0_compareWords 0 = .ok (.iload_n 1, 1) := by decide +kernel
theorem dX0_compareWords_1 : decode cX0_compareWords 1 = .ok (.iload_n 2, 1) := by decide +kernel
theorem dX0_compareWords_2 : decode cX0_compareWords 2 = .ok (.isub, 1) := by decide +kernel
theorem dX0_compareWords_3 : decode cX0_compareWords 3 = .ok (.ldc 56, 2) := by decide +kernel
theorem dX0_compareWords_5 : decode cX0_compareWords 5 = .ok (.iand, 1) := by decide +kernel
theorem dX0_compareWords_6 : decode cX0_compareWords 6 = .ok (.istore_n 3, 1) := by decide +kernel
theorem dX0_compareWords_7 : decode cX0_compareWords 7 = .ok (.aload_n 0, 1) := by decide +kernel
theorem dX0_compareWords_8 : decode cX0_compareWords 8 = .ok (.getfield 7, 3) := by decide +kernel
theorem dX0_compareWords_11 : decode cX0_compareWords 11 = .ok (.iload_n 3, 1) := by decide +kernel
theorem dX0_compareWords_12 : decode cX0_compareWords 12 = .ok (.invokevirtual 53, 3) := by decide +kernel
theorem dX0_compareWords_15 : decode cX0_compareWords 15 = .ok (.aload_n 0, 1) := by decide +kernel
theorem dX0_compareWords_16 : decode cX0_compareWords 16 = .ok (.getfield 7, 3) := by decide +kernel
theorem dX0_compareWords_19 : decode cX0_compareWords 19 = .ok (.iconst 2, 1) := by decide +kernel
theorem dX0_compareWords_20 : decode cX0_compareWords 20 = .ok (.iload_n 1, 1) := by decide +kernel
theorem dX0_compareWords_21 : decode cX0_compareWords 21 = .ok (.iload_n 2, 1) := by decide +kernel
theorem dX0_compareWords_22 : decode cX0_compareWords 22 = .ok (.ixor, 1) := by decide +kernel
theorem dX0_compareWords_23 : decode cX0_compareWords 23 = .ok (.iload_n 1, 1) := by decide +kernel
theorem dX0_compareWords_24 : decode cX0_compareWords 24 = .ok (.iload_n 3, 1) := by decide +kernel
theorem dX0_compareWords_25 : decode cX0_compareWords 25 = .ok (.ixor, 1) := by decide +kernel
theorem dX0_compareWords_26 : decode cX0_compareWords 26 = .ok (.iand, 1) := by decide +kernel
theorem dX0_compareWords_27 : decode cX0_compareWords 27 = .ok (.ldc 57, 2) := by decide +kernel
theorem dX0_compareWords_29 : decode cX0_compareWords 29 = .ok (.iand, 1) := by decide +kernel
theorem dX0_compareWords_30 : decode cX0_compareWords 30 = .ok (.ifCond .eq 7, 3) := by decide +kernel
theorem dX0_compareWords_33 : decode cX0_compareWords 33 = .ok (.iconst 1, 1) := by decide +kernel
theorem dX0_compareWords_34 : decode cX0_compareWords 34 = .ok (.goto 4, 3) := by decide +kernel
theorem dX0_compareWords_37 : decode cX0_compareWords 37 = .ok (.iconst 0, 1) := by decide +kernel
theorem dX0_compareWords_38 : decode cX0_compareWords 38 = .ok (.invokevirtual 37, 3) := by decide +kernel
theorem dX0_compareWords_41 : decode cX0_compareWords 41 = .ok (.return_, 1) := by decide +kernel
set_option maxRecDepth 20000 in
theorem ggX0_decimalAdjusted_X2_has : GoodIn wsX0_decimalAdjusted wsX2_has := goodIn_r _ [6, 7, 23] (by decide +kernel) (by decide +kernel)
set_option maxRecDepth 20000 in
theorem gX0_decimalAdjusted_X2_has : GoodIn wsX0_decimalAdjusted (wsV RX0 58 RX2 yX2_has wsX2_has) := goodIn_app (goodIn_of _ (by decide +kernel)) ggX0_decimalAdjusted_X2_has
set_option maxRecDepth 20000 in
theorem ggX0_decimalAdjusted_X2_tell : GoodIn wsX0_decimalAdjusted wsX2_tell := goodIn_r _ [11, 7, 23] (by decide +kernel) (by decide +kernel)
set_option maxRecDepth 20000 in
theorem gX0_decimalAdjusted_X2_tell : GoodIn wsX0_decimalAdjusted (wsV RX0 37 RX2 yX2_tell wsX2_tell) := goodIn_app (goodIn_of _ (by decide +kernel)) ggX0_decimalAdjusted_X2_tell
set_option maxRecDepth 20000 in
theorem ggX0_decimalAdjusted_X0_told : GoodIn wsX0_decimalAdjusted wsX0_told := goodIn_r _ [16, 1, 17, 18, 19, 5, 20, 21, 9, 10, 11, 7, 8, 22, 23] (by decide +kernel) (by decide +kernel)
set_option maxRecDepth 20000 in
theorem gX0_decimalAdjusted_X0_told : GoodIn wsX0_decimalAdjusted (wsV RX0 27 RX0 yX0_told wsX0_told) := goodIn_app (goodIn_of _ (by decide +kernel)) ggX0_decimalAdjusted_X0_told
theorem dX0_decimalAdjusted_0 : decode cX0_decimalAdjusted 0 = .ok (.iload_n 1, 1) := by decide +kernel
theorem dX0_decimalAdjusted_1 : decode cX0_decimalAdjusted 1 = .ok (.iconst 4, 1) := by decide +kernel
theorem dX0_decimalAdjusted_2 : decode cX0_decimalAdjusted 2 = .ok (.ishr, 1) := by decide +kernel
theorem dX0_decimalAdjusted_3 : decode cX0_decimalAdjusted 3 = .ok (.istore_n 2, 1) := by decide +kernel
theorem dX0_decimalAdjusted_4 : decode cX0_decimalAdjusted 4 = .ok (.iload_n 1, 1) := by decide +kernel
theorem dX0_decimalAdjusted_5 : decode cX0_decimalAdjusted 5 = .ok (.bipush 15, 2) := by decide +kernel
theorem dX0_decimalAdjusted_7 : decode cX0_decimalAdjusted 7 = .ok (.iand, 1) := by decide +kernel
theorem dX0_decimalAdjusted_8 : decode cX0_decimalAdjusted 8 = .ok (.istore_n 3, 1) := by decide +kernel
theorem dX0_decimalAdjusted_9 : decode cX0_decimalAdjusted 9 = .ok (.iload_n 2, 1) := by decide +kernel
theorem dX0_decimalAdjusted_10 : decode cX0_decimalAdjusted 10 = .ok (.bipush 9, 2) := by decide +kernel
theorem dX0_decimalAdjusted_12 : decode cX0_decimalAdjusted 12 = .ok (.if_icmp .gt 26, 3) := by decide +kernel
theorem dX0_decimalAdjusted_15 : decode cX0_decimalAdjusted 15 = .ok (.aload_n 0, 1) := by decide +kernel
theorem dX0_decimalAdjusted_16 : decode cX0_decimalAdjusted 16 = .ok (.getfield 7, 3) := by decide +kernel
theorem dX0_decimalAdjusted_19 : decode cX0_decimalAdjusted 19 = .ok (.iconst 1, 1) := by decide +kernel
theorem dX0_decimalAdjusted_20 : decode cX0_decimalAdjusted 20 = .ok (.invokevirtual 58, 3) := by decide +kernel
theorem dX0_decimalAdjusted_23 : decode cX0_decimalAdjusted 23 = .ok (.ifCond .ne 15, 3) := by decide +kernel
theorem dX0_decimalAdjusted_26 : decode cX0_decimalAdjusted 26 = .ok (.iload_n 2, 1) := by decide +kernel
theorem dX0_decimalAdjusted_27 : decode cX0_decimalAdjusted 27 = .ok (.bipush 9, 2) := by decide +kernel
theorem dX0_decimalAdjusted_29 : decode cX0_decimalAdjusted 29 = .ok (.if_icmp .ne 13, 3) := by decide +kernel
theorem dX0_decimalAdjusted_32 : decode cX0_decimalAdjusted 32 = .ok (.iload_n 3, 1) := by decide +kernel
theorem dX0_decimalAdjusted_33 : decode cX0_decimalAdjusted 33 = .ok (.bipush 9, 2) := by decide +kernel
theorem dX0_decimalAdjusted_35 : decode cX0_decimalAdjusted 35 = .ok (.if_icmp .le 7, 3) := by decide +kernel
theorem dX0_decimalAdjusted_38 : decode cX0_decimalAdjusted 38 = .ok (.iconst 1, 1) := by decide +kernel
theorem dX0_decimalAdjusted_39 : decode cX0_decimalAdjusted 39 = .ok (.goto 4, 3) := by decide +kernel
theorem dX0_decimalAdjusted_42 : decode cX0_decimalAdjusted 42 = .ok (.iconst 0, 1) := by decide +kernel
theorem dX0_decimalAdjusted_43 : decode cX0_decimalAdjusted 43 = .ok (.istore 4, 2) := by decide +kernel
theorem dX0_decimalAdjusted_45 : decode cX0_decimalAdjusted 45 = .ok (.iload_n 1, 1) := by decide +kernel
theorem dX0_decimalAdjusted_46 : decode cX0_decimalAdjusted 46 = .ok (.istore 5, 2) := by decide +kernel
theorem dX0_decimalAdjusted_48 : decode cX0_decimalAdjusted 48 = .ok (.iload_n 3, 1) := by decide +kernel
theorem dX0_decimalAdjusted_49 : decode cX0_decimalAdjusted 49 = .ok (.bipush 9, 2) := by decide +kernel
theorem dX0_decimalAdjusted_51 : decode cX0_decimalAdjusted 51 = .ok (.if_icmp .gt 15, 3) := by decide +kernel
theorem dX0_decimalAdjusted_54 : decode cX0_decimalAdjusted 54 = .ok (.aload_n 0, 1) := by decide +kernel
theorem dX0_decimalAdjusted_55 : decode cX0_decimalAdjusted 55 = .ok (.getfield 7, 3) := by decide +kernel
theorem dX0_decimalAdjusted_58 : decode cX0_decimalAdjusted 58 = .ok (.bipush 32, 2) := by decide +kernel
theorem dX0_decimalAdjusted_60 : decode cX0_decimalAdjusted 60 = .ok (.invokevirtual 58, 3) := by decide +kernel
theorem dX0_decimalAdjusted_63 : decode cX0_decimalAdjusted 63 = .ok (.ifCond .eq 6, 3) := by decide +kernel
theorem dX0_decimalAdjusted_66 : decode cX0_decimalAdjusted 66 = .ok (.iinc 5 6, 3) := by decide +kernel
theorem dX0_decimalAdjusted_69 : decode cX0_decimalAdjusted 69 = .ok (.iload 4, 2) := by decide +kernel
theorem dX0_decimalAdjusted_71 : decode cX0_decimalAdjusted 71 = .ok (.ifCond .eq 15, 3) := by decide +kernel
theorem dX0_decimalAdjusted_74 : decode cX0_decimalAdjusted 74 = .ok (.iinc 5 96, 3) := by decide +kernel
theorem dX0_decimalAdjusted_77 : decode cX0_decimalAdjusted 77 = .ok (.aload_n 0, 1) := by decide +kernel
theorem dX0_decimalAdjusted_78 : decode cX0_decimalAdjusted 78 = .ok (.getfield 7, 3) := by decide +kernel
theorem dX0_decimalAdjusted_81 : decode cX0_decimalAdjusted 81 = .ok (.iconst 1, 1) := by decide +kernel
theorem dX0_decimalAdjusted_82 : decode cX0_decimalAdjusted 82 = .ok (.iconst 1, 1) := by decide +kernel
theorem dX0_decimalAdjusted_83 : decode cX0_decimalAdjusted 83 = .ok (.invokevirtual 37, 3) := by decide +kernel
theorem dX0_decimalAdjusted_86 : decode cX0_decimalAdjusted 86 = .ok (.aload_n 0, 1) := by decide +kernel
theorem dX0_decimalAdjusted_87 : decode cX0_decimalAdjusted 87 = .ok (.iload 5, 2) := by decide +kernel
theorem dX0_decimalAdjusted_89 : decode cX0_decimalAdjusted 89 = .ok (.sipush 255, 3) := by decide +kernel
theorem dX0_decimalAdjusted_92 : decode cX0_decimalAdjusted 92 = .ok (.iand, 1) := by decide +kernel
theorem dX0_decimalAdjusted_93 : decode cX0_decimalAdjusted 93 = .ok (.invokevirtual 27, 3) := by decide +kernel
theorem dX0_decimalAdjusted_96 : decode cX0_decimalAdjusted 96 = .ok (.ireturn, 1) := by decide +kernel
set_option maxRecDepth 20000 in
theorem ggX0_negated_X2_tellSignAndZero : GoodIn wsX0_negated wsX2_tellSignAndZero := goodIn_r _ [6, 7, 8, 9, 5, 10, 11, 14] (by decide +kernel) (by decide +kernel)
set_option maxRecDepth 20000 in
theorem gX0_negated_X2_tellSignAndZero : GoodIn wsX0_negated (wsV RX0 49 RX2 yX2_tellSignAndZero wsX2_tellSignAndZero) := goodIn_app (goodIn_of _ (by decide +kernel)) ggX0_negated_X2_tellSignAndZero
set_option maxRecDepth 20000 in
theorem ggX0_negated_X2_tell : GoodIn wsX0_negated wsX2_tell := goodIn_r _ [10, 11, 14] (by decide +kernel) (by decide +kernel)
set_option maxRecDepth 20000 in
theorem gX0_negated_X2_tell : GoodIn wsX0_negated (wsV RX0 37 RX2 yX2_tell wsX2_tell) := goodIn_app (goodIn_of _ (by decide +kernel)) ggX0_negated_X2_tell
theorem dX0_negated_0 : decode cX0_negated 0 = .ok (.iload_n 1, 1) := by decide +kernel
theorem dX0_negated_1 : decode cX0_negated 1 = .ok (.ineg, 1) := by decide +kernel
theorem dX0_negated_2 : decode cX0_negated 2 = .ok (.sipush 255, 3) := by decide +kernel
theorem dX0_negated_5 : decode cX0_negated 5 = .ok (.iand, 1) := by decide +kernel
theorem dX0_negated_6 : decode cX0_negated 6 = .ok (.istore_n 2, 1) := by decide +kernel
theorem dX0_negated_7 : decode cX0_negated 7 = .ok (.aload_n 0, 1) := by decide +kernel
theorem dX0_negated_8 : decode cX0_negated 8 = .ok (.getfield 7, 3) := by decide +kernel
theorem dX0_negated_11 : decode cX0_negated 11 = .ok (.iload_n 2, 1) := by decide +kernel
theorem dX0_negated_12 : decode cX0_negated 12 = .ok (.invokevirtual 49, 3) := by decide +kernel
theorem dX0_negated_15 : decode cX0_negated 15 = .ok (.aload_n 0, 1) := by decide +kernel
theorem dX0_negated_16 : decode cX0_negated 16 = .ok (.getfield 7, 3) := by decide +kernel
theorem dX0_negated_19 : decode cX0_negated 19 = .ok (.iconst 2, 1) := by decide +kernel
theorem dX0_negated_20 : decode cX0_negated 20 = .ok (.iload_n 2, 1) := by decide +kernel
theorem dX0_negated_21 : decode cX0_negated 21 = .ok (.sipush 128, 3) := by decide +kernel
theorem dX0_negated_24 : decode cX0_negated 24 = .ok (.if_icmp .ne 7, 3) := by decide +kernel
theorem dX0_negated_27 : decode cX0_negated 27 = .ok (.iconst 1, 1) := by decide +kernel
theorem dX0_negated_28 : decode cX0_negated 28 = .ok (.goto 4, 3) := by decide +kernel
theorem dX0_negated_31 : decode cX0_negated 31 = .ok (.iconst 0, 1) := by decide +kernel
theorem dX0_negated_32 : decode cX0_negated 32 = .ok (.invokevirtual 37, 3) := by decide +kernel
theorem dX0_negated_35 : decode cX0_negated 35 = .ok (.aload_n 0, 1) := by decide +kernel
theorem dX0_negated_36 : decode cX0_negated 36 = .ok (.getfield 7, 3) := by decide +kernel
theorem dX0_negated_39 : decode cX0_negated 39 = .ok (.iconst 1, 1) := by decide +kernel
theorem dX0_negated_40 : decode cX0_negated 40 = .ok (.iload_n 2, 1) := by decide +kernel
theorem dX0_negated_41 : decode cX0_negated 41 = .ok (.ifCond .eq 7, 3) := by decide +kernel
theorem dX0_negated_44 : decode cX0_negated 44 = .ok (.iconst 1, 1) := by decide +kernel
theorem dX0_negated_45 : decode cX0_negated 45 = .ok (.goto 4, 3) := by decide +kernel
theorem dX0_negated_48 : decode cX0_negated 48 = .ok (.iconst 0, 1) := by decide +kernel
theorem dX0_negated_49 : decode cX0_negated 49 = .ok (.invokevirtual 37, 3) := by decide +kernel
theorem dX0_negated_52 : decode cX0_negated 52 = .ok (.iload_n 2, 1) := by decide +kernel
theorem dX0_negated_53 : decode cX0_negated 53 = .ok (.ireturn, 1) := by decide +kernel
set_option maxRecDepth 20000 in
theorem ggX0_shifted_X2_tell : GoodIn wsX0_shifted wsX2_tell := goodIn_r _ [6, 7, 18] (by decide +kernel) (by decide +kernel)
set_option maxRecDepth 20000 in
theorem gX0_shifted_X2_tell : GoodIn wsX0_shifted (wsV RX0 37 RX2 yX2_tell wsX2_tell) := goodIn_app (goodIn_of _ (by decide +kernel)) ggX0_shifted_X2_tell
set_option maxRecDepth 20000 in
theorem ggX0_shifted_X2_tellSignAndZero : GoodIn wsX0_shifted wsX2_tellSignAndZero := goodIn_r _ [11, 12, 3, 4, 5, 6, 7, 18] (by decide +kernel) (by decide +kernel)
set_option maxRecDepth 20000 in
theorem gX0_shifted_X2_tellSignAndZero : GoodIn wsX0_shifted (wsV RX0 49 RX2 yX2_tellSignAndZero wsX2_tellSignAndZero) := goodIn_app (goodIn_of _ (by decide +kernel)) ggX0_shifted_X2_tellSignAndZero
set_option maxRecDepth 20000 in
theorem ggX0_shifted_X2_has : GoodIn wsX0_shifted wsX2_has := goodIn_r _ [16, 7, 18] (by decide +kernel) (by decide +kernel)
set_option maxRecDepth 20000 in
theorem gX0_shifted_X2_has : GoodIn wsX0_shifted (wsV RX0 58 RX2 yX2_has wsX2_has) := goodIn_app (goodIn_of _ (by decide +kernel)) ggX0_shifted_X2_has
theorem dX0_shifted_0 : decode cX0_shifted 0 = .ok (.aload_n 0, 1) := by decide +kernel
theorem dX0_shifted_1 : decode cX0_shifted 1 = .ok (.getfield 7, 3) := by decide +kernel
theorem dX0_shifted_4 : decode cX0_shifted 4 = .ok (.iconst 1, 1) := by decide +kernel
theorem dX0_shifted_5 : decode cX0_shifted 5 = .ok (.iload_n 2, 1) := by decide +kernel
theorem dX0_shifted_6 : decode cX0_shifted 6 = .ok (.ifCond .eq 7, 3) := by decide +kernel
theorem dX0_shifted_9 : decode cX0_shifted 9 = .ok (.iconst 1, 1) := by decide +kernel
theorem dX0_shifted_10 : decode cX0_shifted 10 = .ok (.goto 4, 3) := by decide +kernel
theorem dX0_shifted_13 : decode cX0_shifted 13 = .ok (.iconst 0, 1) := by decide +kernel
theorem dX0_shifted_14 : decode cX0_shifted 14 = .ok (.invokevirtual 37, 3) := by decide +kernel
theorem dX0_shifted_17 : decode cX0_shifted 17 = .ok (.aload_n 0, 1) := by decide +kernel
theorem dX0_shifted_18 : decode cX0_shifted 18 = .ok (.getfield 7, 3) := by decide +kernel
theorem dX0_shifted_21 : decode cX0_shifted 21 = .ok (.iload_n 1, 1) := by decide +kernel
theorem dX0_shifted_22 : decode cX0_shifted 22 = .ok (.invokevirtual 49, 3) := by decide +kernel
theorem dX0_shifted_25 : decode cX0_shifted 25 = .ok (.aload_n 0, 1) := by decide +kernel
theorem dX0_shifted_26 : decode cX0_shifted 26 = .ok (.getfield 7, 3) := by decide +kernel
theorem dX0_shifted_29 : decode cX0_shifted 29 = .ok (.iconst 2, 1) := by decide +kernel
theorem dX0_shifted_30 : decode cX0_shifted 30 = .ok (.aload_n 0, 1) := by decide +kernel
theorem dX0_shifted_31 : decode cX0_shifted 31 = .ok (.getfield 7, 3) := by decide +kernel
theorem dX0_shifted_34 : decode cX0_shifted 34 = .ok (.bipush 8, 2) := by decide +kernel
theorem dX0_shifted_36 : decode cX0_shifted 36 = .ok (.invokevirtual 58, 3) := by decide +kernel
theorem dX0_shifted_39 : decode cX0_shifted 39 = .ok (.aload_n 0, 1) := by decide +kernel
theorem dX0_shifted_40 : decode cX0_shifted 40 = .ok (.getfield 7, 3) := by decide +kernel
theorem dX0_shifted_43 : decode cX0_shifted 43 = .ok (.iconst 1, 1) := by decide +kernel
theorem dX0_shifted_44 : decode cX0_shifted 44 = .ok (.invokevirtual 58, 3) := by decide +kernel
theorem dX0_shifted_47 : decode cX0_shifted 47 = .ok (.if_icmp .eq 7, 3) := by decide +kernel
theorem dX0_shifted_50 : decode cX0_shifted 50 = .ok (.iconst 1, 1) := by decide +kernel
theorem dX0_shifted_51 : decode cX0_shifted 51 = .ok (.goto 4, 3) := by decide +kernel
theorem dX0_shifted_54 : decode cX0_shifted 54 = .ok (.iconst 0, 1) := by decide +kernel
theorem dX0_shifted_55 : decode cX0_shifted 55 = .ok (.invokevirtual 37, 3) := by decide +kernel
theorem dX0_shifted_58 : decode cX0_shifted 58 = .ok (.iload_n 1, 1) := by decide +kernel
theorem dX0_shifted_59 : decode cX0_shifted 59 = .ok (.ireturn, 1) := by decide +kernel
set_option maxRecDepth 20000 in
theorem ggX0_counted_X2_tellSignAndZero : GoodIn wsX0_counted wsX2_tellSignAndZero := goodIn_r _ [6, 7, 8, 9, 5, 10, 11, 14] (by decide +kernel) (by decide +kernel)
set_option maxRecDepth 20000 in
theorem gX0_counted_X2_tellSignAndZero : GoodIn wsX0_counted (wsV RX0 49 RX2 yX2_tellSignAndZero wsX2_tellSignAndZero) := goodIn_app (goodIn_of _ (by decide +kernel)) ggX0_counted_X2_tellSignAndZero
set_option maxRecDepth 20000 in
theorem ggX0_counted_X2_tell : GoodIn wsX0_counted wsX2_tell := goodIn_r _ [10, 11, 14] (by decide +kernel) (by decide +kernel)
set_option maxRecDepth 20000 in
theorem gX0_counted_X2_tell : GoodIn wsX0_counted (wsV RX0 37 RX2 yX2_tell wsX2_tell) := goodIn_app (goodIn_of _ (by decide +kernel)) ggX0_counted_X2_tell
theorem dX0_counted_0 : decode cX0_counted 0 = .ok (.aload_n 0, 1) := by decide +kernel
theorem dX0_counted_1 : decode cX0_counted 1 = .ok (.getfield 7, 3) := by decide +kernel
theorem dX0_counted_4 : decode cX0_counted 4 = .ok (.iload_n 1, 1) := by decide +kernel
theorem dX0_counted_5 : decode cX0_counted 5 = .ok (.invokevirtual 49, 3) := by decide +kernel
theorem dX0_counted_8 : decode cX0_counted 8 = .ok (.aload_n 0, 1) := by decide +kernel
theorem dX0_counted_9 : decode cX0_counted 9 = .ok (.getfield 7, 3) := by decide +kernel
theorem dX0_counted_12 : decode cX0_counted 12 = .ok (.iconst 2, 1) := by decide +kernel
theorem dX0_counted_13 : decode cX0_counted 13 = .ok (.iload_n 2, 1) := by decide +kernel
theorem dX0_counted_14 : decode cX0_counted 14 = .ok (.invokevirtual 37, 3) := by decide +kernel
theorem dX0_counted_17 : decode cX0_counted 17 = .ok (.iload_n 1, 1) := by decide +kernel
theorem dX0_counted_18 : decode cX0_counted 18 = .ok (.ireturn, 1) := by decide +kernel
theorem dX1_init_0 : decode cX1_init 0 = .ok (.aload_n 0, 1) := by decide +kernel
theorem dX1_init_1 : decode cX1_init 1 = .ok (.invokespecial 1, 3) := by decide +kernel
theorem dX1_init_4 : decode cX1_init 4 = .ok (.aload_n 0, 1) := by decide +kernel
theorem dX1_init_5 : decode cX1_init 5 = .ok (.sipush 1024, 3) := by decide +kernel
theorem dX1_init_8 : decode cX1_init 8 = .ok (.newarray .int, 2) := by decide +kernel
theorem dX1_init_10 : decode cX1_init 10 = .ok (.putfield 9, 3) := by decide +kernel
theorem dX1_init_13 : decode cX1_init 13 = .ok (.aload_n 0, 1) := by decide +kernel
theorem dX1_init_14 : decode cX1_init 14 = .ok (.sipush 1024, 3) := by decide +kernel
theorem dX1_init_17 : decode cX1_init 17 = .ok (.newarray .int, 2) := by decide +kernel
theorem dX1_init_19 : decode cX1_init 19 = .ok (.putfield 13, 3) := by decide +kernel
theorem dX1_init_22 : decode cX1_init 22 = .ok (.aload_n 0, 1) := by decide +kernel
theorem dX1_init_23 : decode cX1_init 23 = .ok (.aload_n 1, 1) := by decide +kernel
theorem dX1_init_24 : decode cX1_init 24 = .ok (.putfield 16, 3) := by decide +kernel
theorem dX1_init_27 : decode cX1_init 27 = .ok (.aload_n 0, 1) := by decide +kernel
theorem dX1_init_28 : decode cX1_init 28 = .ok (.aload_n 2, 1) := by decide +kernel
theorem dX1_init_29 : decode cX1_init 29 = .ok (.putfield 20, 3) := by decide +kernel
theorem dX1_init_32 : decode cX1_init 32 = .ok (.aload_n 0, 1) := by decide +kernel
theorem dX1_init_33 : decode cX1_init 33 = .ok (.aload_n 3, 1) := by decide +kernel
theorem dX1_init_34 : decode cX1_init 34 = .ok (.putfield 23, 3) := by decide +kernel
theorem dX1_init_37 : decode cX1_init 37 = .ok (.return_, 1) := by decide +kernel
set_option maxRecDepth 20000 in
theorem ggX1_isMemory_X1_isFree : GoodIn wsX1_isMemory wsX1_isFree := goodIn_r _ [5] (by decide +kernel) (by decide +kernel)
set_option maxRecDepth 20000 in
theorem gX1_isMemory_X1_isFree : GoodIn wsX1_isMemory (wsV RX1 27 RX1 yX1_isFree wsX1_isFree) := goodIn_app (goodIn_of _ (by decide +kernel)) ggX1_isMemory_X1_isFree
set_option maxRecDepth 20000 in
theorem ggX1_isMemory_X1_isReadOnly : GoodIn wsX1_isMemory wsX1_isReadOnly := goodIn_r _ [9, 10, 11] (by decide +kernel) (by decide +kernel)
set_option maxRecDepth 20000 in
theorem gX1_isMemory_X1_isReadOnly : GoodIn wsX1_isMemory (wsV RX1 31 RX1 yX1_isReadOnly wsX1_isReadOnly) := goodIn_app (goodIn_of _ (by decide +kernel)) ggX1_isMemory_X1_isReadOnly
theorem dX1_isMemory_0 : decode cX1_isMemory 0 = .ok (.aload_n 0, 1) := by decide +kernel
theorem dX1_isMemory_1 : decode cX1_isMemory 1 = .ok (.iload_n 1, 1) := by decide +kernel
theorem dX1_isMemory_2 : decode cX1_isMemory 2 = .ok (.invokevirtual 27, 3) := by decide +kernel
theorem dX1_isMemory_5 : decode cX1_isMemory 5 = .ok (.ifCond .ne 11, 3) := by decide +kernel
theorem dX1_isMemory_8 : decode cX1_isMemory 8 = .ok (.aload_n 0, 1) := by decide +kernel
theorem dX1_isMemory_9 : decode cX1_isMemory 9 = .ok (.iload_n 1, 1) := by decide +kernel
theorem dX1_isMemory_10 : decode cX1_isMemory 10 = .ok (.invokevirtual 31, 3) := by decide +kernel
theorem dX1_isMemory_13 : decode cX1_isMemory 13 = .ok (.ifCond .eq 7, 3) := by decide +kernel
theorem dX1_isMemory_16 : decode cX1_isMemory 16 = .ok (.iconst 1, 1) := by decide +kernel
theorem dX1_isMemory_17 : decode cX1_isMemory 17 = .ok (.goto 4, 3) := by decide +kernel
theorem dX1_isMemory_20 : decode cX1_isMemory 20 = .ok (.iconst 0, 1) := by decide +kernel
theorem dX1_isMemory_21 : decode cX1_isMemory 21 = .ok (.ireturn, 1) := by decide +kernel
theorem dX1_isFree_0 : decode cX1_isFree 0 = .ok (.iload_n 1, 1) := by decide +kernel
theorem dX1_isFree_1 : decode cX1_isFree 1 = .ok (.ifCond .lt 14, 3) := by decide +kernel
theorem dX1_isFree_4 : decode cX1_isFree 4 = .ok (.iload_n 1, 1) := by decide +kernel
theorem dX1_isFree_5 : decode cX1_isFree 5 = .ok (.sipush 1024, 3) := by decide +kernel
theorem dX1_isFree_8 : decode cX1_isFree 8 = .ok (.if_icmp .ge 7, 3) := by decide +kernel
theorem dX1_isFree_11 : decode cX1_isFree 11 = .ok (.iconst 1, 1) := by decide +kernel
theorem dX1_isFree_12 : decode cX1_isFree 12 = .ok (.goto 4, 3) := by decide +kernel
theorem dX1_isFree_15 : decode cX1_isFree 15 = .ok (.iconst 0, 1) := by decide +kernel
theorem dX1_isFree_16 : decode cX1_isFree 16 = .ok (.ireturn, 1) := by decide +kernel
theorem dX1_isReadOnly_0 : decode cX1_isReadOnly 0 = .ok (.iload_n 1, 1) := by decide +kernel
theorem dX1_isReadOnly_1 : decode cX1_isReadOnly 1 = .ok (.ldc 34, 2) := by decide +kernel
theorem dX1_isReadOnly_3 : decode cX1_isReadOnly 3 = .ok (.if_icmp .lt 13, 3) := by decide +kernel
theorem dX1_isReadOnly_6 : decode cX1_isReadOnly 6 = .ok (.iload_n 1, 1) := by decide +kernel
theorem dX1_isReadOnly_7 : decode cX1_isReadOnly 7 = .ok (.ldc 35, 2) := by decide +kernel
theorem dX1_isReadOnly_9 : decode cX1_isReadOnly 9 = .ok (.if_icmp .ge 7, 3) := by decide +kernel
theorem dX1_isReadOnly_12 : decode cX1_isReadOnly 12 = .ok (.iconst 1, 1) := by decide +kernel
theorem dX1_isReadOnly_13 : decode cX1_isReadOnly 13 = .ok (.goto 4, 3) := by decide +kernel
theorem dX1_isReadOnly_16 : decode cX1_isReadOnly 16 = .ok (.iconst 0, 1) := by decide +kernel
theorem dX1_isReadOnly_17 : decode cX1_isReadOnly 17 = .ok (.ireturn, 1) := by decide +kernel
set_option maxRecDepth 20000 in
theorem ggX1_store_X1_isFree : GoodIn wsX1_store wsX1_isFree := goodIn_r _ [8] (by decide +kernel) (by decide +kernel)
set_option maxRecDepth 20000 in
theorem gX1_store_X1_isFree : GoodIn wsX1_store (wsV RX1 27 RX1 yX1_isFree wsX1_isFree) := goodIn_app (goodIn_of _ (by decide +kernel)) ggX1_store_X1_isFree
set_option maxRecDepth 20000 in
theorem ggX1_store_X1_isReadOnly : GoodIn wsX1_store wsX1_isReadOnly := goodIn_r _ [12, 3, 13] (by decide +kernel) (by decide +kernel)
set_option maxRecDepth 20000 in
theorem gX1_store_X1_isReadOnly : GoodIn wsX1_store (wsV RX1 31 RX1 yX1_isReadOnly wsX1_isReadOnly) := goodIn_app (goodIn_of _ (by decide +kernel)) ggX1_store_X1_isReadOnly
theorem dX1_store_0 : decode cX1_store 0 = .ok (.aload_n 0, 1) := by decide +kernel
theorem dX1_store_1 : decode cX1_store 1 = .ok (.iload_n 1, 1) := by decide +kernel
theorem dX1_store_2 : decode cX1_store 2 = .ok (.invokevirtual 27, 3) := by decide +kernel
theorem dX1_store_5 : decode cX1_store 5 = .ok (.ifCond .eq 13, 3) := by decide +kernel
theorem dX1_store_8 : decode cX1_store 8 = .ok (.aload_n 0, 1) := by decide +kernel
theorem dX1_store_9 : decode cX1_store 9 = .ok (.getfield 9, 3) := by decide +kernel
theorem dX1_store_12 : decode cX1_store 12 = .ok (.iload_n 1, 1) := by decide +kernel
theorem dX1_store_13 : decode cX1_store 13 = .ok (.iload_n 2, 1) := by decide +kernel
theorem dX1_store_14 : decode cX1_store 14 = .ok (.iastore, 1) := by decide +kernel
theorem dX1_store_15 : decode cX1_store 15 = .ok (.goto 21, 3) := by decide +kernel
theorem dX1_store_18 : decode cX1_store 18 = .ok (.aload_n 0, 1) := by decide +kernel
theorem dX1_store_19 : decode cX1_store 19 = .ok (.iload_n 1, 1) := by decide +kernel
theorem dX1_store_20 : decode cX1_store 20 = .ok (.invokevirtual 31, 3) := by decide +kernel
theorem dX1_store_23 : decode cX1_store 23 = .ok (.ifCond .eq 13, 3) := by decide +kernel
theorem dX1_store_26 : decode cX1_store 26 = .ok (.aload_n 0, 1) := by decide +kernel
theorem dX1_store_27 : decode cX1_store 27 = .ok (.getfield 13, 3) := by decide +kernel
theorem dX1_store_30 : decode cX1_store 30 = .ok (.iload_n 1, 1) := by decide +kernel
theorem dX1_store_31 : decode cX1_store 31 = .ok (.ldc 34, 2) := by decide +kernel
theorem dX1_store_33 : decode cX1_store 33 = .ok (.isub, 1) := by decide +kernel
theorem dX1_store_34 : decode cX1_store 34 = .ok (.iload_n 2, 1) := by decide +kernel
theorem dX1_store_35 : decode cX1_store 35 = .ok (.iastore, 1) := by decide +kernel
theorem dX1_store_36 : decode cX1_store 36 = .ok (.return_, 1) := by decide +kernel
set_option maxRecDepth 20000 in
theorem ggX1_read_X5_readData : GoodIn wsX1_read wsX5_readData := goodIn_r _ [13, 14, 15, 16, 17, 18, 19, 20, 21, 22, 12, 23, 58, 59, 60, 61, 62, 63, 64] (by decide +kernel) (by decide +kernel)
set_option maxRecDepth 20000 in
theorem gX1_read_X5_readData : GoodIn wsX1_read (wsV RX1 37 RX5 yX5_readData wsX5_readData) := goodIn_app (goodIn_of _ (by decide +kernel)) ggX1_read_X5_readData
set_option maxRecDepth 20000 in
theorem ggX1_read_X4_status : GoodIn wsX1_read wsX4_status := goodIn_r _ [28, 29, 30, 31, 32, 33, 34, 27, 35, 36, 37, 65, 66, 67, 68, 69, 70, 71, 72, 73, 74, 75, 76, 77, 78, 79, 80] (by decide +kernel) (by decide +kernel)
set_option maxRecDepth 20000 in
theorem gX1_read_X4_status : GoodIn wsX1_read (wsV RX1 47 RX4 yX4_status wsX4_status) := goodIn_app (goodIn_of _ (by decide +kernel)) ggX1_read_X4_status
set_option maxRecDepth 20000 in
theorem ggX1_read_X4_readData : GoodIn wsX1_read wsX4_readData := goodIn_r _ [41, 29, 31, 42, 65, 66, 67, 68, 69, 70, 71, 72, 73, 74, 75, 76, 77, 78, 79, 80] (by decide +kernel) (by decide +kernel)
set_option maxRecDepth 20000 in
theorem gX1_read_X4_readData : GoodIn wsX1_read (wsV RX1 52 RX4 yX4_readData wsX4_readData) := goodIn_app (goodIn_of _ (by decide +kernel)) ggX1_read_X4_readData
set_option maxRecDepth 20000 in
theorem ggX1_read_X1_isFree : GoodIn wsX1_read wsX1_isFree := goodIn_r _ [47] (by decide +kernel) (by decide +kernel)
set_option maxRecDepth 20000 in
theorem gX1_read_X1_isFree : GoodIn wsX1_read (wsV RX1 27 RX1 yX1_isFree wsX1_isFree) := goodIn_app (goodIn_of _ (by decide +kernel)) ggX1_read_X1_isFree
set_option maxRecDepth 20000 in
theorem ggX1_read_X1_isReadOnly : GoodIn wsX1_read wsX1_isReadOnly := goodIn_r _ [51, 8, 52] (by decide +kernel) (by decide +kernel)
set_option maxRecDepth 20000 in
theorem gX1_read_X1_isReadOnly : GoodIn wsX1_read (wsV RX1 31 RX1 yX1_isReadOnly wsX1_isReadOnly) := goodIn_app (goodIn_of _ (by decide +kernel)) ggX1_read_X1_isReadOnly
theorem dX1_read_0 : decode cX1_read 0 = .ok (.iload_n 1, 1) := by decide +kernel
theorem dX1_read_1 : decode cX1_read 1 = .ok (.ldc 36, 2) := by decide +kernel
theorem dX1_read_3 : decode cX1_read 3 = .ok (.iand, 1) := by decide +kernel
theorem dX1_read_4 : decode cX1_read 4 = .ok (.istore_n 2, 1) := by decide +kernel
theorem dX1_read_5 : decode cX1_read 5 = .ok (.iload_n 2, 1) := by decide +kernel
theorem dX1_read_6 : decode cX1_read 6 = .ok (.lookupswitch 106 #[(8192, 58), (8193, 66), (8194, 74), (8195, 82), (8448, 90), (8449, 98)], 58) := by decide +kernel
theorem dX1_read_64 : decode cX1_read 64 = .ok (.aload_n 0, 1) := by decide +kernel
theorem dX1_read_65 : decode cX1_read 65 = .ok (.getfield 16, 3) := by decide +kernel
theorem dX1_read_68 : decode cX1_read 68 = .ok (.invokevirtual 37, 3) := by decide +kernel
theorem dX1_read_71 : decode cX1_read 71 = .ok (.ireturn, 1) := by decide +kernel
theorem dX1_read_72 : decode cX1_read 72 = .ok (.aload_n 0, 1) := by decide +kernel
theorem dX1_read_73 : decode cX1_read 73 = .ok (.getfield 16, 3) := by decide +kernel
theorem dX1_read_76 : decode cX1_read 76 = .ok (.getfield 43, 3) := by decide +kernel
theorem dX1_read_79 : decode cX1_read 79 = .ok (.ireturn, 1) := by decide +kernel
theorem dX1_read_80 : decode cX1_read 80 = .ok (.aload_n 0, 1) := by decide +kernel
theorem dX1_read_81 : decode cX1_read 81 = .ok (.getfield 20, 3) := by decide +kernel
theorem dX1_read_84 : decode cX1_read 84 = .ok (.invokevirtual 37, 3) := by decide +kernel
theorem dX1_read_87 : decode cX1_read 87 = .ok (.ireturn, 1) := by decide +kernel
theorem dX1_read_88 : decode cX1_read 88 = .ok (.aload_n 0, 1) := by decide +kernel
theorem dX1_read_89 : decode cX1_read 89 = .ok (.getfield 20, 3) := by decide +kernel
theorem dX1_read_92 : decode cX1_read 92 = .ok (.getfield 43, 3) := by decide +kernel
theorem dX1_read_95 : decode cX1_read 95 = .ok (.ireturn, 1) := by decide +kernel
theorem dX1_read_96 : decode cX1_read 96 = .ok (.aload_n 0, 1) := by decide +kernel
theorem dX1_read_97 : decode cX1_read 97 = .ok (.getfield 23, 3) := by decide +kernel
theorem dX1_read_100 : decode cX1_read 100 = .ok (.invokevirtual 47, 3) := by decide +kernel
theorem dX1_read_103 : decode cX1_read 103 = .ok (.ireturn, 1) := by decide +kernel
theorem dX1_read_104 : decode cX1_read 104 = .ok (.aload_n 0, 1) := by decide +kernel
theorem dX1_read_105 : decode cX1_read 105 = .ok (.getfield 23, 3) := by decide +kernel
theorem dX1_read_108 : decode cX1_read 108 = .ok (.invokevirtual 52, 3) := by decide +kernel
theorem dX1_read_111 : decode cX1_read 111 = .ok (.ireturn, 1) := by decide +kernel
theorem dX1_read_112 : decode cX1_read 112 = .ok (.aload_n 0, 1) := by decide +kernel
theorem dX1_read_113 : decode cX1_read 113 = .ok (.iload_n 2, 1) := by decide +kernel
theorem dX1_read_114 : decode cX1_read 114 = .ok (.invokevirtual 27, 3) := by decide +kernel
theorem dX1_read_117 : decode cX1_read 117 = .ok (.ifCond .eq 10, 3) := by decide +kernel
theorem dX1_read_120 : decode cX1_read 120 = .ok (.aload_n 0, 1) := by decide +kernel
theorem dX1_read_121 : decode cX1_read 121 = .ok (.getfield 9, 3) := by decide +kernel
theorem dX1_read_124 : decode cX1_read 124 = .ok (.iload_n 2, 1) := by decide +kernel
theorem dX1_read_125 : decode cX1_read 125 = .ok (.iaload, 1) := by decide +kernel
theorem dX1_read_126 : decode cX1_read 126 = .ok (.ireturn, 1) := by decide +kernel
theorem dX1_read_127 : decode cX1_read 127 = .ok (.aload_n 0, 1) := by decide +kernel
theorem dX1_read_128 : decode cX1_read 128 = .ok (.iload_n 2, 1) := by decide +kernel
theorem dX1_read_129 : decode cX1_read 129 = .ok (.invokevirtual 31, 3) := by decide +kernel
theorem dX1_read_132 : decode cX1_read 132 = .ok (.ifCond .eq 15, 3) := by decide +kernel
theorem dX1_read_135 : decode cX1_read 135 = .ok (.aload_n 0, 1) := by decide +kernel
theorem dX1_read_136 : decode cX1_read 136 = .ok (.getfield 13, 3) := by decide +kernel
theorem dX1_read_139 : decode cX1_read 139 = .ok (.iload_n 2, 1) := by decide +kernel
theorem dX1_read_140 : decode cX1_read 140 = .ok (.ldc 34, 2) := by decide +kernel
theorem dX1_read_142 : decode cX1_read 142 = .ok (.isub, 1) := by decide +kernel
theorem dX1_read_143 : decode cX1_read 143 = .ok (.iaload, 1) := by decide +kernel
theorem dX1_read_144 : decode cX1_read 144 = .ok (.goto 4, 3) := by decide +kernel
theorem dX1_read_147 : decode cX1_read 147 = .ok (.iconst 0, 1) := by decide +kernel
theorem dX1_read_148 : decode cX1_read 148 = .ok (.ireturn, 1) := by decide +kernel
set_option maxRecDepth 20000 in
theorem ggX1_write_X5_writeData : GoodIn wsX1_write wsX5_writeData := goodIn_r _ [10, 11, 12, 13, 14, 15, 16, 17, 18, 9, 19, 55, 56, 57, 58, 59, 60, 61] (by decide +kernel) (by decide +kernel)
set_option maxRecDepth 20000 in
theorem gX1_write_X5_writeData : GoodIn wsX1_write (wsV RX1 53 RX5 yX5_writeData wsX5_writeData) := goodIn_app (goodIn_of _ (by decide +kernel)) ggX1_write_X5_writeData
set_option maxRecDepth 20000 in
theorem ggX1_write_X5_writeControl : GoodIn wsX1_write wsX5_writeControl := goodIn_r _ [23, 11, 15, 16, 17, 18, 9, 19, 24, 25, 26, 27, 55, 56, 57, 58, 59, 60, 61] (by decide +kernel) (by decide +kernel)
set_option maxRecDepth 20000 in
theorem gX1_write_X5_writeControl : GoodIn wsX1_write (wsV RX1 57 RX5 yX5_writeControl wsX5_writeControl) := goodIn_app (goodIn_of _ (by decide +kernel)) ggX1_write_X5_writeControl
set_option maxRecDepth 20000 in
theorem ggX1_write_X4_writeControl : GoodIn wsX1_write wsX4_writeControl := goodIn_r _ [32, 33, 34, 35, 36, 37, 38, 39, 62, 63, 64, 65, 66, 67, 68, 69, 70, 71, 72, 73, 74, 75, 76, 77] (by decide +kernel) (by decide +kernel)
set_option maxRecDepth 20000 in
theorem gX1_write_X4_writeControl : GoodIn wsX1_write (wsV RX1 60 RX4 yX4_writeControl wsX4_writeControl) := goodIn_app (goodIn_of _ (by decide +kernel)) ggX1_write_X4_writeControl
set_option maxRecDepth 20000 in
theorem ggX1_write_X4_writeData : GoodIn wsX1_write wsX4_writeData := goodIn_r _ [43, 34, 44, 37, 62, 63, 64, 65, 66, 67, 68, 69, 70, 71, 72, 73, 74, 75, 76, 77] (by decide +kernel) (by decide +kernel)
set_option maxRecDepth 20000 in
theorem gX1_write_X4_writeData : GoodIn wsX1_write (wsV RX1 61 RX4 yX4_writeData wsX4_writeData) := goodIn_app (goodIn_of _ (by decide +kernel)) ggX1_write_X4_writeData
set_option maxRecDepth 20000 in
theorem ggX1_write_X1_isFree : GoodIn wsX1_write wsX1_isFree := goodIn_r _ [49] (by decide +kernel) (by decide +kernel)
set_option maxRecDepth 20000 in
theorem gX1_write_X1_isFree : GoodIn wsX1_write (wsV RX1 27 RX1 yX1_isFree wsX1_isFree) := goodIn_app (goodIn_of _ (by decide +kernel)) ggX1_write_X1_isFree
theorem dX1_write_0 : decode cX1_write 0 = .ok (.iload_n 1, 1) := by decide +kernel
theorem dX1_write_1 : decode cX1_write 1 = .ok (.ldc 36, 2) := by decide +kernel
theorem dX1_write_3 : decode cX1_write 3 = .ok (.iand, 1) := by decide +kernel
theorem dX1_write_4 : decode cX1_write 4 = .ok (.istore_n 3, 1) := by decide +kernel
theorem dX1_write_5 : decode cX1_write 5 = .ok (.iload_n 3, 1) := by decide +kernel
theorem dX1_write_6 : decode cX1_write 6 = .ok (.lookupswitch 124 #[(8192, 58), (8193, 69), (8194, 80), (8195, 91), (8448, 102), (8449, 113)], 58) := by decide +kernel
theorem dX1_write_64 : decode cX1_write 64 = .ok (.aload_n 0, 1) := by decide +kernel
theorem dX1_write_65 : decode cX1_write 65 = .ok (.getfield 16, 3) := by decide +kernel
theorem dX1_write_68 : decode cX1_write 68 = .ok (.iload_n 2, 1) := by decide +kernel
theorem dX1_write_69 : decode cX1_write 69 = .ok (.invokevirtual 53, 3) := by decide +kernel
theorem dX1_write_72 : decode cX1_write 72 = .ok (.goto 73, 3) := by decide +kernel
theorem dX1_write_75 : decode cX1_write 75 = .ok (.aload_n 0, 1) := by decide +kernel
theorem dX1_write_76 : decode cX1_write 76 = .ok (.getfield 16, 3) := by decide +kernel
theorem dX1_write_79 : decode cX1_write 79 = .ok (.iload_n 2, 1) := by decide +kernel
theorem dX1_write_80 : decode cX1_write 80 = .ok (.invokevirtual 57, 3) := by decide +kernel
theorem dX1_write_83 : decode cX1_write 83 = .ok (.goto 62, 3) := by decide +kernel
theorem dX1_write_86 : decode cX1_write 86 = .ok (.aload_n 0, 1) := by decide +kernel
theorem dX1_write_87 : decode cX1_write 87 = .ok (.getfield 20, 3) := by decide +kernel
theorem dX1_write_90 : decode cX1_write 90 = .ok (.iload_n 2, 1) := by decide +kernel
theorem dX1_write_91 : decode cX1_write 91 = .ok (.invokevirtual 53, 3) := by decide +kernel
theorem dX1_write_94 : decode cX1_write 94 = .ok (.goto 51, 3) := by decide +kernel
theorem dX1_write_97 : decode cX1_write 97 = .ok (.aload_n 0, 1) := by decide +kernel
theorem dX1_write_98 : decode cX1_write 98 = .ok (.getfield 20, 3) := by decide +kernel
theorem dX1_write_101 : decode cX1_write 101 = .ok (.iload_n 2, 1) := by decide +kernel
theorem dX1_write_102 : decode cX1_write 102 = .ok (.invokevirtual 57, 3) := by decide +kernel
theorem dX1_write_105 : decode cX1_write 105 = .ok (.goto 40, 3) := by decide +kernel
theorem dX1_write_108 : decode cX1_write 108 = .ok (.aload_n 0, 1) := by decide +kernel
theorem dX1_write_109 : decode cX1_write 109 = .ok (.getfield 23, 3) := by decide +kernel
theorem dX1_write_112 : decode cX1_write 112 = .ok (.iload_n 2, 1) := by decide +kernel
theorem dX1_write_113 : decode cX1_write 113 = .ok (.invokevirtual 60, 3) := by decide +kernel
theorem dX1_write_116 : decode cX1_write 116 = .ok (.goto 29, 3) := by decide +kernel
theorem dX1_write_119 : decode cX1_write 119 = .ok (.aload_n 0, 1) := by decide +kernel
theorem dX1_write_120 : decode cX1_write 120 = .ok (.getfield 23, 3) := by decide +kernel
theorem dX1_write_123 : decode cX1_write 123 = .ok (.iload_n 2, 1) := by decide +kernel
theorem dX1_write_124 : decode cX1_write 124 = .ok (.invokevirtual 61, 3) := by decide +kernel
theorem dX1_write_127 : decode cX1_write 127 = .ok (.goto 18, 3) := by decide +kernel
theorem dX1_write_130 : decode cX1_write 130 = .ok (.aload_n 0, 1) := by decide +kernel
theorem dX1_write_131 : decode cX1_write 131 = .ok (.iload_n 3, 1) := by decide +kernel
theorem dX1_write_132 : decode cX1_write 132 = .ok (.invokevirtual 27, 3) := by decide +kernel
theorem dX1_write_135 : decode cX1_write 135 = .ok (.ifCond .eq 10, 3) := by decide +kernel
theorem dX1_write_138 : decode cX1_write 138 = .ok (.aload_n 0, 1) := by decide +kernel
theorem dX1_write_139 : decode cX1_write 139 = .ok (.getfield 9, 3) := by decide +kernel
theorem dX1_write_142 : decode cX1_write 142 = .ok (.iload_n 3, 1) := by decide +kernel
theorem dX1_write_143 : decode cX1_write 143 = .ok (.iload_n 2, 1) := by decide +kernel
theorem dX1_write_144 : decode cX1_write 144 = .ok (.iastore, 1) := by decide +kernel
theorem dX1_write_145 : decode cX1_write 145 = .ok (.return_, 1) := by decide +kernel
set_option maxRecDepth 20000 in
theorem ggX1_readWord_X1_read : GoodIn wsX1_readWord wsX1_read := goodIn_r _ [5, 6, 7, 8, 9, 10, 11, 12, 13, 14, 15, 16, 17, 18, 19, 20, 21, 22, 23, 24, 25, 26, 27, 28, 29, 30, 31, 32, 33, 34, 35, 36, 37, 38, 39, 40, 41, 42, 43, 44, 45, 46, 47, 48, 49, 50, 4, 51, 52, 53, 54, 55, 56, 57, 58, 59, 60, 61, 62, 63, 64, 65, 66, 67, 68, 69, 70, 71, 72, 73, 74, 75, 76, 77, 78, 79, 80, 81, 82, 83, 84] (by decide +kernel) (by decide +kernel)
set_option maxRecDepth 20000 in
theorem gX1_readWord_X1_read : GoodIn wsX1_readWord (wsV RX1 62 RX1 yX1_read wsX1_read) := goodIn_app (goodIn_of _ (by decide +kernel)) ggX1_readWord_X1_read
theorem dX1_readWord_0 : decode cX1_readWord 0 = .ok (.aload_n 0, 1) := by decide +kernel
theorem dX1_readWord_1 : decode cX1_readWord 1 = .ok (.iload_n 1, 1) := by decide +kernel
theorem dX1_readWord_2 : decode cX1_readWord 2 = .ok (.invokevirtual 62, 3) := by decide +kernel
theorem dX1_readWord_5 : decode cX1_readWord 5 = .ok (.istore_n 2, 1) := by decide +kernel
theorem dX1_readWord_6 : decode cX1_readWord 6 = .ok (.aload_n 0, 1) := by decide +kernel
theorem dX1_readWord_7 : decode cX1_readWord 7 = .ok (.iload_n 1, 1) := by decide +kernel
theorem dX1_readWord_8 : decode cX1_readWord 8 = .ok (.iconst 1, 1) := by decide +kernel
theorem dX1_readWord_9 : decode cX1_readWord 9 = .ok (.iadd, 1) := by decide +kernel
theorem dX1_readWord_10 : decode cX1_readWord 10 = .ok (.invokevirtual 62, 3) := by decide +kernel
theorem dX1_readWord_13 : decode cX1_readWord 13 = .ok (.istore_n 3, 1) := by decide +kernel
theorem dX1_readWord_14 : decode cX1_readWord 14 = .ok (.iload_n 2, 1) := by decide +kernel
theorem dX1_readWord_15 : decode cX1_readWord 15 = .ok (.bipush 8, 2) := by decide +kernel
theorem dX1_readWord_17 : decode cX1_readWord 17 = .ok (.ishl, 1) := by decide +kernel
theorem dX1_readWord_18 : decode cX1_readWord 18 = .ok (.iload_n 3, 1) := by decide +kernel
theorem dX1_readWord_19 : decode cX1_readWord 19 = .ok (.ior, 1) := by decide +kernel
theorem dX1_readWord_20 : decode cX1_readWord 20 = .ok (.ireturn, 1) := by decide +kernel
set_option maxRecDepth 20000 in
theorem ggX1_writeWord_X1_write : GoodIn wsX1_writeWord wsX1_write := goodIn_r _ [5, 6, 7, 8, 9, 10, 11, 12, 13, 14, 15, 16, 17, 18, 19, 20, 21, 22, 23, 24, 25, 26, 27, 28, 29, 30, 31, 32, 33, 34, 35, 36, 37, 38, 39, 40, 41, 42, 43, 44, 45, 46, 47, 48, 49, 50, 51, 52, 4, 53, 54, 55, 56, 57, 58, 59, 60, 61, 62, 63, 64, 65, 66, 67, 68, 69, 70, 71, 72, 73, 74, 75, 76, 77, 78, 79, 80, 81] (by decide +kernel) (by decide +kernel)
set_option maxRecDepth 20000 in
theorem gX1_writeWord_X1_write : GoodIn wsX1_writeWord (wsV RX1 66 RX1 yX1_write wsX1_write) := goodIn_app (goodIn_of _ (by decide +kernel)) ggX1_writeWord_X1_write
theorem dX1_writeWord_0 : decode cX1_writeWord 0 = .ok (.aload_n 0, 1) := by decide +kernel
theorem dX1_writeWord_1 : decode cX1_writeWord 1 = .ok (.iload_n 1, 1) := by decide +kernel
theorem dX1_writeWord_2 : decode cX1_writeWord 2 = .ok (.iload_n 2, 1) := by decide +kernel
theorem dX1_writeWord_3 : decode cX1_writeWord 3 = .ok (.bipush 8, 2) := by decide +kernel
theorem dX1_writeWord_5 : decode cX1_writeWord 5 = .ok (.ishr, 1) := by decide +kernel
theorem dX1_writeWord_6 : decode cX1_writeWord 6 = .ok (.sipush 255, 3) := by decide +kernel
theorem dX1_writeWord_9 : decode cX1_writeWord 9 = .ok (.iand, 1) := by decide +kernel
theorem dX1_writeWord_10 : decode cX1_writeWord 10 = .ok (.invokevirtual 66, 3) := by decide +kernel
theorem dX1_writeWord_13 : decode cX1_writeWord 13 = .ok (.aload_n 0, 1) := by decide +kernel
theorem dX1_writeWord_14 : decode cX1_writeWord 14 = .ok (.iload_n 1, 1) := by decide +kernel
theorem dX1_writeWord_15 : decode cX1_writeWord 15 = .ok (.iconst 1, 1) := by decide +kernel
theorem dX1_writeWord_16 : decode cX1_writeWord 16 = .ok (.iadd, 1) := by decide +kernel
theorem dX1_writeWord_17 : decode cX1_writeWord 17 = .ok (.iload_n 2, 1) := by decide +kernel
theorem dX1_writeWord_18 : decode cX1_writeWord 18 = .ok (.sipush 255, 3) := by decide +kernel
theorem dX1_writeWord_21 : decode cX1_writeWord 21 = .ok (.iand, 1) := by decide +kernel
theorem dX1_writeWord_22 : decode cX1_writeWord 22 = .ok (.invokevirtual 66, 3) := by decide +kernel
theorem dX1_writeWord_25 : decode cX1_writeWord 25 = .ok (.return_, 1) := by decide +kernel
theorem dX2_init_0 : decode cX2_init 0 = .ok (.aload_n 0, 1) := by decide +kernel
theorem dX2_init_1 : decode cX2_init 1 = .ok (.invokespecial 1, 3) := by decide +kernel
theorem dX2_init_4 : decode cX2_init 4 = .ok (.return_, 1) := by decide +kernel
theorem dX2_has_0 : decode cX2_has 0 = .ok (.aload_n 0, 1) := by decide +kernel
theorem dX2_has_1 : decode cX2_has 1 = .ok (.getfield 7, 3) := by decide +kernel
theorem dX2_has_4 : decode cX2_has 4 = .ok (.iload_n 1, 1) := by decide +kernel
theorem dX2_has_5 : decode cX2_has 5 = .ok (.iand, 1) := by decide +kernel
theorem dX2_has_6 : decode cX2_has 6 = .ok (.ifCond .eq 7, 3) := by decide +kernel
theorem dX2_has_9 : decode cX2_has 9 = .ok (.iconst 1, 1) := by decide +kernel
theorem dX2_has_10 : decode cX2_has 10 = .ok (.goto 4, 3) := by decide +kernel
theorem dX2_has_13 : decode cX2_has 13 = .ok (.iconst 0, 1) := by decide +kernel
theorem dX2_has_14 : decode cX2_has 14 = .ok (.ireturn, 1) := by decide +kernel
theorem dX2_tell_0 : decode cX2_tell 0 = .ok (.aload_n 0, 1) := by decide +kernel
theorem dX2_tell_1 : decode cX2_tell 1 = .ok (.iload_n 2, 1) := by decide +kernel
theorem dX2_tell_2 : decode cX2_tell 2 = .ok (.ifCond .eq 12, 3) := by decide +kernel
theorem dX2_tell_5 : decode cX2_tell 5 = .ok (.aload_n 0, 1) := by decide +kernel
theorem dX2_tell_6 : decode cX2_tell 6 = .ok (.getfield 7, 3) := by decide +kernel
theorem dX2_tell_9 : decode cX2_tell 9 = .ok (.iload_n 1, 1) := by decide +kernel
theorem dX2_tell_10 : decode cX2_tell 10 = .ok (.ior, 1) := by decide +kernel
theorem dX2_tell_11 : decode cX2_tell 11 = .ok (.goto 11, 3) := by decide +kernel
theorem dX2_tell_14 : decode cX2_tell 14 = .ok (.aload_n 0, 1) := by decide +kernel
theorem dX2_tell_15 : decode cX2_tell 15 = .ok (.getfield 7, 3) := by decide +kernel
theorem dX2_tell_18 : decode cX2_tell 18 = .ok (.iload_n 1, 1) := by decide +kernel
theorem dX2_tell_19 : decode cX2_tell 19 = .ok (.iconst (-1), 1) := by decide +kernel
theorem dX2_tell_20 : decode cX2_tell 20 = .ok (.ixor, 1) := by decide +kernel
theorem dX2_tell_21 : decode cX2_tell 21 = .ok (.iand, 1) := by decide +kernel
theorem dX2_tell_22 : decode cX2_tell 22 = .ok (.putfield 7, 3) := by decide +kernel
theorem dX2_tell_25 : decode cX2_tell 25 = .ok (.return_, 1) := by decide +kernel
theorem dX2_asByte_0 : decode cX2_asByte 0 = .ok (.aload_n 0, 1) := by decide +kernel
theorem dX2_asByte_1 : decode cX2_asByte 1 = .ok (.getfield 7, 3) := by decide +kernel
theorem dX2_asByte_4 : decode cX2_asByte 4 = .ok (.sipush 192, 3) := by decide +kernel
theorem dX2_asByte_7 : decode cX2_asByte 7 = .ok (.ior, 1) := by decide +kernel
theorem dX2_asByte_8 : decode cX2_asByte 8 = .ok (.ireturn, 1) := by decide +kernel
theorem dX2_takeByte_0 : decode cX2_takeByte 0 = .ok (.aload_n 0, 1) := by decide +kernel
theorem dX2_takeByte_1 : decode cX2_takeByte 1 = .ok (.iload_n 1, 1) := by decide +kernel
theorem dX2_takeByte_2 : decode cX2_takeByte 2 = .ok (.bipush 63, 2) := by decide +kernel
theorem dX2_takeByte_4 : decode cX2_takeByte 4 = .ok (.iand, 1) := by decide +kernel
theorem dX2_takeByte_5 : decode cX2_takeByte 5 = .ok (.putfield 7, 3) := by decide +kernel
theorem dX2_takeByte_8 : decode cX2_takeByte 8 = .ok (.return_, 1) := by decide +kernel
set_option maxRecDepth 20000 in
theorem ggX2_tellSignAndZero_X2_tell : GoodIn wsX2_tellSignAndZero wsX2_tell := goodIn_r _ [5, 6, 7] (by decide +kernel) (by decide +kernel)
set_option maxRecDepth 20000 in
theorem gX2_tellSignAndZero_X2_tell : GoodIn wsX2_tellSignAndZero (wsV RX2 13 RX2 yX2_tell wsX2_tell) := goodIn_app (goodIn_of _ (by decide +kernel)) ggX2_tellSignAndZero_X2_tell
theorem dX2_tellSignAndZero_0 : decode cX2_tellSignAndZero 0 = .ok (.aload_n 0, 1) := by decide +kernel
theorem dX2_tellSignAndZero_1 : decode cX2_tellSignAndZero 1 = .ok (.bipush 8, 2) := by decide +kernel
theorem dX2_tellSignAndZero_3 : decode cX2_tellSignAndZero 3 = .ok (.iload_n 1, 1) := by decide +kernel
theorem dX2_tellSignAndZero_4 : decode cX2_tellSignAndZero 4 = .ok (.sipush 128, 3) := by decide +kernel
theorem dX2_tellSignAndZero_7 : decode cX2_tellSignAndZero 7 = .ok (.iand, 1) := by decide +kernel
theorem dX2_tellSignAndZero_8 : decode cX2_tellSignAndZero 8 = .ok (.ifCond .eq 7, 3) := by decide +kernel
theorem dX2_tellSignAndZero_11 : decode cX2_tellSignAndZero 11 = .ok (.iconst 1, 1) := by decide +kernel
theorem dX2_tellSignAndZero_12 : decode cX2_tellSignAndZero 12 = .ok (.goto 4, 3) := by decide +kernel
theorem dX2_tellSignAndZero_15 : decode cX2_tellSignAndZero 15 = .ok (.iconst 0, 1) := by decide +kernel
theorem dX2_tellSignAndZero_16 : decode cX2_tellSignAndZero 16 = .ok (.invokevirtual 13, 3) := by decide +kernel
theorem dX2_tellSignAndZero_19 : decode cX2_tellSignAndZero 19 = .ok (.aload_n 0, 1) := by decide +kernel
theorem dX2_tellSignAndZero_20 : decode cX2_tellSignAndZero 20 = .ok (.iconst 4, 1) := by decide +kernel
theorem dX2_tellSignAndZero_21 : decode cX2_tellSignAndZero 21 = .ok (.iload_n 1, 1) := by decide +kernel
theorem dX2_tellSignAndZero_22 : decode cX2_tellSignAndZero 22 = .ok (.ifCond .ne 7, 3) := by decide +kernel
theorem dX2_tellSignAndZero_25 : decode cX2_tellSignAndZero 25 = .ok (.iconst 1, 1) := by decide +kernel
theorem dX2_tellSignAndZero_26 : decode cX2_tellSignAndZero 26 = .ok (.goto 4, 3) := by decide +kernel
theorem dX2_tellSignAndZero_29 : decode cX2_tellSignAndZero 29 = .ok (.iconst 0, 1) := by decide +kernel
theorem dX2_tellSignAndZero_30 : decode cX2_tellSignAndZero 30 = .ok (.invokevirtual 13, 3) := by decide +kernel
theorem dX2_tellSignAndZero_33 : decode cX2_tellSignAndZero 33 = .ok (.return_, 1) := by decide +kernel
set_option maxRecDepth 20000 in
theorem ggX2_tellWordSignAndZero_X2_tell : GoodIn wsX2_tellWordSignAndZero wsX2_tell := goodIn_r _ [6, 7, 8] (by decide +kernel) (by decide +kernel)
set_option maxRecDepth 20000 in
theorem gX2_tellWordSignAndZero_X2_tell : GoodIn wsX2_tellWordSignAndZero (wsV RX2 13 RX2 yX2_tell wsX2_tell) := goodIn_app (goodIn_of _ (by decide +kernel)) ggX2_tellWordSignAndZero_X2_tell
theorem dX2_tellWordSignAndZero_0 : decode cX2_tellWordSignAndZero 0 = .ok (.aload_n 0, 1) := by decide +kernel
theorem dX2_tellWordSignAndZero_1 : decode cX2_tellWordSignAndZero 1 = .ok (.bipush 8, 2) := by decide +kernel
theorem dX2_tellWordSignAndZero_3 : decode cX2_tellWordSignAndZero 3 = .ok (.iload_n 1, 1) := by decide +kernel
theorem dX2_tellWordSignAndZero_4 : decode cX2_tellWordSignAndZero 4 = .ok (.ldc 17, 2) := by decide +kernel
theorem dX2_tellWordSignAndZero_6 : decode cX2_tellWordSignAndZero 6 = .ok (.iand, 1) := by decide +kernel
theorem dX2_tellWordSignAndZero_7 : decode cX2_tellWordSignAndZero 7 = .ok (.ifCond .eq 7, 3) := by decide +kernel
theorem dX2_tellWordSignAndZero_10 : decode cX2_tellWordSignAndZero 10 = .ok (.iconst 1, 1) := by decide +kernel
theorem dX2_tellWordSignAndZero_11 : decode cX2_tellWordSignAndZero 11 = .ok (.goto 4, 3) := by decide +kernel
theorem dX2_tellWordSignAndZero_14 : decode cX2_tellWordSignAndZero 14 = .ok (.iconst 0, 1) := by decide +kernel
theorem dX2_tellWordSignAndZero_15 : decode cX2_tellWordSignAndZero 15 = .ok (.invokevirtual 13, 3) := by decide +kernel
theorem dX2_tellWordSignAndZero_18 : decode cX2_tellWordSignAndZero 18 = .ok (.aload_n 0, 1) := by decide +kernel
theorem dX2_tellWordSignAndZero_19 : decode cX2_tellWordSignAndZero 19 = .ok (.iconst 4, 1) := by decide +kernel
theorem dX2_tellWordSignAndZero_20 : decode cX2_tellWordSignAndZero 20 = .ok (.iload_n 1, 1) := by decide +kernel
theorem dX2_tellWordSignAndZero_21 : decode cX2_tellWordSignAndZero 21 = .ok (.ifCond .ne 7, 3) := by decide +kernel
theorem dX2_tellWordSignAndZero_24 : decode cX2_tellWordSignAndZero 24 = .ok (.iconst 1, 1) := by decide +kernel
theorem dX2_tellWordSignAndZero_25 : decode cX2_tellWordSignAndZero 25 = .ok (.goto 4, 3) := by decide +kernel
theorem dX2_tellWordSignAndZero_28 : decode cX2_tellWordSignAndZero 28 = .ok (.iconst 0, 1) := by decide +kernel
theorem dX2_tellWordSignAndZero_29 : decode cX2_tellWordSignAndZero 29 = .ok (.invokevirtual 13, 3) := by decide +kernel
theorem dX2_tellWordSignAndZero_32 : decode cX2_tellWordSignAndZero 32 = .ok (.return_, 1) := by decide +kernel
set_option maxRecDepth 20000 in
theorem ggX3_init_X2_init : GoodIn wsX3_init wsX2_init := goodIn_r _ [14, 15, 2, 3] (by decide +kernel) (by decide +kernel)
set_option maxRecDepth 20000 in
theorem gX3_init_X2_init_n15 : GoodIn wsX3_init (wsX2_init) := ggX3_init_X2_init
set_option maxRecDepth 20000 in
theorem ggX3_init_X0_init : GoodIn wsX3_init wsX0_init := goodIn_r _ [18, 19, 2, 3, 20, 32] (by decide +kernel) (by decide +kernel)
set_option maxRecDepth 20000 in
theorem gX3_init_X0_init : GoodIn wsX3_init (wsX0_init) := ggX3_init_X0_init
theorem dX3_init_0 : decode cX3_init 0 = .ok (.aload_n 0, 1) := by decide +kernel
theorem dX3_init_1 : decode cX3_init 1 = .ok (.invokespecial 1, 3) := by decide +kernel
theorem dX3_init_4 : decode cX3_init 4 = .ok (.aload_n 0, 1) := by decide +kernel
theorem dX3_init_5 : decode cX3_init 5 = .ok (.aload_n 1, 1) := by decide +kernel
theorem dX3_init_6 : decode cX3_init 6 = .ok (.putfield 7, 3) := by decide +kernel
theorem dX3_init_9 : decode cX3_init 9 = .ok (.aload_n 0, 1) := by decide +kernel
theorem dX3_init_10 : decode cX3_init 10 = .ok (.new 13, 3) := by decide +kernel
theorem dX3_init_13 : decode cX3_init 13 = .ok (.dup, 1) := by decide +kernel
theorem dX3_init_14 : decode cX3_init 14 = .ok (.invokespecial 15, 3) := by decide +kernel
theorem dX3_init_17 : decode cX3_init 17 = .ok (.putfield 16, 3) := by decide +kernel
theorem dX3_init_20 : decode cX3_init 20 = .ok (.aload_n 0, 1) := by decide +kernel
theorem dX3_init_21 : decode cX3_init 21 = .ok (.new 20, 3) := by decide +kernel
theorem dX3_init_24 : decode cX3_init 24 = .ok (.dup, 1) := by decide +kernel
theorem dX3_init_25 : decode cX3_init 25 = .ok (.aload_n 0, 1) := by decide +kernel
theorem dX3_init_26 : decode cX3_init 26 = .ok (.getfield 16, 3) := by decide +kernel
theorem dX3_init_29 : decode cX3_init 29 = .ok (.invokespecial 22, 3) := by decide +kernel
theorem dX3_init_32 : decode cX3_init 32 = .ok (.putfield 25, 3) := by decide +kernel
theorem dX3_init_35 : decode cX3_init 35 = .ok (.return_, 1) := by decide +kernel
set_option maxRecDepth 20000 in
theorem ggX3_restart_X3_goThrough : GoodIn wsX3_restart wsX3_goThrough := goodIn_r _ [8, 9, 10, 11, 12, 13, 14, 15, 16, 17, 18, 19, 20, 21, 22, 23, 24, 25, 26, 27, 28, 29, 30, 31, 32, 33, 34, 35, 36, 37, 38, 39, 40, 41, 42, 43, 44, 45, 46, 47, 48, 49, 50, 51, 52, 53, 54, 55, 56, 57, 58, 59, 60, 61, 62, 63, 64, 65, 66, 67, 68, 69, 70, 71, 72, 73, 74, 75, 76, 77, 78, 79, 80, 81, 82, 83, 84, 85, 86, 87, 88, 89, 90, 91, 92, 93, 94, 95, 96, 97, 98, 99, 100, 101, 102, 103, 104, 105, 106, 107, 108, 109, 110, 111, 112, 113, 114, 115, 116] (by decide +kernel) (by decide +kernel)
set_option maxRecDepth 20000 in
theorem gX3_restart_X3_goThrough : GoodIn wsX3_restart (wsV RX3 30 RX3 yX3_goThrough wsX3_goThrough) := goodIn_app (goodIn_of _ (by decide +kernel)) ggX3_restart_X3_goThrough
theorem dX3_restart_0 : decode cX3_restart 0 = .ok (.aload_n 0, 1) := by decide +kernel
theorem dX3_restart_1 : decode cX3_restart 1 = .ok (.ldc 29, 2) := by decide +kernel
theorem dX3_restart_3 : decode cX3_restart 3 = .ok (.invokevirtual 30, 3) := by decide +kernel
theorem dX3_restart_6 : decode cX3_restart 6 = .ok (.aload_n 0, 1) := by decide +kernel
theorem dX3_restart_7 : decode cX3_restart 7 = .ok (.iconst 0, 1) := by decide +kernel
theorem dX3_restart_8 : decode cX3_restart 8 = .ok (.putfield 34, 3) := by decide +kernel
theorem dX3_restart_11 : decode cX3_restart 11 = .ok (.aload_n 0, 1) := by decide +kernel
theorem dX3_restart_12 : decode cX3_restart 12 = .ok (.iconst 0, 1) := by decide +kernel
theorem dX3_restart_13 : decode cX3_restart 13 = .ok (.putfield 38, 3) := by decide +kernel
theorem dX3_restart_16 : decode cX3_restart 16 = .ok (.return_, 1) := by decide +kernel
set_option maxRecDepth 20000 in
theorem ggX3_act_X2_has : GoodIn wsX3_act wsX2_has := goodIn_r _ [14, 15, 297] (by decide +kernel) (by decide +kernel)
set_option maxRecDepth 20000 in
theorem gX3_act_X2_has : GoodIn wsX3_act (wsV RX3 41 RX2 yX2_has wsX2_has) := goodIn_app (goodIn_of _ (by decide +kernel)) ggX3_act_X2_has
set_option maxRecDepth 20000 in
theorem ggX3_act_X3_interrupt : GoodIn wsX3_act wsX3_interrupt := goodIn_r _ [20, 2, 21, 22, 23, 24, 19, 25, 4, 26, 8, 9, 1, 27, 28, 29, 30, 3, 31, 6, 32, 33, 34, 35, 36, 37, 38, 39, 40, 41, 42, 43, 44, 45, 46, 47, 48, 49, 50, 51, 52, 53, 54, 55, 56, 57, 58, 59, 60, 61, 62, 63, 64, 65, 66, 67, 68, 69, 70, 71, 72, 73, 74, 75, 76, 77, 78, 79, 80, 81, 82, 83, 84, 85, 86, 87, 88, 89, 90, 91, 13, 92, 15, 93, 94, 95, 96, 97, 98, 99, 100, 101, 102, 103, 104, 105, 106, 107, 108, 109, 110, 111, 112, 113, 114, 115, 116, 117, 118, 119, 120, 121, 122, 123, 124, 125, 126, 127, 128, 129, 130, 131, 132, 133, 134, 287, 288, 289, 290, 291, 292, 293, 294, 295, 296, 298, 299, 300, 301, 302, 303, 304, 305, 306, 307, 308, 309, 310, 311, 312, 313, 314, 315, 316, 317, 318, 319, 320, 321, 322, 323, 324, 325, 297] (by decide +kernel) (by decide +kernel)
set_option maxRecDepth 20000 in
theorem gX3_act_X3_interrupt : GoodIn wsX3_act (wsV RX3 45 RX3 yX3_interrupt wsX3_interrupt) := goodIn_app (goodIn_of _ (by decide +kernel)) ggX3_act_X3_interrupt
set_option maxRecDepth 20000 in
theorem ggX3_act_X1_read : GoodIn wsX3_act wsX1_read := goodIn_r _ [108, 37, 38, 109, 39, 40, 41, 110, 111, 112, 113, 114, 45, 115, 47, 48, 50, 51, 49, 116, 52, 53, 54, 55, 117, 118, 119, 67, 120, 71, 73, 72, 121, 122, 123, 124, 70, 69, 125, 126, 127, 128, 129, 81, 82, 83, 35, 84, 130, 131, 132, 133, 134, 298, 299, 300, 301, 302, 303, 304, 305, 306, 307, 308, 309, 310, 311, 312, 313, 314, 315, 316, 317, 318, 319, 320, 321, 322, 323, 324, 325] (by decide +kernel) (by decide +kernel)
set_option maxRecDepth 20000 in
theorem gX3_act_X1_read : GoodIn wsX3_act (wsV RX3 52 RX1 yX1_read wsX1_read) := goodIn_app (goodIn_of _ (by decide +kernel)) ggX3_act_X1_read
set_option maxRecDepth 20000 in
theorem ggX3_act_X3_isLegal : GoodIn wsX3_act wsX3_isLegal := goodIn_r _ [139, 140] (by decide +kernel) (by decide +kernel)
set_option maxRecDepth 20000 in
theorem gX3_act_X3_isLegal : GoodIn wsX3_act (wsV RX3 58 RX3 yX3_isLegal wsX3_isLegal) := goodIn_app (goodIn_of _ (by decide +kernel)) ggX3_act_X3_isLegal
set_option maxRecDepth 20000 in
theorem ggX3_act_X3_doFlagsAndIndex : GoodIn wsX3_act wsX3_doFlagsAndIndex := goodIn_r _ [144, 1, 8, 145, 146, 147, 13, 148, 15, 89, 90, 91, 92, 149, 150, 151, 19, 152, 26, 6, 97, 98, 99, 100, 287, 288, 289, 290, 291, 292, 293, 294, 295, 296, 297] (by decide +kernel) (by decide +kernel)
set_option maxRecDepth 20000 in
theorem gX3_act_X3_doFlagsAndIndex : GoodIn wsX3_act (wsV RX3 62 RX3 yX3_doFlagsAndIndex wsX3_doFlagsAndIndex) := goodIn_app (goodIn_of _ (by decide +kernel)) ggX3_act_X3_doFlagsAndIndex
set_option maxRecDepth 20000 in
theorem ggX3_act_X3_doBetweenAccumulators : GoodIn wsX3_act wsX3_doBetweenAccumulators := goodIn_r _ [156, 7, 8, 9, 157, 158, 159, 160, 161, 162, 163, 164, 165, 13, 166, 167, 98, 99, 100, 15, 168, 169, 170, 171, 172, 173, 174, 175, 176, 177, 11, 12, 14, 178, 179, 180, 181, 182, 287, 288, 289, 290, 291, 292, 293, 294, 295, 296, 326, 297] (by decide +kernel) (by decide +kernel)
set_option maxRecDepth 20000 in
theorem gX3_act_X3_doBetweenAccumulators : GoodIn wsX3_act (wsV RX3 65 RX3 yX3_doBetweenAccumulators wsX3_doBetweenAccumulators) := goodIn_app (goodIn_of _ (by decide +kernel)) ggX3_act_X3_doBetweenAccumulators
set_option maxRecDepth 20000 in
theorem ggX3_act_X3_branch : GoodIn wsX3_act wsX3_branch := goodIn_r _ [186, 3, 4, 6, 135, 106, 107, 35, 108, 37, 38, 109, 39, 40, 41, 110, 111, 112, 113, 114, 45, 115, 47, 48, 50, 51, 49, 116, 52, 53, 54, 55, 117, 118, 119, 67, 120, 71, 73, 72, 121, 122, 123, 124, 70, 69, 125, 126, 127, 128, 129, 81, 82, 83, 84, 130, 131, 132, 133, 134, 187, 188, 189, 19, 190, 191, 192, 193, 194, 1, 10, 11, 12, 13, 14, 15, 287, 288, 289, 290, 291, 292, 293, 294, 295, 296, 298, 299, 300, 301, 302, 303, 304, 305, 306, 307, 308, 309, 310, 311, 312, 313, 314, 315, 316, 317, 318, 319, 320, 321, 322, 323, 324, 325, 297] (by decide +kernel) (by decide +kernel)
set_option maxRecDepth 20000 in
theorem gX3_act_X3_branch : GoodIn wsX3_act (wsV RX3 68 RX3 yX3_branch wsX3_branch) := goodIn_app (goodIn_of _ (by decide +kernel)) ggX3_act_X3_branch
set_option maxRecDepth 20000 in
theorem ggX3_act_X3_doStack : GoodIn wsX3_act wsX3_doStack := goodIn_r _ [198, 31, 6, 26, 8, 9, 4, 2, 199, 200, 201, 202, 19, 203, 3, 135, 106, 107, 35, 108, 37, 38, 109, 39, 40, 41, 110, 111, 112, 113, 114, 45, 115, 47, 48, 50, 51, 49, 116, 52, 53, 54, 55, 117, 118, 119, 67, 120, 71, 73, 72, 121, 122, 123, 124, 70, 69, 125, 126, 127, 128, 129, 81, 82, 83, 84, 130, 131, 132, 133, 134, 85, 86, 87, 88, 32, 33, 34, 36, 42, 43, 44, 46, 56, 57, 58, 59, 60, 61, 62, 63, 64, 65, 66, 68, 74, 75, 76, 77, 78, 79, 80, 204, 205, 206, 207, 208, 209, 210, 211, 1, 145, 146, 147, 13, 148, 15, 22, 23, 24, 25, 27, 28, 29, 30, 89, 90, 91, 92, 93, 94, 95, 96, 97, 98, 99, 100, 101, 102, 103, 104, 105, 287, 288, 289, 290, 291, 292, 293, 294, 295, 296, 298, 299, 300, 301, 302, 303, 304, 305, 306, 307, 308, 309, 310, 311, 312, 313, 314, 315, 316, 317, 318, 319, 320, 321, 322, 323, 324, 325, 297] (by decide +kernel) (by decide +kernel)
set_option maxRecDepth 20000 in
theorem gX3_act_X3_doStack : GoodIn wsX3_act (wsV RX3 71 RX3 yX3_doStack wsX3_doStack) := goodIn_app (goodIn_of _ (by decide +kernel)) ggX3_act_X3_doStack
set_option maxRecDepth 20000 in
theorem ggX3_act_X0_changed : GoodIn wsX3_act wsX0_changed := goodIn_r _ [215, 162, 216, 217, 218, 160, 219, 163, 164, 165, 13, 166, 167, 98, 99, 100, 15, 168, 178, 170, 171, 172, 220, 221, 222, 223, 177, 11, 12, 14, 224, 225, 226, 227, 228, 229, 230, 231, 232, 326, 297] (by decide +kernel) (by decide +kernel)
set_option maxRecDepth 20000 in
theorem gX3_act_X0_changed : GoodIn wsX3_act (wsV RX3 77 RX0 yX0_changed wsX0_changed) := goodIn_app (goodIn_of _ (by decide +kernel)) ggX3_act_X0_changed
set_option maxRecDepth 20000 in
theorem ggX3_act_X3_operandAddress : GoodIn wsX3_act wsX3_operandAddress := goodIn_r _ [236, 4, 6, 3, 26, 237, 238, 239, 19, 240, 135, 106, 107, 35, 108, 37, 38, 109, 39, 40, 41, 110, 111, 112, 113, 114, 45, 115, 47, 48, 50, 51, 49, 116, 52, 53, 54, 55, 117, 118, 119, 67, 120, 71, 73, 72, 121, 122, 123, 124, 70, 69, 125, 126, 127, 128, 129, 81, 82, 83, 84, 130, 131, 132, 133, 134, 101, 102, 103, 104, 105, 287, 288, 289, 290, 291, 292, 293, 294, 295, 296, 298, 299, 300, 301, 302, 303, 304, 305, 306, 307, 308, 309, 310, 311, 312, 313, 314, 315, 316, 317, 318, 319, 320, 321, 322, 323, 324, 325] (by decide +kernel) (by decide +kernel)
set_option maxRecDepth 20000 in
theorem gX3_act_X3_operandAddress : GoodIn wsX3_act (wsV RX3 84 RX3 yX3_operandAddress wsX3_operandAddress) := goodIn_app (goodIn_of _ (by decide +kernel)) ggX3_act_X3_operandAddress
set_option maxRecDepth 20000 in
theorem ggX3_act_X3_changeInMemory : GoodIn wsX3_act wsX3_changeInMemory := goodIn_r _ [244, 4, 3, 7, 135, 106, 107, 35, 108, 37, 38, 109, 39, 40, 41, 110, 111, 112, 113, 114, 45, 115, 47, 48, 50, 51, 49, 116, 52, 53, 54, 55, 117, 118, 119, 67, 120, 71, 73, 72, 121, 122, 123, 124, 70, 69, 125, 126, 127, 128, 129, 81, 82, 83, 84, 130, 131, 132, 133, 134, 212, 213, 214, 160, 215, 162, 216, 217, 218, 219, 163, 164, 165, 13, 166, 167, 98, 99, 100, 15, 168, 178, 170, 171, 172, 220, 221, 222, 223, 177, 11, 12, 14, 224, 225, 226, 227, 228, 229, 230, 231, 232, 32, 33, 34, 36, 42, 43, 44, 46, 56, 57, 58, 59, 60, 61, 62, 63, 64, 65, 66, 68, 74, 75, 76, 77, 78, 79, 80, 287, 288, 289, 290, 291, 292, 293, 294, 295, 296, 298, 299, 300, 301, 302, 303, 304, 305, 306, 307, 308, 309, 310, 311, 312, 313, 314, 315, 316, 317, 318, 319, 320, 321, 322, 323, 324, 325, 326, 297] (by decide +kernel) (by decide +kernel)
set_option maxRecDepth 20000 in
theorem gX3_act_X3_changeInMemory : GoodIn wsX3_act (wsV RX3 87 RX3 yX3_changeInMemory wsX3_changeInMemory) := goodIn_app (goodIn_of _ (by decide +kernel)) ggX3_act_X3_changeInMemory
set_option maxRecDepth 20000 in
theorem ggX3_act_X3_doWithOperand : GoodIn wsX3_act wsX3_doWithOperand := goodIn_r _ [248, 3, 7, 8, 9, 26, 31, 169, 170, 171, 160, 172, 162, 163, 164, 165, 13, 166, 167, 98, 99, 100, 15, 168, 32, 33, 34, 35, 36, 37, 38, 39, 40, 41, 42, 43, 44, 45, 46, 47, 48, 49, 50, 51, 52, 53, 54, 55, 56, 57, 58, 59, 60, 61, 62, 63, 64, 65, 66, 67, 68, 69, 70, 71, 72, 73, 74, 75, 76, 77, 78, 79, 80, 81, 82, 83, 84, 101, 102, 103, 104, 105, 106, 107, 108, 109, 110, 111, 112, 113, 114, 115, 116, 117, 118, 119, 120, 121, 122, 123, 124, 125, 126, 127, 128, 129, 130, 131, 132, 133, 134, 249, 250, 251, 252, 253, 254, 255, 256, 257, 258, 259, 260, 261, 262, 19, 263, 4, 6, 135, 187, 188, 189, 190, 27, 28, 29, 30, 264, 265, 266, 267, 268, 269, 270, 271, 272, 273, 274, 275, 276, 277, 278, 279, 280, 281, 282, 283, 284, 285, 158, 159, 161, 224, 225, 226, 227, 228, 178, 286, 180, 181, 182, 287, 288, 289, 290, 291, 292, 293, 294, 295, 296, 326, 297, 298, 299, 300, 301, 302, 303, 304, 305, 306, 307, 308, 309, 310, 311, 312, 313, 314, 315, 316, 317, 318, 319, 320, 321, 322, 323, 324, 325] (by decide +kernel) (by decide +kernel)
set_option maxRecDepth 20000 in
theorem gX3_act_X3_doWithOperand : GoodIn wsX3_act (wsV RX3 91 RX3 yX3_doWithOperand wsX3_doWithOperand) := goodIn_app (goodIn_of _ (by decide +kernel)) ggX3_act_X3_doWithOperand
theorem dX3_act_0 : decode cX3_act 0 = .ok (.iload_n 1, 1) := by decide +kernel
theorem dX3_act_1 : decode cX3_act 1 = .ok (.ifCond .eq 20, 3) := by decide +kernel
theorem dX3_act_4 : decode cX3_act 4 = .ok (.aload_n 0, 1) := by decide +kernel
theorem dX3_act_5 : decode cX3_act 5 = .ok (.getfield 16, 3) := by decide +kernel
theorem dX3_act_8 : decode cX3_act 8 = .ok (.bipush 16, 2) := by decide +kernel
theorem dX3_act_10 : decode cX3_act 10 = .ok (.invokevirtual 41, 3) := by decide +kernel
theorem dX3_act_13 : decode cX3_act 13 = .ok (.ifCond .ne 8, 3) := by decide +kernel
theorem dX3_act_16 : decode cX3_act 16 = .ok (.aload_n 0, 1) := by decide +kernel
theorem dX3_act_17 : decode cX3_act 17 = .ok (.invokevirtual 45, 3) := by decide +kernel
theorem dX3_act_20 : decode cX3_act 20 = .ok (.return_, 1) := by decide +kernel
theorem dX3_act_21 : decode cX3_act 21 = .ok (.aload_n 0, 1) := by decide +kernel
theorem dX3_act_22 : decode cX3_act 22 = .ok (.getfield 34, 3) := by decide +kernel
theorem dX3_act_25 : decode cX3_act 25 = .ok (.ifCond .eq 4, 3) := by decide +kernel
theorem dX3_act_28 : decode cX3_act 28 = .ok (.return_, 1) := by decide +kernel
theorem dX3_act_29 : decode cX3_act 29 = .ok (.aload_n 0, 1) := by decide +kernel
theorem dX3_act_30 : decode cX3_act 30 = .ok (.getfield 7, 3) := by decide +kernel
theorem dX3_act_33 : decode cX3_act 33 = .ok (.aload_n 0, 1) := by decide +kernel
theorem dX3_act_34 : decode cX3_act 34 = .ok (.getfield 48, 3) := by decide +kernel
theorem dX3_act_37 : decode cX3_act 37 = .ok (.invokevirtual 52, 3) := by decide +kernel
theorem dX3_act_40 : decode cX3_act 40 = .ok (.istore_n 2, 1) := by decide +kernel
theorem dX3_act_41 : decode cX3_act 41 = .ok (.aload_n 0, 1) := by decide +kernel
theorem dX3_act_42 : decode cX3_act 42 = .ok (.iload_n 2, 1) := by decide +kernel
theorem dX3_act_43 : decode cX3_act 43 = .ok (.invokevirtual 58, 3) := by decide +kernel
theorem dX3_act_46 : decode cX3_act 46 = .ok (.ifCond .ne 9, 3) := by decide +kernel
theorem dX3_act_49 : decode cX3_act 49 = .ok (.aload_n 0, 1) := by decide +kernel
theorem dX3_act_50 : decode cX3_act 50 = .ok (.iconst 1, 1) := by decide +kernel
theorem dX3_act_51 : decode cX3_act 51 = .ok (.putfield 38, 3) := by decide +kernel
theorem dX3_act_54 : decode cX3_act 54 = .ok (.return_, 1) := by decide +kernel
theorem dX3_act_55 : decode cX3_act 55 = .ok (.aload_n 0, 1) := by decide +kernel
theorem dX3_act_56 : decode cX3_act 56 = .ok (.aload_n 0, 1) := by decide +kernel
theorem dX3_act_57 : decode cX3_act 57 = .ok (.getfield 48, 3) := by decide +kernel
theorem dX3_act_60 : decode cX3_act 60 = .ok (.iconst 1, 1) := by decide +kernel
theorem dX3_act_61 : decode cX3_act 61 = .ok (.iadd, 1) := by decide +kernel
theorem dX3_act_62 : decode cX3_act 62 = .ok (.ldc 61, 2) := by decide +kernel
theorem dX3_act_64 : decode cX3_act 64 = .ok (.iand, 1) := by decide +kernel
theorem dX3_act_65 : decode cX3_act 65 = .ok (.putfield 48, 3) := by decide +kernel
theorem dX3_act_68 : decode cX3_act 68 = .ok (.iload_n 2, 1) := by decide +kernel
theorem dX3_act_69 : decode cX3_act 69 = .ok (.iconst 4, 1) := by decide +kernel
theorem dX3_act_70 : decode cX3_act 70 = .ok (.ishr, 1) := by decide +kernel
theorem dX3_act_71 : decode cX3_act 71 = .ok (.tableswitch 140 0 7 #[45, 53, 61, 72, 80, 102, 124, 124], 45) := by decide +kernel
theorem dX3_act_116 : decode cX3_act 116 = .ok (.aload_n 0, 1) := by decide +kernel
theorem dX3_act_117 : decode cX3_act 117 = .ok (.iload_n 2, 1) := by decide +kernel
theorem dX3_act_118 : decode cX3_act 118 = .ok (.invokevirtual 62, 3) := by decide +kernel
theorem dX3_act_121 : decode cX3_act 121 = .ok (.goto 100, 3) := by decide +kernel
theorem dX3_act_124 : decode cX3_act 124 = .ok (.aload_n 0, 1) := by decide +kernel
theorem dX3_act_125 : decode cX3_act 125 = .ok (.iload_n 2, 1) := by decide +kernel
theorem dX3_act_126 : decode cX3_act 126 = .ok (.invokevirtual 65, 3) := by decide +kernel
theorem dX3_act_129 : decode cX3_act 129 = .ok (.goto 92, 3) := by decide +kernel
theorem dX3_act_132 : decode cX3_act 132 = .ok (.aload_n 0, 1) := by decide +kernel
theorem dX3_act_133 : decode cX3_act 133 = .ok (.iload_n 2, 1) := by decide +kernel
theorem dX3_act_134 : decode cX3_act 134 = .ok (.bipush 15, 2) := by decide +kernel
theorem dX3_act_136 : decode cX3_act 136 = .ok (.iand, 1) := by decide +kernel
theorem dX3_act_137 : decode cX3_act 137 = .ok (.invokevirtual 68, 3) := by decide +kernel
theorem dX3_act_140 : decode cX3_act 140 = .ok (.goto 81, 3) := by decide +kernel
theorem dX3_act_143 : decode cX3_act 143 = .ok (.aload_n 0, 1) := by decide +kernel
theorem dX3_act_144 : decode cX3_act 144 = .ok (.iload_n 2, 1) := by decide +kernel
theorem dX3_act_145 : decode cX3_act 145 = .ok (.invokevirtual 71, 3) := by decide +kernel
theorem dX3_act_148 : decode cX3_act 148 = .ok (.goto 73, 3) := by decide +kernel
theorem dX3_act_151 : decode cX3_act 151 = .ok (.aload_n 0, 1) := by decide +kernel
theorem dX3_act_152 : decode cX3_act 152 = .ok (.aload_n 0, 1) := by decide +kernel
theorem dX3_act_153 : decode cX3_act 153 = .ok (.getfield 25, 3) := by decide +kernel
theorem dX3_act_156 : decode cX3_act 156 = .ok (.iload_n 2, 1) := by decide +kernel
theorem dX3_act_157 : decode cX3_act 157 = .ok (.bipush 15, 2) := by decide +kernel
theorem dX3_act_159 : decode cX3_act 159 = .ok (.iand, 1) := by decide +kernel
theorem dX3_act_160 : decode cX3_act 160 = .ok (.aload_n 0, 1) := by decide +kernel
theorem dX3_act_161 : decode cX3_act 161 = .ok (.getfield 74, 3) := by decide +kernel
theorem dX3_act_164 : decode cX3_act 164 = .ok (.invokevirtual 77, 3) := by decide +kernel
theorem dX3_act_167 : decode cX3_act 167 = .ok (.putfield 74, 3) := by decide +kernel
theorem dX3_act_170 : decode cX3_act 170 = .ok (.goto 51, 3) := by decide +kernel
theorem dX3_act_173 : decode cX3_act 173 = .ok (.aload_n 0, 1) := by decide +kernel
theorem dX3_act_174 : decode cX3_act 174 = .ok (.aload_n 0, 1) := by decide +kernel
theorem dX3_act_175 : decode cX3_act 175 = .ok (.getfield 25, 3) := by decide +kernel
theorem dX3_act_178 : decode cX3_act 178 = .ok (.iload_n 2, 1) := by decide +kernel
theorem dX3_act_179 : decode cX3_act 179 = .ok (.bipush 15, 2) := by decide +kernel
theorem dX3_act_181 : decode cX3_act 181 = .ok (.iand, 1) := by decide +kernel
theorem dX3_act_182 : decode cX3_act 182 = .ok (.aload_n 0, 1) := by decide +kernel
theorem dX3_act_183 : decode cX3_act 183 = .ok (.getfield 81, 3) := by decide +kernel
theorem dX3_act_186 : decode cX3_act 186 = .ok (.invokevirtual 77, 3) := by decide +kernel
theorem dX3_act_189 : decode cX3_act 189 = .ok (.putfield 81, 3) := by decide +kernel
theorem dX3_act_192 : decode cX3_act 192 = .ok (.goto 29, 3) := by decide +kernel
theorem dX3_act_195 : decode cX3_act 195 = .ok (.aload_n 0, 1) := by decide +kernel
theorem dX3_act_196 : decode cX3_act 196 = .ok (.iload_n 2, 1) := by decide +kernel
theorem dX3_act_197 : decode cX3_act 197 = .ok (.bipush 15, 2) := by decide +kernel
theorem dX3_act_199 : decode cX3_act 199 = .ok (.iand, 1) := by decide +kernel
theorem dX3_act_200 : decode cX3_act 200 = .ok (.aload_n 0, 1) := by decide +kernel
theorem dX3_act_201 : decode cX3_act 201 = .ok (.iload_n 2, 1) := by decide +kernel
theorem dX3_act_202 : decode cX3_act 202 = .ok (.invokevirtual 84, 3) := by decide +kernel
theorem dX3_act_205 : decode cX3_act 205 = .ok (.invokevirtual 87, 3) := by decide +kernel
theorem dX3_act_208 : decode cX3_act 208 = .ok (.goto 13, 3) := by decide +kernel
theorem dX3_act_211 : decode cX3_act 211 = .ok (.aload_n 0, 1) := by decide +kernel
theorem dX3_act_212 : decode cX3_act 212 = .ok (.iload_n 2, 1) := by decide +kernel
theorem dX3_act_213 : decode cX3_act 213 = .ok (.aload_n 0, 1) := by decide +kernel
theorem dX3_act_214 : decode cX3_act 214 = .ok (.iload_n 2, 1) := by decide +kernel
theorem dX3_act_215 : decode cX3_act 215 = .ok (.invokevirtual 84, 3) := by decide +kernel
theorem dX3_act_218 : decode cX3_act 218 = .ok (.invokevirtual 91, 3) := by decide +kernel
theorem dX3_act_221 : decode cX3_act 221 = .ok (.return_, 1) := by decide +kernel
set_option maxRecDepth 20000 in
theorem ggX3_interrupt_X3_pushAll : GoodIn wsX3_interrupt wsX3_pushAll := goodIn_r _ [7, 8, 9, 10, 11, 12, 13, 14, 15, 6, 16, 17, 18, 19, 20, 21, 22, 23, 24, 25, 26, 27, 28, 29, 30, 31, 32, 33, 34, 35, 36, 37, 38, 39, 40, 41, 42, 43, 44, 45, 46, 47, 48, 49, 50, 51, 52, 53, 54, 55, 56, 57, 58, 59, 60, 61, 62, 63, 64, 65, 66, 67, 68, 69, 70, 71, 72, 73, 74, 75, 76, 77, 78, 79, 80, 81, 82, 125, 126, 127, 128, 129, 130, 131, 132, 133, 134, 135, 136, 137, 138, 139, 140, 141, 142, 143, 144, 145, 146, 147, 148, 149, 150, 151, 152, 153, 154, 155, 156, 157, 158, 159, 160, 161, 162, 163] (by decide +kernel) (by decide +kernel)
set_option maxRecDepth 20000 in
theorem gX3_interrupt_X3_pushAll : GoodIn wsX3_interrupt (wsV RX3 94 RX3 yX3_pushAll wsX3_pushAll) := goodIn_app (goodIn_of _ (by decide +kernel)) ggX3_interrupt_X3_pushAll
set_option maxRecDepth 20000 in
theorem ggX3_interrupt_X3_goThrough : GoodIn wsX3_interrupt wsX3_goThrough := goodIn_r _ [86, 12, 17, 8, 87, 88, 89, 80, 90, 82, 91, 92, 93, 23, 94, 95, 96, 97, 98, 25, 26, 99, 27, 28, 29, 100, 101, 102, 103, 104, 33, 105, 35, 36, 38, 39, 37, 106, 40, 41, 42, 43, 107, 108, 109, 55, 110, 59, 61, 60, 111, 112, 113, 114, 58, 57, 115, 116, 117, 118, 119, 69, 70, 71, 72, 120, 121, 122, 123, 124, 125, 126, 127, 128, 129, 130, 131, 132, 133, 134, 163, 135, 136, 137, 138, 139, 140, 141, 142, 143, 144, 145, 146, 147, 148, 149, 150, 151, 152, 153, 154, 155, 156, 157, 158, 159, 160, 161, 162] (by decide +kernel) (by decide +kernel)
set_option maxRecDepth 20000 in
theorem gX3_interrupt_X3_goThrough : GoodIn wsX3_interrupt (wsV RX3 30 RX3 yX3_goThrough wsX3_goThrough) := goodIn_app (goodIn_of _ (by decide +kernel)) ggX3_interrupt_X3_goThrough
theorem dX3_interrupt_0 : decode cX3_interrupt 0 = .ok (.aload_n 0, 1) := by decide +kernel
theorem dX3_interrupt_1 : decode cX3_interrupt 1 = .ok (.getfield 34, 3) := by decide +kernel
theorem dX3_interrupt_4 : decode cX3_interrupt 4 = .ok (.ifCond .ne 7, 3) := by decide +kernel
theorem dX3_interrupt_7 : decode cX3_interrupt 7 = .ok (.aload_n 0, 1) := by decide +kernel
theorem dX3_interrupt_8 : decode cX3_interrupt 8 = .ok (.invokevirtual 94, 3) := by decide +kernel
theorem dX3_interrupt_11 : decode cX3_interrupt 11 = .ok (.aload_n 0, 1) := by decide +kernel
theorem dX3_interrupt_12 : decode cX3_interrupt 12 = .ok (.iconst 0, 1) := by decide +kernel
theorem dX3_interrupt_13 : decode cX3_interrupt 13 = .ok (.putfield 34, 3) := by decide +kernel
theorem dX3_interrupt_16 : decode cX3_interrupt 16 = .ok (.aload_n 0, 1) := by decide +kernel
theorem dX3_interrupt_17 : decode cX3_interrupt 17 = .ok (.ldc 97, 2) := by decide +kernel
theorem dX3_interrupt_19 : decode cX3_interrupt 19 = .ok (.invokevirtual 30, 3) := by decide +kernel
theorem dX3_interrupt_22 : decode cX3_interrupt 22 = .ok (.return_, 1) := by decide +kernel
set_option maxRecDepth 20000 in
theorem ggX3_goThrough_X2_tell : GoodIn wsX3_goThrough wsX2_tell := goodIn_r _ [8, 9, 80] (by decide +kernel) (by decide +kernel)
set_option maxRecDepth 20000 in
theorem gX3_goThrough_X2_tell : GoodIn wsX3_goThrough (wsV RX3 98 RX2 yX2_tell wsX2_tell) := goodIn_app (goodIn_of _ (by decide +kernel)) ggX3_goThrough_X2_tell
set_option maxRecDepth 20000 in
theorem ggX3_goThrough_X1_readWord : GoodIn wsX3_goThrough wsX1_readWord := goodIn_r _ [14, 15, 16, 17, 13, 18, 19, 20, 21, 22, 23, 24, 25, 26, 27, 28, 29, 30, 31, 32, 33, 34, 35, 36, 37, 38, 39, 40, 41, 42, 43, 44, 45, 46, 47, 48, 49, 50, 51, 52, 53, 54, 55, 56, 57, 58, 59, 60, 61, 62, 63, 64, 65, 66, 67, 68, 69, 81, 82, 83, 84, 85, 86, 87, 88, 89, 90, 91, 92, 93, 94, 95, 96, 97, 98, 99, 100, 101, 102, 103, 104, 105, 106, 107, 108] (by decide +kernel) (by decide +kernel)
set_option maxRecDepth 20000 in
theorem gX3_goThrough_X1_readWord : GoodIn wsX3_goThrough (wsV RX3 102 RX1 yX1_readWord wsX1_readWord) := goodIn_app (goodIn_of _ (by decide +kernel)) ggX3_goThrough_X1_readWord
theorem dX3_goThrough_0 : decode cX3_goThrough 0 = .ok (.aload_n 0, 1) := by decide +kernel
theorem dX3_goThrough_1 : decode cX3_goThrough 1 = .ok (.getfield 16, 3) := by decide +kernel
theorem dX3_goThrough_4 : decode cX3_goThrough 4 = .ok (.bipush 16, 2) := by decide +kernel
theorem dX3_goThrough_6 : decode cX3_goThrough 6 = .ok (.iconst 1, 1) := by decide +kernel
theorem dX3_goThrough_7 : decode cX3_goThrough 7 = .ok (.invokevirtual 98, 3) := by decide +kernel
theorem dX3_goThrough_10 : decode cX3_goThrough 10 = .ok (.aload_n 0, 1) := by decide +kernel
theorem dX3_goThrough_11 : decode cX3_goThrough 11 = .ok (.aload_n 0, 1) := by decide +kernel
theorem dX3_goThrough_12 : decode cX3_goThrough 12 = .ok (.getfield 7, 3) := by decide +kernel
theorem dX3_goThrough_15 : decode cX3_goThrough 15 = .ok (.iload_n 1, 1) := by decide +kernel
theorem dX3_goThrough_16 : decode cX3_goThrough 16 = .ok (.invokevirtual 102, 3) := by decide +kernel
theorem dX3_goThrough_19 : decode cX3_goThrough 19 = .ok (.putfield 48, 3) := by decide +kernel
theorem dX3_goThrough_22 : decode cX3_goThrough 22 = .ok (.return_, 1) := by decide +kernel
theorem dX3_isLegal_0 : decode cX3_isLegal 0 = .ok (.getstatic 105, 3) := by decide +kernel
theorem dX3_isLegal_3 : decode cX3_isLegal 3 = .ok (.iload_n 1, 1) := by decide +kernel
theorem dX3_isLegal_4 : decode cX3_isLegal 4 = .ok (.iconst 4, 1) := by decide +kernel
theorem dX3_isLegal_5 : decode cX3_isLegal 5 = .ok (.ishr, 1) := by decide +kernel
theorem dX3_isLegal_6 : decode cX3_isLegal 6 = .ok (.bipush 15, 2) := by decide +kernel
theorem dX3_isLegal_8 : decode cX3_isLegal 8 = .ok (.iand, 1) := by decide +kernel
theorem dX3_isLegal_9 : decode cX3_isLegal 9 = .ok (.iaload, 1) := by decide +kernel
theorem dX3_isLegal_10 : decode cX3_isLegal 10 = .ok (.iload_n 1, 1) := by decide +kernel
theorem dX3_isLegal_11 : decode cX3_isLegal 11 = .ok (.bipush 15, 2) := by decide +kernel
theorem dX3_isLegal_13 : decode cX3_isLegal 13 = .ok (.iand, 1) := by decide +kernel
theorem dX3_isLegal_14 : decode cX3_isLegal 14 = .ok (.ishr, 1) := by decide +kernel
theorem dX3_isLegal_15 : decode cX3_isLegal 15 = .ok (.iconst 1, 1) := by decide +kernel
theorem dX3_isLegal_16 : decode cX3_isLegal 16 = .ok (.iand, 1) := by decide +kernel
theorem dX3_isLegal_17 : decode cX3_isLegal 17 = .ok (.ifCond .eq 7, 3) := by decide +kernel
theorem dX3_isLegal_20 : decode cX3_isLegal 20 = .ok (.iconst 1, 1) := by decide +kernel
theorem dX3_isLegal_21 : decode cX3_isLegal 21 = .ok (.goto 4, 3) := by decide +kernel
theorem dX3_isLegal_24 : decode cX3_isLegal 24 = .ok (.iconst 0, 1) := by decide +kernel
theorem dX3_isLegal_25 : decode cX3_isLegal 25 = .ok (.ireturn, 1) := by decide +kernel
set_option maxRecDepth 20000 in
theorem ggX3_doFlagsAndIndex_X2_takeByte : GoodIn wsX3_doFlagsAndIndex wsX2_takeByte := goodIn_r _ [7, 8, 34] (by decide +kernel) (by decide +kernel)
set_option maxRecDepth 20000 in
theorem gX3_doFlagsAndIndex_X2_takeByte : GoodIn wsX3_doFlagsAndIndex (wsV RX3 109 RX2 yX2_takeByte wsX2_takeByte) := goodIn_app (goodIn_of _ (by decide +kernel)) ggX3_doFlagsAndIndex_X2_takeByte
set_option maxRecDepth 20000 in
theorem ggX3_doFlagsAndIndex_X2_asByte : GoodIn wsX3_doFlagsAndIndex wsX2_asByte := goodIn_r _ [12, 8, 34] (by decide +kernel) (by decide +kernel)
set_option maxRecDepth 20000 in
theorem gX3_doFlagsAndIndex_X2_asByte : GoodIn wsX3_doFlagsAndIndex (wsV RX3 112 RX2 yX2_asByte wsX2_asByte) := goodIn_app (goodIn_of _ (by decide +kernel)) ggX3_doFlagsAndIndex_X2_asByte
set_option maxRecDepth 20000 in
theorem ggX3_doFlagsAndIndex_X3_countIndex : GoodIn wsX3_doFlagsAndIndex wsX3_countIndex := goodIn_r _ [17, 18, 19, 1, 20, 21, 22, 6, 23, 8, 24, 25, 26, 27, 28, 29, 30, 31, 32, 33, 34] (by decide +kernel) (by decide +kernel)
set_option maxRecDepth 20000 in
theorem gX3_doFlagsAndIndex_X3_countIndex : GoodIn wsX3_doFlagsAndIndex (wsV RX3 116 RX3 yX3_countIndex wsX3_countIndex) := goodIn_app (goodIn_of _ (by decide +kernel)) ggX3_doFlagsAndIndex_X3_countIndex
set_option maxRecDepth 20000 in
theorem ggX3_doFlagsAndIndex_X2_tell : GoodIn wsX3_doFlagsAndIndex wsX2_tell := goodIn_r _ [23, 8, 34] (by decide +kernel) (by decide +kernel)
set_option maxRecDepth 20000 in
theorem gX3_doFlagsAndIndex_X2_tell : GoodIn wsX3_doFlagsAndIndex (wsV RX3 98 RX2 yX2_tell wsX2_tell) := goodIn_app (goodIn_of _ (by decide +kernel)) ggX3_doFlagsAndIndex_X2_tell
theorem dX3_doFlagsAndIndex_0 : decode cX3_doFlagsAndIndex 0 = .ok (.iload_n 1, 1) := by decide +kernel
theorem dX3_doFlagsAndIndex_1 : decode cX3_doFlagsAndIndex 1 = .ok (.tableswitch 166 6 15 #[55, 69, 83, 91, 99, 99, 121, 121, 143, 143], 55) := by decide +kernel
theorem dX3_doFlagsAndIndex_56 : decode cX3_doFlagsAndIndex 56 = .ok (.aload_n 0, 1) := by decide +kernel
theorem dX3_doFlagsAndIndex_57 : decode cX3_doFlagsAndIndex 57 = .ok (.getfield 16, 3) := by decide +kernel
theorem dX3_doFlagsAndIndex_60 : decode cX3_doFlagsAndIndex 60 = .ok (.aload_n 0, 1) := by decide +kernel
theorem dX3_doFlagsAndIndex_61 : decode cX3_doFlagsAndIndex 61 = .ok (.getfield 74, 3) := by decide +kernel
theorem dX3_doFlagsAndIndex_64 : decode cX3_doFlagsAndIndex 64 = .ok (.invokevirtual 109, 3) := by decide +kernel
theorem dX3_doFlagsAndIndex_67 : decode cX3_doFlagsAndIndex 67 = .ok (.goto 100, 3) := by decide +kernel
theorem dX3_doFlagsAndIndex_70 : decode cX3_doFlagsAndIndex 70 = .ok (.aload_n 0, 1) := by decide +kernel
theorem dX3_doFlagsAndIndex_71 : decode cX3_doFlagsAndIndex 71 = .ok (.aload_n 0, 1) := by decide +kernel
theorem dX3_doFlagsAndIndex_72 : decode cX3_doFlagsAndIndex 72 = .ok (.getfield 16, 3) := by decide +kernel
theorem dX3_doFlagsAndIndex_75 : decode cX3_doFlagsAndIndex 75 = .ok (.invokevirtual 112, 3) := by decide +kernel
theorem dX3_doFlagsAndIndex_78 : decode cX3_doFlagsAndIndex 78 = .ok (.putfield 74, 3) := by decide +kernel
theorem dX3_doFlagsAndIndex_81 : decode cX3_doFlagsAndIndex 81 = .ok (.goto 86, 3) := by decide +kernel
theorem dX3_doFlagsAndIndex_84 : decode cX3_doFlagsAndIndex 84 = .ok (.aload_n 0, 1) := by decide +kernel
theorem dX3_doFlagsAndIndex_85 : decode cX3_doFlagsAndIndex 85 = .ok (.iconst 1, 1) := by decide +kernel
theorem dX3_doFlagsAndIndex_86 : decode cX3_doFlagsAndIndex 86 = .ok (.invokevirtual 116, 3) := by decide +kernel
theorem dX3_doFlagsAndIndex_89 : decode cX3_doFlagsAndIndex 89 = .ok (.goto 78, 3) := by decide +kernel
theorem dX3_doFlagsAndIndex_92 : decode cX3_doFlagsAndIndex 92 = .ok (.aload_n 0, 1) := by decide +kernel
theorem dX3_doFlagsAndIndex_93 : decode cX3_doFlagsAndIndex 93 = .ok (.iconst (-1), 1) := by decide +kernel
theorem dX3_doFlagsAndIndex_94 : decode cX3_doFlagsAndIndex 94 = .ok (.invokevirtual 116, 3) := by decide +kernel
theorem dX3_doFlagsAndIndex_97 : decode cX3_doFlagsAndIndex 97 = .ok (.goto 70, 3) := by decide +kernel
theorem dX3_doFlagsAndIndex_100 : decode cX3_doFlagsAndIndex 100 = .ok (.aload_n 0, 1) := by decide +kernel
theorem dX3_doFlagsAndIndex_101 : decode cX3_doFlagsAndIndex 101 = .ok (.getfield 16, 3) := by decide +kernel
theorem dX3_doFlagsAndIndex_104 : decode cX3_doFlagsAndIndex 104 = .ok (.iconst 2, 1) := by decide +kernel
theorem dX3_doFlagsAndIndex_105 : decode cX3_doFlagsAndIndex 105 = .ok (.iload_n 1, 1) := by decide +kernel
theorem dX3_doFlagsAndIndex_106 : decode cX3_doFlagsAndIndex 106 = .ok (.bipush 11, 2) := by decide +kernel
theorem dX3_doFlagsAndIndex_108 : decode cX3_doFlagsAndIndex 108 = .ok (.if_icmp .ne 7, 3) := by decide +kernel
theorem dX3_doFlagsAndIndex_111 : decode cX3_doFlagsAndIndex 111 = .ok (.iconst 1, 1) := by decide +kernel
theorem dX3_doFlagsAndIndex_112 : decode cX3_doFlagsAndIndex 112 = .ok (.goto 4, 3) := by decide +kernel
theorem dX3_doFlagsAndIndex_115 : decode cX3_doFlagsAndIndex 115 = .ok (.iconst 0, 1) := by decide +kernel
theorem dX3_doFlagsAndIndex_116 : decode cX3_doFlagsAndIndex 116 = .ok (.invokevirtual 98, 3) := by decide +kernel
theorem dX3_doFlagsAndIndex_119 : decode cX3_doFlagsAndIndex 119 = .ok (.goto 48, 3) := by decide +kernel
theorem dX3_doFlagsAndIndex_122 : decode cX3_doFlagsAndIndex 122 = .ok (.aload_n 0, 1) := by decide +kernel
theorem dX3_doFlagsAndIndex_123 : decode cX3_doFlagsAndIndex 123 = .ok (.getfield 16, 3) := by decide +kernel
theorem dX3_doFlagsAndIndex_126 : decode cX3_doFlagsAndIndex 126 = .ok (.iconst 1, 1) := by decide +kernel
theorem dX3_doFlagsAndIndex_127 : decode cX3_doFlagsAndIndex 127 = .ok (.iload_n 1, 1) := by decide +kernel
theorem dX3_doFlagsAndIndex_128 : decode cX3_doFlagsAndIndex 128 = .ok (.bipush 13, 2) := by decide +kernel
theorem dX3_doFlagsAndIndex_130 : decode cX3_doFlagsAndIndex 130 = .ok (.if_icmp .ne 7, 3) := by decide +kernel
theorem dX3_doFlagsAndIndex_133 : decode cX3_doFlagsAndIndex 133 = .ok (.iconst 1, 1) := by decide +kernel
theorem dX3_doFlagsAndIndex_134 : decode cX3_doFlagsAndIndex 134 = .ok (.goto 4, 3) := by decide +kernel
theorem dX3_doFlagsAndIndex_137 : decode cX3_doFlagsAndIndex 137 = .ok (.iconst 0, 1) := by decide +kernel
theorem dX3_doFlagsAndIndex_138 : decode cX3_doFlagsAndIndex 138 = .ok (.invokevirtual 98, 3) := by decide +kernel
theorem dX3_doFlagsAndIndex_141 : decode cX3_doFlagsAndIndex 141 = .ok (.goto 26, 3) := by decide +kernel
theorem dX3_doFlagsAndIndex_144 : decode cX3_doFlagsAndIndex 144 = .ok (.aload_n 0, 1) := by decide +kernel
theorem dX3_doFlagsAndIndex_145 : decode cX3_doFlagsAndIndex 145 = .ok (.getfield 16, 3) := by decide +kernel
theorem dX3_doFlagsAndIndex_148 : decode cX3_doFlagsAndIndex 148 = .ok (.bipush 16, 2) := by decide +kernel
theorem dX3_doFlagsAndIndex_150 : decode cX3_doFlagsAndIndex 150 = .ok (.iload_n 1, 1) := by decide +kernel
theorem dX3_doFlagsAndIndex_151 : decode cX3_doFlagsAndIndex 151 = .ok (.bipush 15, 2) := by decide +kernel
theorem dX3_doFlagsAndIndex_153 : decode cX3_doFlagsAndIndex 153 = .ok (.if_icmp .ne 7, 3) := by decide +kernel
theorem dX3_doFlagsAndIndex_156 : decode cX3_doFlagsAndIndex 156 = .ok (.iconst 1, 1) := by decide +kernel
theorem dX3_doFlagsAndIndex_157 : decode cX3_doFlagsAndIndex 157 = .ok (.goto 4, 3) := by decide +kernel
theorem dX3_doFlagsAndIndex_160 : decode cX3_doFlagsAndIndex 160 = .ok (.iconst 0, 1) := by decide +kernel
theorem dX3_doFlagsAndIndex_161 : decode cX3_doFlagsAndIndex 161 = .ok (.invokevirtual 98, 3) := by decide +kernel
theorem dX3_doFlagsAndIndex_164 : decode cX3_doFlagsAndIndex 164 = .ok (.goto 3, 3) := by decide +kernel
theorem dX3_doFlagsAndIndex_167 : decode cX3_doFlagsAndIndex 167 = .ok (.return_, 1) := by decide +kernel
set_option maxRecDepth 20000 in
theorem ggX3_countIndex_X2_tell : GoodIn wsX3_countIndex wsX2_tell := goodIn_r _ [8, 9, 20] (by decide +kernel) (by decide +kernel)
set_option maxRecDepth 20000 in
theorem gX3_countIndex_X2_tell : GoodIn wsX3_countIndex (wsV RX3 98 RX2 yX2_tell wsX2_tell) := goodIn_app (goodIn_of _ (by decide +kernel)) ggX3_countIndex_X2_tell
theorem dX3_countIndex_0 : decode cX3_countIndex 0 = .ok (.aload_n 0, 1) := by decide +kernel
theorem dX3_countIndex_1 : decode cX3_countIndex 1 = .ok (.aload_n 0, 1) := by decide +kernel
theorem dX3_countIndex_2 : decode cX3_countIndex 2 = .ok (.getfield 119, 3) := by decide +kernel
theorem dX3_countIndex_5 : decode cX3_countIndex 5 = .ok (.iload_n 1, 1) := by decide +kernel
theorem dX3_countIndex_6 : decode cX3_countIndex 6 = .ok (.iadd, 1) := by decide +kernel
theorem dX3_countIndex_7 : decode cX3_countIndex 7 = .ok (.ldc 61, 2) := by decide +kernel
theorem dX3_countIndex_9 : decode cX3_countIndex 9 = .ok (.iand, 1) := by decide +kernel
theorem dX3_countIndex_10 : decode cX3_countIndex 10 = .ok (.putfield 119, 3) := by decide +kernel
theorem dX3_countIndex_13 : decode cX3_countIndex 13 = .ok (.aload_n 0, 1) := by decide +kernel
theorem dX3_countIndex_14 : decode cX3_countIndex 14 = .ok (.getfield 16, 3) := by decide +kernel
theorem dX3_countIndex_17 : decode cX3_countIndex 17 = .ok (.iconst 4, 1) := by decide +kernel
theorem dX3_countIndex_18 : decode cX3_countIndex 18 = .ok (.aload_n 0, 1) := by decide +kernel
theorem dX3_countIndex_19 : decode cX3_countIndex 19 = .ok (.getfield 119, 3) := by decide +kernel
theorem dX3_countIndex_22 : decode cX3_countIndex 22 = .ok (.ifCond .ne 7, 3) := by decide +kernel
theorem dX3_countIndex_25 : decode cX3_countIndex 25 = .ok (.iconst 1, 1) := by decide +kernel
theorem dX3_countIndex_26 : decode cX3_countIndex 26 = .ok (.goto 4, 3) := by decide +kernel
theorem dX3_countIndex_29 : decode cX3_countIndex 29 = .ok (.iconst 0, 1) := by decide +kernel
theorem dX3_countIndex_30 : decode cX3_countIndex 30 = .ok (.invokevirtual 98, 3) := by decide +kernel
theorem dX3_countIndex_33 : decode cX3_countIndex 33 = .ok (.return_, 1) := by decide +kernel
set_option maxRecDepth 20000 in
theorem ggX3_doBetweenAccumulators_X0_difference : GoodIn wsX3_doBetweenAccumulators wsX0_difference := goodIn_r _ [8, 9, 10, 11, 12, 13, 14, 15, 16, 17, 18, 19, 20, 48, 49] (by decide +kernel) (by decide +kernel)
set_option maxRecDepth 20000 in
theorem gX3_doBetweenAccumulators_X0_difference : GoodIn wsX3_doBetweenAccumulators (wsV RX3 122 RX0 yX0_difference wsX0_difference) := goodIn_app (goodIn_of _ (by decide +kernel)) ggX3_doBetweenAccumulators_X0_difference
set_option maxRecDepth 20000 in
theorem ggX3_doBetweenAccumulators_X0_told : GoodIn wsX3_doBetweenAccumulators wsX0_told := goodIn_r _ [24, 9, 10, 11, 12, 13, 14, 15, 16, 17, 18, 19, 20, 48, 49] (by decide +kernel) (by decide +kernel)
set_option maxRecDepth 20000 in
theorem gX3_doBetweenAccumulators_X0_told : GoodIn wsX3_doBetweenAccumulators (wsV RX3 126 RX0 yX0_told wsX0_told) := goodIn_app (goodIn_of _ (by decide +kernel)) ggX3_doBetweenAccumulators_X0_told
