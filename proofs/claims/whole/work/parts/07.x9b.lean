theorem dX9_raises_46 : decode cX9_raises 46 = .ok (.iastore, 1) := by decide +kernel
theorem dX9_raises_47 : decode cX9_raises 47 = .ok (.return_, 1) := by decide +kernel
set_option maxRecDepth 20000 in
theorem ggX9_work_X9_isHouse : GoodIn wsX9_work wsX9_isHouse := goodIn_r _ [13, 14, 15, 16, 12, 17, 64, 65, 66, 67, 68, 69, 70, 71, 72, 73, 74, 75, 76, 77, 78, 79, 80, 81, 82, 83, 84, 85, 86, 87, 88, 89, 90, 91, 92, 93, 94, 95, 96, 97, 98] (by decide +kernel) (by decide +kernel)
set_option maxRecDepth 20000 in
theorem gX9_work_X9_isHouse : GoodIn wsX9_work (wsV RX9 113 RX9 yX9_isHouse wsX9_isHouse) := goodIn_app (goodIn_of _ (by decide +kernel)) ggX9_work_X9_isHouse
set_option maxRecDepth 20000 in
theorem ggX9_work_X9_isRod : GoodIn wsX9_work wsX9_isRod := goodIn_r _ [20, 15, 16, 12, 17] (by decide +kernel) (by decide +kernel)
set_option maxRecDepth 20000 in
theorem gX9_work_X9_isRod : GoodIn wsX9_work (va_wsS RX9 103 yX9_isRod wsX9_isRod) := goodIn_app (goodIn_of _ (by decide +kernel)) ggX9_work_X9_isRod
set_option maxRecDepth 20000 in
theorem ggX9_work_X9_yet : GoodIn wsX9_work wsX9_yet := goodIn_r _ [24, 6, 4, 25, 26, 27, 28, 12, 29, 30, 31, 32, 33, 34, 35, 36, 37, 38, 39, 40, 41, 42, 43, 44, 45, 46, 47, 48, 49, 50, 51, 52, 64, 65, 66, 67, 68, 69, 70, 71, 72, 73, 74, 75, 76, 77, 78, 79, 80, 81, 82, 83, 84, 85, 86, 87, 88, 89, 90, 91, 92, 93, 94, 95, 96, 97, 98] (by decide +kernel) (by decide +kernel)
set_option maxRecDepth 20000 in
theorem gX9_work_X9_yet : GoodIn wsX9_work (wsV RX9 140 RX9 yX9_yet wsX9_yet) := goodIn_app (goodIn_of _ (by decide +kernel)) ggX9_work_X9_yet
set_option maxRecDepth 20000 in
theorem ggX9_work_X9_in : GoodIn wsX9_work wsX9_in := goodIn_r _ [17] (by decide +kernel) (by decide +kernel)
set_option maxRecDepth 20000 in
theorem gX9_work_X9_in : GoodIn wsX9_work (va_wsS RX9 88 yX9_in wsX9_in) := goodIn_app (goodIn_of _ (by decide +kernel)) ggX9_work_X9_in
set_option maxRecDepth 20000 in
theorem ggX9_work_X9_raises : GoodIn wsX9_work wsX9_raises := goodIn_r _ [56, 57, 58, 59, 60, 61, 12, 62, 63, 64, 65, 66, 67, 68, 69, 70, 71, 72, 73, 74, 75, 76, 77, 78, 79, 80, 81, 82, 83, 84, 85, 86, 87, 88, 89, 90, 91, 92, 93, 94, 95, 96, 97, 98] (by decide +kernel) (by decide +kernel)
set_option maxRecDepth 20000 in
theorem gX9_work_X9_raises : GoodIn wsX9_work (wsV RX9 146 RX9 yX9_raises wsX9_raises) := goodIn_app (goodIn_of _ (by decide +kernel)) ggX9_work_X9_raises
theorem dX9_work_0 : decode cX9_work 0 = .ok (.aload_n 0, 1) := by decide +kernel
theorem dX9_work_1 : decode cX9_work 1 = .ok (.iload_n 1, 1) := by decide +kernel
theorem dX9_work_2 : decode cX9_work 2 = .ok (.invokevirtual 113, 3) := by decide +kernel
theorem dX9_work_5 : decode cX9_work 5 = .ok (.ifCond .eq 29, 3) := by decide +kernel
theorem dX9_work_8 : decode cX9_work 8 = .ok (.aload_n 0, 1) := by decide +kernel
theorem dX9_work_9 : decode cX9_work 9 = .ok (.iload 4, 2) := by decide +kernel
theorem dX9_work_11 : decode cX9_work 11 = .ok (.invokevirtual 113, 3) := by decide +kernel
theorem dX9_work_14 : decode cX9_work 14 = .ok (.ifCond .eq 20, 3) := by decide +kernel
theorem dX9_work_17 : decode cX9_work 17 = .ok (.iload_n 2, 1) := by decide +kernel
theorem dX9_work_18 : decode cX9_work 18 = .ok (.invokestatic 103, 3) := by decide +kernel
theorem dX9_work_21 : decode cX9_work 21 = .ok (.ifCond .eq 13, 3) := by decide +kernel
theorem dX9_work_24 : decode cX9_work 24 = .ok (.aload_n 0, 1) := by decide +kernel
theorem dX9_work_25 : decode cX9_work 25 = .ok (.getfield 96, 3) := by decide +kernel
theorem dX9_work_28 : decode cX9_work 28 = .ok (.sipush 1040, 3) := by decide +kernel
theorem dX9_work_31 : decode cX9_work 31 = .ok (.if_icmp .ne 5, 3) := by decide +kernel
theorem dX9_work_34 : decode cX9_work 34 = .ok (.iconst (-1), 1) := by decide +kernel
theorem dX9_work_35 : decode cX9_work 35 = .ok (.ireturn, 1) := by decide +kernel
theorem dX9_work_36 : decode cX9_work 36 = .ok (.aload_n 0, 1) := by decide +kernel
theorem dX9_work_37 : decode cX9_work 37 = .ok (.getfield 96, 3) := by decide +kernel
theorem dX9_work_40 : decode cX9_work 40 = .ok (.bipush 52, 2) := by decide +kernel
theorem dX9_work_42 : decode cX9_work 42 = .ok (.idiv, 1) := by decide +kernel
theorem dX9_work_43 : decode cX9_work 43 = .ok (.istore 5, 2) := by decide +kernel
theorem dX9_work_45 : decode cX9_work 45 = .ok (.bipush 21, 2) := by decide +kernel
theorem dX9_work_47 : decode cX9_work 47 = .ok (.iload 4, 2) := by decide +kernel
theorem dX9_work_49 : decode cX9_work 49 = .ok (.imul, 1) := by decide +kernel
theorem dX9_work_50 : decode cX9_work 50 = .ok (.iload 5, 2) := by decide +kernel
theorem dX9_work_52 : decode cX9_work 52 = .ok (.iadd, 1) := by decide +kernel
theorem dX9_work_53 : decode cX9_work 53 = .ok (.istore 6, 2) := by decide +kernel
theorem dX9_work_55 : decode cX9_work 55 = .ok (.iload_n 3, 1) := by decide +kernel
theorem dX9_work_56 : decode cX9_work 56 = .ok (.iconst 1, 1) := by decide +kernel
theorem dX9_work_57 : decode cX9_work 57 = .ok (.aload_n 0, 1) := by decide +kernel
theorem dX9_work_58 : decode cX9_work 58 = .ok (.iload 4, 2) := by decide +kernel
theorem dX9_work_60 : decode cX9_work 60 = .ok (.iload 5, 2) := by decide +kernel
theorem dX9_work_62 : decode cX9_work 62 = .ok (.invokevirtual 140, 3) := by decide +kernel
theorem dX9_work_65 : decode cX9_work 65 = .ok (.invokestatic 88, 3) := by decide +kernel
theorem dX9_work_68 : decode cX9_work 68 = .ok (.ifCond .ne 5, 3) := by decide +kernel
theorem dX9_work_71 : decode cX9_work 71 = .ok (.iconst (-1), 1) := by decide +kernel
theorem dX9_work_72 : decode cX9_work 72 = .ok (.ireturn, 1) := by decide +kernel
theorem dX9_work_73 : decode cX9_work 73 = .ok (.iload_n 1, 1) := by decide +kernel
theorem dX9_work_74 : decode cX9_work 74 = .ok (.iload 4, 2) := by decide +kernel
theorem dX9_work_76 : decode cX9_work 76 = .ok (.if_icmp .eq 81, 3) := by decide +kernel
theorem dX9_work_79 : decode cX9_work 79 = .ok (.aload_n 0, 1) := by decide +kernel
theorem dX9_work_80 : decode cX9_work 80 = .ok (.getfield 28, 3) := by decide +kernel
theorem dX9_work_83 : decode cX9_work 83 = .ok (.iload_n 1, 1) := by decide +kernel
theorem dX9_work_84 : decode cX9_work 84 = .ok (.iaload, 1) := by decide +kernel
theorem dX9_work_85 : decode cX9_work 85 = .ok (.aload_n 0, 1) := by decide +kernel
theorem dX9_work_86 : decode cX9_work 86 = .ok (.getfield 28, 3) := by decide +kernel
theorem dX9_work_89 : decode cX9_work 89 = .ok (.iload 4, 2) := by decide +kernel
theorem dX9_work_91 : decode cX9_work 91 = .ok (.iaload, 1) := by decide +kernel
theorem dX9_work_92 : decode cX9_work 92 = .ok (.if_icmp .ne 25, 3) := by decide +kernel
theorem dX9_work_95 : decode cX9_work 95 = .ok (.aload_n 0, 1) := by decide +kernel
theorem dX9_work_96 : decode cX9_work 96 = .ok (.getfield 76, 3) := by decide +kernel
theorem dX9_work_99 : decode cX9_work 99 = .ok (.iload 6, 2) := by decide +kernel
theorem dX9_work_101 : decode cX9_work 101 = .ok (.iaload, 1) := by decide +kernel
theorem dX9_work_102 : decode cX9_work 102 = .ok (.iconst (-1), 1) := by decide +kernel
theorem dX9_work_103 : decode cX9_work 103 = .ok (.if_icmp .eq 16, 3) := by decide +kernel
theorem dX9_work_106 : decode cX9_work 106 = .ok (.aload_n 0, 1) := by decide +kernel
theorem dX9_work_107 : decode cX9_work 107 = .ok (.getfield 76, 3) := by decide +kernel
theorem dX9_work_110 : decode cX9_work 110 = .ok (.iload 6, 2) := by decide +kernel
theorem dX9_work_112 : decode cX9_work 112 = .ok (.iaload, 1) := by decide +kernel
theorem dX9_work_113 : decode cX9_work 113 = .ok (.iload_n 1, 1) := by decide +kernel
theorem dX9_work_114 : decode cX9_work 114 = .ok (.if_icmp .eq 5, 3) := by decide +kernel
theorem dX9_work_117 : decode cX9_work 117 = .ok (.iconst (-1), 1) := by decide +kernel
theorem dX9_work_118 : decode cX9_work 118 = .ok (.ireturn, 1) := by decide +kernel
theorem dX9_work_119 : decode cX9_work 119 = .ok (.aload_n 0, 1) := by decide +kernel
theorem dX9_work_120 : decode cX9_work 120 = .ok (.getfield 76, 3) := by decide +kernel
theorem dX9_work_123 : decode cX9_work 123 = .ok (.iload 6, 2) := by decide +kernel
theorem dX9_work_125 : decode cX9_work 125 = .ok (.iload_n 1, 1) := by decide +kernel
theorem dX9_work_126 : decode cX9_work 126 = .ok (.iastore, 1) := by decide +kernel
theorem dX9_work_127 : decode cX9_work 127 = .ok (.aload_n 0, 1) := by decide +kernel
theorem dX9_work_128 : decode cX9_work 128 = .ok (.getfield 67, 3) := by decide +kernel
theorem dX9_work_131 : decode cX9_work 131 = .ok (.iload 6, 2) := by decide +kernel
theorem dX9_work_133 : decode cX9_work 133 = .ok (.dup2, 1) := by decide +kernel
theorem dX9_work_134 : decode cX9_work 134 = .ok (.iaload, 1) := by decide +kernel
theorem dX9_work_135 : decode cX9_work 135 = .ok (.iload_n 3, 1) := by decide +kernel
theorem dX9_work_136 : decode cX9_work 136 = .ok (.iadd, 1) := by decide +kernel
theorem dX9_work_137 : decode cX9_work 137 = .ok (.iastore, 1) := by decide +kernel
theorem dX9_work_138 : decode cX9_work 138 = .ok (.aload_n 0, 1) := by decide +kernel
theorem dX9_work_139 : decode cX9_work 139 = .ok (.getfield 73, 3) := by decide +kernel
theorem dX9_work_142 : decode cX9_work 142 = .ok (.bipush 21, 2) := by decide +kernel
theorem dX9_work_144 : decode cX9_work 144 = .ok (.iload_n 1, 1) := by decide +kernel
theorem dX9_work_145 : decode cX9_work 145 = .ok (.imul, 1) := by decide +kernel
theorem dX9_work_146 : decode cX9_work 146 = .ok (.iload 5, 2) := by decide +kernel
theorem dX9_work_148 : decode cX9_work 148 = .ok (.iadd, 1) := by decide +kernel
theorem dX9_work_149 : decode cX9_work 149 = .ok (.dup2, 1) := by decide +kernel
theorem dX9_work_150 : decode cX9_work 150 = .ok (.iaload, 1) := by decide +kernel
theorem dX9_work_151 : decode cX9_work 151 = .ok (.iload_n 3, 1) := by decide +kernel
theorem dX9_work_152 : decode cX9_work 152 = .ok (.iadd, 1) := by decide +kernel
theorem dX9_work_153 : decode cX9_work 153 = .ok (.iastore, 1) := by decide +kernel
theorem dX9_work_154 : decode cX9_work 154 = .ok (.goto 14, 3) := by decide +kernel
theorem dX9_work_157 : decode cX9_work 157 = .ok (.aload_n 0, 1) := by decide +kernel
theorem dX9_work_158 : decode cX9_work 158 = .ok (.getfield 64, 3) := by decide +kernel
theorem dX9_work_161 : decode cX9_work 161 = .ok (.iload 6, 2) := by decide +kernel
theorem dX9_work_163 : decode cX9_work 163 = .ok (.dup2, 1) := by decide +kernel
theorem dX9_work_164 : decode cX9_work 164 = .ok (.iaload, 1) := by decide +kernel
theorem dX9_work_165 : decode cX9_work 165 = .ok (.iload_n 3, 1) := by decide +kernel
theorem dX9_work_166 : decode cX9_work 166 = .ok (.iadd, 1) := by decide +kernel
theorem dX9_work_167 : decode cX9_work 167 = .ok (.iastore, 1) := by decide +kernel
theorem dX9_work_168 : decode cX9_work 168 = .ok (.aload_n 0, 1) := by decide +kernel
theorem dX9_work_169 : decode cX9_work 169 = .ok (.getfield 79, 3) := by decide +kernel
theorem dX9_work_172 : decode cX9_work 172 = .ok (.sipush 1040, 3) := by decide +kernel
theorem dX9_work_175 : decode cX9_work 175 = .ok (.aload_n 0, 1) := by decide +kernel
theorem dX9_work_176 : decode cX9_work 176 = .ok (.getfield 28, 3) := by decide +kernel
theorem dX9_work_179 : decode cX9_work 179 = .ok (.iload_n 1, 1) := by decide +kernel
theorem dX9_work_180 : decode cX9_work 180 = .ok (.iaload, 1) := by decide +kernel
theorem dX9_work_181 : decode cX9_work 181 = .ok (.imul, 1) := by decide +kernel
theorem dX9_work_182 : decode cX9_work 182 = .ok (.aload_n 0, 1) := by decide +kernel
theorem dX9_work_183 : decode cX9_work 183 = .ok (.getfield 96, 3) := by decide +kernel
theorem dX9_work_186 : decode cX9_work 186 = .ok (.iadd, 1) := by decide +kernel
theorem dX9_work_187 : decode cX9_work 187 = .ok (.dup2, 1) := by decide +kernel
theorem dX9_work_188 : decode cX9_work 188 = .ok (.iaload, 1) := by decide +kernel
theorem dX9_work_189 : decode cX9_work 189 = .ok (.iload_n 3, 1) := by decide +kernel
theorem dX9_work_190 : decode cX9_work 190 = .ok (.iadd, 1) := by decide +kernel
theorem dX9_work_191 : decode cX9_work 191 = .ok (.iastore, 1) := by decide +kernel
theorem dX9_work_192 : decode cX9_work 192 = .ok (.aload_n 0, 1) := by decide +kernel
theorem dX9_work_193 : decode cX9_work 193 = .ok (.dup, 1) := by decide +kernel
theorem dX9_work_194 : decode cX9_work 194 = .ok (.getfield 143, 3) := by decide +kernel
theorem dX9_work_197 : decode cX9_work 197 = .ok (.iload_n 3, 1) := by decide +kernel
theorem dX9_work_198 : decode cX9_work 198 = .ok (.iadd, 1) := by decide +kernel
theorem dX9_work_199 : decode cX9_work 199 = .ok (.putfield 143, 3) := by decide +kernel
theorem dX9_work_202 : decode cX9_work 202 = .ok (.aload_n 0, 1) := by decide +kernel
theorem dX9_work_203 : decode cX9_work 203 = .ok (.iload_n 2, 1) := by decide +kernel
theorem dX9_work_204 : decode cX9_work 204 = .ok (.iload_n 3, 1) := by decide +kernel
theorem dX9_work_205 : decode cX9_work 205 = .ok (.invokevirtual 146, 3) := by decide +kernel
theorem dX9_work_208 : decode cX9_work 208 = .ok (.aload_n 0, 1) := by decide +kernel
theorem dX9_work_209 : decode cX9_work 209 = .ok (.iload 4, 2) := by decide +kernel
theorem dX9_work_211 : decode cX9_work 211 = .ok (.iload 5, 2) := by decide +kernel
theorem dX9_work_213 : decode cX9_work 213 = .ok (.invokevirtual 140, 3) := by decide +kernel
theorem dX9_work_216 : decode cX9_work 216 = .ok (.ireturn, 1) := by decide +kernel
set_option maxRecDepth 20000 in
theorem ggX9_buy_X9_isHouse : GoodIn wsX9_buy wsX9_isHouse := goodIn_r _ [9, 10, 11, 12, 8, 13, 52, 53, 54, 55, 56, 57, 58, 59, 60, 61, 62, 63, 64, 65, 66, 67, 68, 69, 70, 71, 72, 73, 74, 75, 76, 77, 78, 79, 80, 81, 82, 83, 84, 85, 86] (by decide +kernel) (by decide +kernel)
set_option maxRecDepth 20000 in
theorem gX9_buy_X9_isHouse : GoodIn wsX9_buy (wsV RX9 113 RX9 yX9_isHouse wsX9_isHouse) := goodIn_app (goodIn_of _ (by decide +kernel)) ggX9_buy_X9_isHouse
set_option maxRecDepth 20000 in
theorem ggX9_buy_X9_yet : GoodIn wsX9_buy wsX9_yet := goodIn_r _ [17, 18, 19, 2, 20, 21, 22, 8, 23, 24, 25, 26, 27, 28, 29, 30, 31, 32, 33, 34, 35, 36, 37, 38, 39, 40, 41, 42, 43, 44, 45, 46, 52, 53, 54, 55, 56, 57, 58, 59, 60, 61, 62, 63, 64, 65, 66, 67, 68, 69, 70, 71, 72, 73, 74, 75, 76, 77, 78, 79, 80, 81, 82, 83, 84, 85, 86] (by decide +kernel) (by decide +kernel)
set_option maxRecDepth 20000 in
theorem gX9_buy_X9_yet : GoodIn wsX9_buy (wsV RX9 140 RX9 yX9_yet wsX9_yet) := goodIn_app (goodIn_of _ (by decide +kernel)) ggX9_buy_X9_yet
set_option maxRecDepth 20000 in
theorem ggX9_buy_X9_in : GoodIn wsX9_buy wsX9_in := goodIn_r _ [13] (by decide +kernel) (by decide +kernel)
set_option maxRecDepth 20000 in
theorem gX9_buy_X9_in : GoodIn wsX9_buy (va_wsS RX9 88 yX9_in wsX9_in) := goodIn_app (goodIn_of _ (by decide +kernel)) ggX9_buy_X9_in
set_option maxRecDepth 20000 in
theorem ggX9_buy_X9_coinNow : GoodIn wsX9_buy wsX9_coinNow := goodIn_r _ [50, 1, 51, 25, 26, 27, 8, 28, 29, 30, 52, 53, 54, 55, 56, 57, 58, 59, 60, 61, 62, 63, 64, 65, 66, 67, 68, 69, 70, 71, 72, 73, 74, 75, 76, 77, 78, 79, 80, 81, 82, 83, 84, 85, 86] (by decide +kernel) (by decide +kernel)
set_option maxRecDepth 20000 in
theorem gX9_buy_X9_coinNow : GoodIn wsX9_buy (wsV RX9 156 RX9 yX9_coinNow wsX9_coinNow) := goodIn_app (goodIn_of _ (by decide +kernel)) ggX9_buy_X9_coinNow
theorem dX9_buy_0 : decode cX9_buy 0 = .ok (.aload_n 0, 1) := by decide +kernel
theorem dX9_buy_1 : decode cX9_buy 1 = .ok (.iload_n 1, 1) := by decide +kernel
theorem dX9_buy_2 : decode cX9_buy 2 = .ok (.invokevirtual 113, 3) := by decide +kernel
theorem dX9_buy_5 : decode cX9_buy 5 = .ok (.ifCond .eq 33, 3) := by decide +kernel
theorem dX9_buy_8 : decode cX9_buy 8 = .ok (.aload_n 0, 1) := by decide +kernel
theorem dX9_buy_9 : decode cX9_buy 9 = .ok (.getfield 96, 3) := by decide +kernel
theorem dX9_buy_12 : decode cX9_buy 12 = .ok (.sipush 1040, 3) := by decide +kernel
theorem dX9_buy_15 : decode cX9_buy 15 = .ok (.if_icmp .eq 23, 3) := by decide +kernel
theorem dX9_buy_18 : decode cX9_buy 18 = .ok (.iload_n 2, 1) := by decide +kernel
theorem dX9_buy_19 : decode cX9_buy 19 = .ok (.iconst 1, 1) := by decide +kernel
theorem dX9_buy_20 : decode cX9_buy 20 = .ok (.aload_n 0, 1) := by decide +kernel
theorem dX9_buy_21 : decode cX9_buy 21 = .ok (.iload_n 1, 1) := by decide +kernel
theorem dX9_buy_22 : decode cX9_buy 22 = .ok (.aload_n 0, 1) := by decide +kernel
theorem dX9_buy_23 : decode cX9_buy 23 = .ok (.getfield 96, 3) := by decide +kernel
theorem dX9_buy_26 : decode cX9_buy 26 = .ok (.bipush 52, 2) := by decide +kernel
theorem dX9_buy_28 : decode cX9_buy 28 = .ok (.idiv, 1) := by decide +kernel
theorem dX9_buy_29 : decode cX9_buy 29 = .ok (.invokevirtual 140, 3) := by decide +kernel
theorem dX9_buy_32 : decode cX9_buy 32 = .ok (.invokestatic 88, 3) := by decide +kernel
theorem dX9_buy_35 : decode cX9_buy 35 = .ok (.ifCond .ne 5, 3) := by decide +kernel
theorem dX9_buy_38 : decode cX9_buy 38 = .ok (.iconst (-1), 1) := by decide +kernel
theorem dX9_buy_39 : decode cX9_buy 39 = .ok (.ireturn, 1) := by decide +kernel
theorem dX9_buy_40 : decode cX9_buy 40 = .ok (.aload_n 0, 1) := by decide +kernel
theorem dX9_buy_41 : decode cX9_buy 41 = .ok (.getfield 70, 3) := by decide +kernel
theorem dX9_buy_44 : decode cX9_buy 44 = .ok (.bipush 21, 2) := by decide +kernel
theorem dX9_buy_46 : decode cX9_buy 46 = .ok (.iload_n 1, 1) := by decide +kernel
theorem dX9_buy_47 : decode cX9_buy 47 = .ok (.imul, 1) := by decide +kernel
theorem dX9_buy_48 : decode cX9_buy 48 = .ok (.aload_n 0, 1) := by decide +kernel
theorem dX9_buy_49 : decode cX9_buy 49 = .ok (.getfield 96, 3) := by decide +kernel
theorem dX9_buy_52 : decode cX9_buy 52 = .ok (.bipush 52, 2) := by decide +kernel
theorem dX9_buy_54 : decode cX9_buy 54 = .ok (.idiv, 1) := by decide +kernel
theorem dX9_buy_55 : decode cX9_buy 55 = .ok (.iadd, 1) := by decide +kernel
theorem dX9_buy_56 : decode cX9_buy 56 = .ok (.dup2, 1) := by decide +kernel
theorem dX9_buy_57 : decode cX9_buy 57 = .ok (.iaload, 1) := by decide +kernel
theorem dX9_buy_58 : decode cX9_buy 58 = .ok (.iload_n 2, 1) := by decide +kernel
theorem dX9_buy_59 : decode cX9_buy 59 = .ok (.iadd, 1) := by decide +kernel
theorem dX9_buy_60 : decode cX9_buy 60 = .ok (.iastore, 1) := by decide +kernel
theorem dX9_buy_61 : decode cX9_buy 61 = .ok (.aload_n 0, 1) := by decide +kernel
theorem dX9_buy_62 : decode cX9_buy 62 = .ok (.dup, 1) := by decide +kernel
theorem dX9_buy_63 : decode cX9_buy 63 = .ok (.getfield 150, 3) := by decide +kernel
theorem dX9_buy_66 : decode cX9_buy 66 = .ok (.iload_n 2, 1) := by decide +kernel
theorem dX9_buy_67 : decode cX9_buy 67 = .ok (.iadd, 1) := by decide +kernel
theorem dX9_buy_68 : decode cX9_buy 68 = .ok (.putfield 150, 3) := by decide +kernel
theorem dX9_buy_71 : decode cX9_buy 71 = .ok (.aload_n 0, 1) := by decide +kernel
theorem dX9_buy_72 : decode cX9_buy 72 = .ok (.dup, 1) := by decide +kernel
theorem dX9_buy_73 : decode cX9_buy 73 = .ok (.getfield 153, 3) := by decide +kernel
theorem dX9_buy_76 : decode cX9_buy 76 = .ok (.iload_n 2, 1) := by decide +kernel
theorem dX9_buy_77 : decode cX9_buy 77 = .ok (.aload_n 0, 1) := by decide +kernel
theorem dX9_buy_78 : decode cX9_buy 78 = .ok (.invokevirtual 156, 3) := by decide +kernel
theorem dX9_buy_81 : decode cX9_buy 81 = .ok (.imul, 1) := by decide +kernel
theorem dX9_buy_82 : decode cX9_buy 82 = .ok (.iadd, 1) := by decide +kernel
theorem dX9_buy_83 : decode cX9_buy 83 = .ok (.putfield 153, 3) := by decide +kernel
theorem dX9_buy_86 : decode cX9_buy 86 = .ok (.aload_n 0, 1) := by decide +kernel
theorem dX9_buy_87 : decode cX9_buy 87 = .ok (.getfield 153, 3) := by decide +kernel
theorem dX9_buy_90 : decode cX9_buy 90 = .ok (.ireturn, 1) := by decide +kernel
set_option maxRecDepth 20000 in
theorem ggX9_hire_X9_isRod : GoodIn wsX9_hire wsX9_isRod := goodIn_r _ [6, 7, 8, 5, 9] (by decide +kernel) (by decide +kernel)
set_option maxRecDepth 20000 in
theorem gX9_hire_X9_isRod : GoodIn wsX9_hire (va_wsS RX9 103 yX9_isRod wsX9_isRod) := goodIn_app (goodIn_of _ (by decide +kernel)) ggX9_hire_X9_isRod
set_option maxRecDepth 20000 in
theorem ggX9_hire_X9_in : GoodIn wsX9_hire wsX9_in := goodIn_r _ [9] (by decide +kernel) (by decide +kernel)
set_option maxRecDepth 20000 in
theorem gX9_hire_X9_in : GoodIn wsX9_hire (va_wsS RX9 88 yX9_in wsX9_in) := goodIn_app (goodIn_of _ (by decide +kernel)) ggX9_hire_X9_in
set_option maxRecDepth 20000 in
theorem ggX9_hire_X9_coinNow : GoodIn wsX9_hire wsX9_coinNow := goodIn_r _ [13, 14, 15, 16, 17, 18, 5, 19, 20, 21, 33, 34, 35, 36, 37, 38, 39, 40, 41, 42, 43, 44, 45, 46, 47, 48, 49, 50, 51, 52, 53, 54, 55, 56, 57, 58, 59, 60, 61, 62, 63, 64, 65, 66, 67] (by decide +kernel) (by decide +kernel)
set_option maxRecDepth 20000 in
theorem gX9_hire_X9_coinNow : GoodIn wsX9_hire (wsV RX9 156 RX9 yX9_coinNow wsX9_coinNow) := goodIn_app (goodIn_of _ (by decide +kernel)) ggX9_hire_X9_coinNow
set_option maxRecDepth 20000 in
theorem ggX9_hire_X9_raises : GoodIn wsX9_hire wsX9_raises := goodIn_r _ [25, 26, 27, 28, 29, 30, 5, 31, 32, 33, 34, 35, 36, 37, 38, 39, 40, 41, 42, 43, 44, 45, 46, 47, 48, 49, 50, 51, 52, 53, 54, 55, 56, 57, 58, 59, 60, 61, 62, 63, 64, 65, 66, 67] (by decide +kernel) (by decide +kernel)
set_option maxRecDepth 20000 in
theorem gX9_hire_X9_raises : GoodIn wsX9_hire (wsV RX9 146 RX9 yX9_raises wsX9_raises) := goodIn_app (goodIn_of _ (by decide +kernel)) ggX9_hire_X9_raises
theorem dX9_hire_0 : decode cX9_hire 0 = .ok (.iload_n 1, 1) := by decide +kernel
theorem dX9_hire_1 : decode cX9_hire 1 = .ok (.invokestatic 103, 3) := by decide +kernel
theorem dX9_hire_4 : decode cX9_hire 4 = .ok (.ifCond .eq 34, 3) := by decide +kernel
theorem dX9_hire_7 : decode cX9_hire 7 = .ok (.iload_n 2, 1) := by decide +kernel
theorem dX9_hire_8 : decode cX9_hire 8 = .ok (.iconst 1, 1) := by decide +kernel
theorem dX9_hire_9 : decode cX9_hire 9 = .ok (.sipush 1000, 3) := by decide +kernel
theorem dX9_hire_12 : decode cX9_hire 12 = .ok (.invokestatic 88, 3) := by decide +kernel
theorem dX9_hire_15 : decode cX9_hire 15 = .ok (.ifCond .eq 23, 3) := by decide +kernel
theorem dX9_hire_18 : decode cX9_hire 18 = .ok (.aload_n 0, 1) := by decide +kernel
theorem dX9_hire_19 : decode cX9_hire 19 = .ok (.invokevirtual 156, 3) := by decide +kernel
theorem dX9_hire_22 : decode cX9_hire 22 = .ok (.ifCond .eq 16, 3) := by decide +kernel
theorem dX9_hire_25 : decode cX9_hire 25 = .ok (.iload_n 2, 1) := by decide +kernel
theorem dX9_hire_26 : decode cX9_hire 26 = .ok (.aload_n 0, 1) := by decide +kernel
theorem dX9_hire_27 : decode cX9_hire 27 = .ok (.invokevirtual 156, 3) := by decide +kernel
theorem dX9_hire_30 : decode cX9_hire 30 = .ok (.imul, 1) := by decide +kernel
theorem dX9_hire_31 : decode cX9_hire 31 = .ok (.aload_n 0, 1) := by decide +kernel
theorem dX9_hire_32 : decode cX9_hire 32 = .ok (.getfield 153, 3) := by decide +kernel
theorem dX9_hire_35 : decode cX9_hire 35 = .ok (.if_icmp .le 5, 3) := by decide +kernel
theorem dX9_hire_38 : decode cX9_hire 38 = .ok (.iconst (-1), 1) := by decide +kernel
theorem dX9_hire_39 : decode cX9_hire 39 = .ok (.ireturn, 1) := by decide +kernel
theorem dX9_hire_40 : decode cX9_hire 40 = .ok (.aload_n 0, 1) := by decide +kernel
theorem dX9_hire_41 : decode cX9_hire 41 = .ok (.dup, 1) := by decide +kernel
theorem dX9_hire_42 : decode cX9_hire 42 = .ok (.getfield 153, 3) := by decide +kernel
theorem dX9_hire_45 : decode cX9_hire 45 = .ok (.iload_n 2, 1) := by decide +kernel
theorem dX9_hire_46 : decode cX9_hire 46 = .ok (.aload_n 0, 1) := by decide +kernel
theorem dX9_hire_47 : decode cX9_hire 47 = .ok (.invokevirtual 156, 3) := by decide +kernel
theorem dX9_hire_50 : decode cX9_hire 50 = .ok (.imul, 1) := by decide +kernel
theorem dX9_hire_51 : decode cX9_hire 51 = .ok (.isub, 1) := by decide +kernel
theorem dX9_hire_52 : decode cX9_hire 52 = .ok (.putfield 153, 3) := by decide +kernel
theorem dX9_hire_55 : decode cX9_hire 55 = .ok (.aload_n 0, 1) := by decide +kernel
theorem dX9_hire_56 : decode cX9_hire 56 = .ok (.dup, 1) := by decide +kernel
theorem dX9_hire_57 : decode cX9_hire 57 = .ok (.getfield 160, 3) := by decide +kernel
theorem dX9_hire_60 : decode cX9_hire 60 = .ok (.iload_n 2, 1) := by decide +kernel
theorem dX9_hire_61 : decode cX9_hire 61 = .ok (.iadd, 1) := by decide +kernel
theorem dX9_hire_62 : decode cX9_hire 62 = .ok (.putfield 160, 3) := by decide +kernel
theorem dX9_hire_65 : decode cX9_hire 65 = .ok (.aload_n 0, 1) := by decide +kernel
theorem dX9_hire_66 : decode cX9_hire 66 = .ok (.iload_n 1, 1) := by decide +kernel
theorem dX9_hire_67 : decode cX9_hire 67 = .ok (.iload_n 2, 1) := by decide +kernel
theorem dX9_hire_68 : decode cX9_hire 68 = .ok (.invokevirtual 146, 3) := by decide +kernel
theorem dX9_hire_71 : decode cX9_hire 71 = .ok (.aload_n 0, 1) := by decide +kernel
theorem dX9_hire_72 : decode cX9_hire 72 = .ok (.getfield 153, 3) := by decide +kernel
theorem dX9_hire_75 : decode cX9_hire 75 = .ok (.ireturn, 1) := by decide +kernel
set_option maxRecDepth 20000 in
theorem ggX9_river_X9_in : GoodIn wsX9_river wsX9_in := goodIn_r _ [6] (by decide +kernel) (by decide +kernel)
set_option maxRecDepth 20000 in
theorem gX9_river_X9_in : GoodIn wsX9_river (va_wsS RX9 88 yX9_in wsX9_in) := goodIn_app (goodIn_of _ (by decide +kernel)) ggX9_river_X9_in
theorem dX9_river_0 : decode cX9_river 0 = .ok (.iload_n 1, 1) := by decide +kernel
theorem dX9_river_1 : decode cX9_river 1 = .ok (.aload_n 0, 1) := by decide +kernel
theorem dX9_river_2 : decode cX9_river 2 = .ok (.getfield 96, 3) := by decide +kernel
theorem dX9_river_5 : decode cX9_river 5 = .ok (.sipush 1039, 3) := by decide +kernel
theorem dX9_river_8 : decode cX9_river 8 = .ok (.invokestatic 88, 3) := by decide +kernel
theorem dX9_river_11 : decode cX9_river 11 = .ok (.ifCond .eq 25, 3) := by decide +kernel
theorem dX9_river_14 : decode cX9_river 14 = .ok (.iload_n 2, 1) := by decide +kernel
theorem dX9_river_15 : decode cX9_river 15 = .ok (.iload_n 1, 1) := by decide +kernel
theorem dX9_river_16 : decode cX9_river 16 = .ok (.sipush 1039, 3) := by decide +kernel
theorem dX9_river_19 : decode cX9_river 19 = .ok (.invokestatic 88, 3) := by decide +kernel
theorem dX9_river_22 : decode cX9_river 22 = .ok (.ifCond .eq 14, 3) := by decide +kernel
theorem dX9_river_25 : decode cX9_river 25 = .ok (.iload_n 3, 1) := by decide +kernel
theorem dX9_river_26 : decode cX9_river 26 = .ok (.iconst 0, 1) := by decide +kernel
theorem dX9_river_27 : decode cX9_river 27 = .ok (.sipush 3000, 3) := by decide +kernel
theorem dX9_river_30 : decode cX9_river 30 = .ok (.invokestatic 88, 3) := by decide +kernel
theorem dX9_river_33 : decode cX9_river 33 = .ok (.ifCond .ne 5, 3) := by decide +kernel
theorem dX9_river_36 : decode cX9_river 36 = .ok (.iconst 0, 1) := by decide +kernel
theorem dX9_river_37 : decode cX9_river 37 = .ok (.ireturn, 1) := by decide +kernel
theorem dX9_river_38 : decode cX9_river 38 = .ok (.iload_n 1, 1) := by decide +kernel
theorem dX9_river_39 : decode cX9_river 39 = .ok (.istore 4, 2) := by decide +kernel
theorem dX9_river_41 : decode cX9_river 41 = .ok (.iload 4, 2) := by decide +kernel
theorem dX9_river_43 : decode cX9_river 43 = .ok (.iload_n 2, 1) := by decide +kernel
theorem dX9_river_44 : decode cX9_river 44 = .ok (.if_icmp .gt 17, 3) := by decide +kernel
theorem dX9_river_47 : decode cX9_river 47 = .ok (.aload_n 0, 1) := by decide +kernel
theorem dX9_river_48 : decode cX9_river 48 = .ok (.getfield 82, 3) := by decide +kernel
theorem dX9_river_51 : decode cX9_river 51 = .ok (.iload 4, 2) := by decide +kernel
theorem dX9_river_53 : decode cX9_river 53 = .ok (.iload_n 3, 1) := by decide +kernel
theorem dX9_river_54 : decode cX9_river 54 = .ok (.iastore, 1) := by decide +kernel
theorem dX9_river_55 : decode cX9_river 55 = .ok (.iinc 4 1, 3) := by decide +kernel
theorem dX9_river_58 : decode cX9_river 58 = .ok (.goto (-17), 3) := by decide +kernel
theorem dX9_river_61 : decode cX9_river 61 = .ok (.iconst 1, 1) := by decide +kernel
theorem dX9_river_62 : decode cX9_river 62 = .ok (.ireturn, 1) := by decide +kernel
set_option maxRecDepth 20000 in
theorem ggX9_go_X9_in : GoodIn wsX9_go wsX9_in := goodIn_r _ [6] (by decide +kernel) (by decide +kernel)
set_option maxRecDepth 20000 in
theorem gX9_go_X9_in : GoodIn wsX9_go (va_wsS RX9 88 yX9_in wsX9_in) := goodIn_app (goodIn_of _ (by decide +kernel)) ggX9_go_X9_in
set_option maxRecDepth 20000 in
theorem ggX9_go_X9_ends : GoodIn wsX9_go wsX9_ends := goodIn_r _ [10, 11, 12, 13, 14, 15, 16, 17, 18, 19, 20, 21, 22, 23, 24, 25, 26, 27, 28, 29, 30, 31, 32, 33, 34, 35, 36, 37, 38, 39, 40, 41, 42, 43, 44, 45, 46, 47, 48, 49] (by decide +kernel) (by decide +kernel)
set_option maxRecDepth 20000 in
theorem gX9_go_X9_ends : GoodIn wsX9_go (wsV RX9 163 RX9 yX9_ends wsX9_ends) := goodIn_app (goodIn_of _ (by decide +kernel)) ggX9_go_X9_ends
theorem dX9_go_0 : decode cX9_go 0 = .ok (.iload_n 1, 1) := by decide +kernel
theorem dX9_go_1 : decode cX9_go 1 = .ok (.iconst 0, 1) := by decide +kernel
theorem dX9_go_2 : decode cX9_go 2 = .ok (.bipush 104, 2) := by decide +kernel
theorem dX9_go_4 : decode cX9_go 4 = .ok (.invokestatic 88, 3) := by decide +kernel
theorem dX9_go_7 : decode cX9_go 7 = .ok (.ifCond .ne 5, 3) := by decide +kernel
theorem dX9_go_10 : decode cX9_go 10 = .ok (.iconst (-1), 1) := by decide +kernel
theorem dX9_go_11 : decode cX9_go 11 = .ok (.ireturn, 1) := by decide +kernel
theorem dX9_go_12 : decode cX9_go 12 = .ok (.iconst 0, 1) := by decide +kernel
theorem dX9_go_13 : decode cX9_go 13 = .ok (.istore_n 2, 1) := by decide +kernel
theorem dX9_go_14 : decode cX9_go 14 = .ok (.iload_n 2, 1) := by decide +kernel
theorem dX9_go_15 : decode cX9_go 15 = .ok (.iload_n 1, 1) := by decide +kernel
theorem dX9_go_16 : decode cX9_go 16 = .ok (.if_icmp .ge 57, 3) := by decide +kernel
theorem dX9_go_19 : decode cX9_go 19 = .ok (.aload_n 0, 1) := by decide +kernel
theorem dX9_go_20 : decode cX9_go 20 = .ok (.getfield 96, 3) := by decide +kernel
theorem dX9_go_23 : decode cX9_go 23 = .ok (.sipush 1040, 3) := by decide +kernel
theorem dX9_go_26 : decode cX9_go 26 = .ok (.if_icmp .ge 47, 3) := by decide +kernel
theorem dX9_go_29 : decode cX9_go 29 = .ok (.iconst 0, 1) := by decide +kernel
theorem dX9_go_30 : decode cX9_go 30 = .ok (.istore_n 3, 1) := by decide +kernel
theorem dX9_go_31 : decode cX9_go 31 = .ok (.iload_n 3, 1) := by decide +kernel
theorem dX9_go_32 : decode cX9_go 32 = .ok (.bipush 30, 2) := by decide +kernel
theorem dX9_go_34 : decode cX9_go 34 = .ok (.if_icmp .ge 23, 3) := by decide +kernel
theorem dX9_go_37 : decode cX9_go 37 = .ok (.aload_n 0, 1) := by decide +kernel
theorem dX9_go_38 : decode cX9_go 38 = .ok (.iload_n 3, 1) := by decide +kernel
theorem dX9_go_39 : decode cX9_go 39 = .ok (.aload_n 0, 1) := by decide +kernel
theorem dX9_go_40 : decode cX9_go 40 = .ok (.getfield 82, 3) := by decide +kernel
theorem dX9_go_43 : decode cX9_go 43 = .ok (.aload_n 0, 1) := by decide +kernel
theorem dX9_go_44 : decode cX9_go 44 = .ok (.getfield 96, 3) := by decide +kernel
theorem dX9_go_47 : decode cX9_go 47 = .ok (.iaload, 1) := by decide +kernel
theorem dX9_go_48 : decode cX9_go 48 = .ok (.invokevirtual 163, 3) := by decide +kernel
theorem dX9_go_51 : decode cX9_go 51 = .ok (.iinc 3 1, 3) := by decide +kernel
theorem dX9_go_54 : decode cX9_go 54 = .ok (.goto (-23), 3) := by decide +kernel
theorem dX9_go_57 : decode cX9_go 57 = .ok (.aload_n 0, 1) := by decide +kernel
theorem dX9_go_58 : decode cX9_go 58 = .ok (.dup, 1) := by decide +kernel
theorem dX9_go_59 : decode cX9_go 59 = .ok (.getfield 96, 3) := by decide +kernel
theorem dX9_go_62 : decode cX9_go 62 = .ok (.iconst 1, 1) := by decide +kernel
theorem dX9_go_63 : decode cX9_go 63 = .ok (.iadd, 1) := by decide +kernel
theorem dX9_go_64 : decode cX9_go 64 = .ok (.putfield 96, 3) := by decide +kernel
theorem dX9_go_67 : decode cX9_go 67 = .ok (.iinc 2 1, 3) := by decide +kernel
theorem dX9_go_70 : decode cX9_go 70 = .ok (.goto (-56), 3) := by decide +kernel
theorem dX9_go_73 : decode cX9_go 73 = .ok (.aload_n 0, 1) := by decide +kernel
theorem dX9_go_74 : decode cX9_go 74 = .ok (.getfield 96, 3) := by decide +kernel
theorem dX9_go_77 : decode cX9_go 77 = .ok (.ireturn, 1) := by decide +kernel
theorem dX9_ends_0 : decode cX9_ends 0 = .ok (.iload_n 2, 1) := by decide +kernel
theorem dX9_ends_1 : decode cX9_ends 1 = .ok (.aload_n 0, 1) := by decide +kernel
theorem dX9_ends_2 : decode cX9_ends 2 = .ok (.getfield 13, 3) := by decide +kernel
theorem dX9_ends_5 : decode cX9_ends 5 = .ok (.iload_n 1, 1) := by decide +kernel
theorem dX9_ends_6 : decode cX9_ends 6 = .ok (.iaload, 1) := by decide +kernel
theorem dX9_ends_7 : decode cX9_ends 7 = .ok (.if_icmp .le 36, 3) := by decide +kernel
theorem dX9_ends_10 : decode cX9_ends 10 = .ok (.aload_n 0, 1) := by decide +kernel
theorem dX9_ends_11 : decode cX9_ends 11 = .ok (.getfield 13, 3) := by decide +kernel
theorem dX9_ends_14 : decode cX9_ends 14 = .ok (.iload_n 1, 1) := by decide +kernel
theorem dX9_ends_15 : decode cX9_ends 15 = .ok (.iconst 0, 1) := by decide +kernel
theorem dX9_ends_16 : decode cX9_ends 16 = .ok (.iastore, 1) := by decide +kernel
theorem dX9_ends_17 : decode cX9_ends 17 = .ok (.aload_n 0, 1) := by decide +kernel
theorem dX9_ends_18 : decode cX9_ends 18 = .ok (.getfield 22, 3) := by decide +kernel
theorem dX9_ends_21 : decode cX9_ends 21 = .ok (.iload_n 1, 1) := by decide +kernel
theorem dX9_ends_22 : decode cX9_ends 22 = .ok (.dup2, 1) := by decide +kernel
theorem dX9_ends_23 : decode cX9_ends 23 = .ok (.iaload, 1) := by decide +kernel
theorem dX9_ends_24 : decode cX9_ends 24 = .ok (.iconst 1, 1) := by decide +kernel
theorem dX9_ends_25 : decode cX9_ends 25 = .ok (.iadd, 1) := by decide +kernel
theorem dX9_ends_26 : decode cX9_ends 26 = .ok (.iastore, 1) := by decide +kernel
theorem dX9_ends_27 : decode cX9_ends 27 = .ok (.aload_n 0, 1) := by decide +kernel
theorem dX9_ends_28 : decode cX9_ends 28 = .ok (.dup, 1) := by decide +kernel
theorem dX9_ends_29 : decode cX9_ends 29 = .ok (.getfield 166, 3) := by decide +kernel
theorem dX9_ends_32 : decode cX9_ends 32 = .ok (.aload_n 0, 1) := by decide +kernel
theorem dX9_ends_33 : decode cX9_ends 33 = .ok (.getfield 19, 3) := by decide +kernel
theorem dX9_ends_36 : decode cX9_ends 36 = .ok (.iload_n 1, 1) := by decide +kernel
theorem dX9_ends_37 : decode cX9_ends 37 = .ok (.iaload, 1) := by decide +kernel
theorem dX9_ends_38 : decode cX9_ends 38 = .ok (.iadd, 1) := by decide +kernel
theorem dX9_ends_39 : decode cX9_ends 39 = .ok (.putfield 166, 3) := by decide +kernel
theorem dX9_ends_42 : decode cX9_ends 42 = .ok (.return_, 1) := by decide +kernel
theorem dX9_ends_43 : decode cX9_ends 43 = .ok (.aload_n 0, 1) := by decide +kernel
theorem dX9_ends_44 : decode cX9_ends 44 = .ok (.getfield 13, 3) := by decide +kernel
theorem dX9_ends_47 : decode cX9_ends 47 = .ok (.iload_n 1, 1) := by decide +kernel
theorem dX9_ends_48 : decode cX9_ends 48 = .ok (.dup2, 1) := by decide +kernel
theorem dX9_ends_49 : decode cX9_ends 49 = .ok (.iaload, 1) := by decide +kernel
theorem dX9_ends_50 : decode cX9_ends 50 = .ok (.iload_n 2, 1) := by decide +kernel
theorem dX9_ends_51 : decode cX9_ends 51 = .ok (.bipush 100, 2) := by decide +kernel
theorem dX9_ends_53 : decode cX9_ends 53 = .ok (.idiv, 1) := by decide +kernel
theorem dX9_ends_54 : decode cX9_ends 54 = .ok (.isub, 1) := by decide +kernel
theorem dX9_ends_55 : decode cX9_ends 55 = .ok (.iastore, 1) := by decide +kernel
theorem dX9_ends_56 : decode cX9_ends 56 = .ok (.aload_n 0, 1) := by decide +kernel
theorem dX9_ends_57 : decode cX9_ends 57 = .ok (.getfield 13, 3) := by decide +kernel
theorem dX9_ends_60 : decode cX9_ends 60 = .ok (.iload_n 1, 1) := by decide +kernel
theorem dX9_ends_61 : decode cX9_ends 61 = .ok (.iaload, 1) := by decide +kernel
theorem dX9_ends_62 : decode cX9_ends 62 = .ok (.ifCond .ge 10, 3) := by decide +kernel
theorem dX9_ends_65 : decode cX9_ends 65 = .ok (.aload_n 0, 1) := by decide +kernel
theorem dX9_ends_66 : decode cX9_ends 66 = .ok (.getfield 13, 3) := by decide +kernel
theorem dX9_ends_69 : decode cX9_ends 69 = .ok (.iload_n 1, 1) := by decide +kernel
theorem dX9_ends_70 : decode cX9_ends 70 = .ok (.iconst 0, 1) := by decide +kernel
theorem dX9_ends_71 : decode cX9_ends 71 = .ok (.iastore, 1) := by decide +kernel
theorem dX9_ends_72 : decode cX9_ends 72 = .ok (.return_, 1) := by decide +kernel
set_option maxRecDepth 20000 in
theorem ggX9_told_X9_isHouse : GoodIn wsX9_told wsX9_isHouse := goodIn_r _ [10, 11, 12, 13, 9, 14, 51, 52, 53, 54, 55, 56, 57, 58, 59, 60, 61, 62, 63, 64, 65, 66, 67, 68, 69, 70, 71, 72, 73, 74, 75, 76, 77, 78, 79, 80, 81, 82, 83, 84, 85] (by decide +kernel) (by decide +kernel)
set_option maxRecDepth 20000 in
theorem gX9_told_X9_isHouse : GoodIn wsX9_told (wsV RX9 113 RX9 yX9_isHouse wsX9_isHouse) := goodIn_app (goodIn_of _ (by decide +kernel)) ggX9_told_X9_isHouse
set_option maxRecDepth 20000 in
theorem ggX9_told_X9_isYear : GoodIn wsX9_told wsX9_isYear := goodIn_r _ [18, 19, 12, 13, 9, 14, 51, 52, 53, 54, 55, 56, 57, 58, 59, 60, 61, 62, 63, 64, 65, 66, 67, 68, 69, 70, 71, 72, 73, 74, 75, 76, 77, 78, 79, 80, 81, 82, 83, 84, 85] (by decide +kernel) (by decide +kernel)
set_option maxRecDepth 20000 in
theorem gX9_told_X9_isYear : GoodIn wsX9_told (wsV RX9 119 RX9 yX9_isYear wsX9_isYear) := goodIn_app (goodIn_of _ (by decide +kernel)) ggX9_told_X9_isYear
set_option maxRecDepth 20000 in
theorem ggX9_told_X9_owedOf : GoodIn wsX9_told wsX9_owedOf := goodIn_r _ [23, 24, 25, 26, 27, 9, 28, 29, 30, 31, 32, 33, 34, 35, 36, 37, 38, 39, 40, 41, 42, 43, 44, 45, 46, 51, 52, 53, 54, 55, 56, 57, 58, 59, 60, 61, 62, 63, 64, 65, 66, 67, 68, 69, 70, 71, 72, 73, 74, 75, 76, 77, 78, 79, 80, 81, 82, 83, 84, 85] (by decide +kernel) (by decide +kernel)
set_option maxRecDepth 20000 in
theorem gX9_told_X9_owedOf : GoodIn wsX9_told (wsV RX9 134 RX9 yX9_owedOf wsX9_owedOf) := goodIn_app (goodIn_of _ (by decide +kernel)) ggX9_told_X9_owedOf
set_option maxRecDepth 20000 in
theorem ggX9_told_X9_yet : GoodIn wsX9_told wsX9_yet := goodIn_r _ [50, 1, 2, 3, 20, 21, 22, 9, 23, 24, 25, 26, 27, 28, 29, 30, 31, 32, 33, 34, 35, 36, 37, 38, 39, 40, 41, 42, 43, 44, 45, 46, 51, 52, 53, 54, 55, 56, 57, 58, 59, 60, 61, 62, 63, 64, 65, 66, 67, 68, 69, 70, 71, 72, 73, 74, 75, 76, 77, 78, 79, 80, 81, 82, 83, 84, 85] (by decide +kernel) (by decide +kernel)
set_option maxRecDepth 20000 in
theorem gX9_told_X9_yet : GoodIn wsX9_told (wsV RX9 140 RX9 yX9_yet wsX9_yet) := goodIn_app (goodIn_of _ (by decide +kernel)) ggX9_told_X9_yet
theorem dX9_told_0 : decode cX9_told 0 = .ok (.aload_n 0, 1) := by decide +kernel
theorem dX9_told_1 : decode cX9_told 1 = .ok (.iload_n 1, 1) := by decide +kernel
theorem dX9_told_2 : decode cX9_told 2 = .ok (.invokevirtual 113, 3) := by decide +kernel
theorem dX9_told_5 : decode cX9_told 5 = .ok (.ifCond .eq 11, 3) := by decide +kernel
theorem dX9_told_8 : decode cX9_told 8 = .ok (.aload_n 0, 1) := by decide +kernel
theorem dX9_told_9 : decode cX9_told 9 = .ok (.iload_n 2, 1) := by decide +kernel
theorem dX9_told_10 : decode cX9_told 10 = .ok (.invokevirtual 119, 3) := by decide +kernel
theorem dX9_told_13 : decode cX9_told 13 = .ok (.ifCond .ne 5, 3) := by decide +kernel
theorem dX9_told_16 : decode cX9_told 16 = .ok (.iconst (-1), 1) := by decide +kernel
theorem dX9_told_17 : decode cX9_told 17 = .ok (.ireturn, 1) := by decide +kernel
theorem dX9_told_18 : decode cX9_told 18 = .ok (.bipush 21, 2) := by decide +kernel
theorem dX9_told_20 : decode cX9_told 20 = .ok (.iload_n 1, 1) := by decide +kernel
theorem dX9_told_21 : decode cX9_told 21 = .ok (.imul, 1) := by decide +kernel
theorem dX9_told_22 : decode cX9_told 22 = .ok (.iload_n 2, 1) := by decide +kernel
theorem dX9_told_23 : decode cX9_told 23 = .ok (.iadd, 1) := by decide +kernel
theorem dX9_told_24 : decode cX9_told 24 = .ok (.istore 4, 2) := by decide +kernel
theorem dX9_told_26 : decode cX9_told 26 = .ok (.iload_n 3, 1) := by decide +kernel
theorem dX9_told_27 : decode cX9_told 27 = .ok (.tableswitch 95 0 6 #[41, 48, 56, 64, 72, 79, 87], 41) := by decide +kernel
theorem dX9_told_68 : decode cX9_told 68 = .ok (.aload_n 0, 1) := by decide +kernel
theorem dX9_told_69 : decode cX9_told 69 = .ok (.iload_n 1, 1) := by decide +kernel
theorem dX9_told_70 : decode cX9_told 70 = .ok (.iload_n 2, 1) := by decide +kernel
theorem dX9_told_71 : decode cX9_told 71 = .ok (.invokevirtual 134, 3) := by decide +kernel
theorem dX9_told_74 : decode cX9_told 74 = .ok (.ireturn, 1) := by decide +kernel
theorem dX9_told_75 : decode cX9_told 75 = .ok (.aload_n 0, 1) := by decide +kernel
theorem dX9_told_76 : decode cX9_told 76 = .ok (.getfield 64, 3) := by decide +kernel
theorem dX9_told_79 : decode cX9_told 79 = .ok (.iload 4, 2) := by decide +kernel
theorem dX9_told_81 : decode cX9_told 81 = .ok (.iaload, 1) := by decide +kernel
theorem dX9_told_82 : decode cX9_told 82 = .ok (.ireturn, 1) := by decide +kernel
theorem dX9_told_83 : decode cX9_told 83 = .ok (.aload_n 0, 1) := by decide +kernel
theorem dX9_told_84 : decode cX9_told 84 = .ok (.getfield 67, 3) := by decide +kernel
theorem dX9_told_87 : decode cX9_told 87 = .ok (.iload 4, 2) := by decide +kernel
theorem dX9_told_89 : decode cX9_told 89 = .ok (.iaload, 1) := by decide +kernel
theorem dX9_told_90 : decode cX9_told 90 = .ok (.ireturn, 1) := by decide +kernel
theorem dX9_told_91 : decode cX9_told 91 = .ok (.aload_n 0, 1) := by decide +kernel
theorem dX9_told_92 : decode cX9_told 92 = .ok (.getfield 70, 3) := by decide +kernel
theorem dX9_told_95 : decode cX9_told 95 = .ok (.iload 4, 2) := by decide +kernel
theorem dX9_told_97 : decode cX9_told 97 = .ok (.iaload, 1) := by decide +kernel
theorem dX9_told_98 : decode cX9_told 98 = .ok (.ireturn, 1) := by decide +kernel
theorem dX9_told_99 : decode cX9_told 99 = .ok (.aload_n 0, 1) := by decide +kernel
theorem dX9_told_100 : decode cX9_told 100 = .ok (.iload_n 1, 1) := by decide +kernel
theorem dX9_told_101 : decode cX9_told 101 = .ok (.iload_n 2, 1) := by decide +kernel
theorem dX9_told_102 : decode cX9_told 102 = .ok (.invokevirtual 140, 3) := by decide +kernel
theorem dX9_told_105 : decode cX9_told 105 = .ok (.ireturn, 1) := by decide +kernel
theorem dX9_told_106 : decode cX9_told 106 = .ok (.aload_n 0, 1) := by decide +kernel
theorem dX9_told_107 : decode cX9_told 107 = .ok (.getfield 76, 3) := by decide +kernel
theorem dX9_told_110 : decode cX9_told 110 = .ok (.iload 4, 2) := by decide +kernel
theorem dX9_told_112 : decode cX9_told 112 = .ok (.iaload, 1) := by decide +kernel
theorem dX9_told_113 : decode cX9_told 113 = .ok (.ireturn, 1) := by decide +kernel
theorem dX9_told_114 : decode cX9_told 114 = .ok (.aload_n 0, 1) := by decide +kernel
theorem dX9_told_115 : decode cX9_told 115 = .ok (.getfield 73, 3) := by decide +kernel
theorem dX9_told_118 : decode cX9_told 118 = .ok (.iload 4, 2) := by decide +kernel
theorem dX9_told_120 : decode cX9_told 120 = .ok (.iaload, 1) := by decide +kernel
theorem dX9_told_121 : decode cX9_told 121 = .ok (.ireturn, 1) := by decide +kernel
theorem dX9_told_122 : decode cX9_told 122 = .ok (.iconst (-1), 1) := by decide +kernel
theorem dX9_told_123 : decode cX9_told 123 = .ok (.ireturn, 1) := by decide +kernel
set_option maxRecDepth 20000 in
theorem ggX9_paperWeek_X9_isVillage : GoodIn wsX9_paperWeek wsX9_isVillage := goodIn_r _ [6, 7, 8, 5, 9] (by decide +kernel) (by decide +kernel)
set_option maxRecDepth 20000 in
theorem gX9_paperWeek_X9_isVillage : GoodIn wsX9_paperWeek (va_wsS RX9 99 yX9_isVillage wsX9_isVillage) := goodIn_app (goodIn_of _ (by decide +kernel)) ggX9_paperWeek_X9_isVillage
set_option maxRecDepth 20000 in
theorem ggX9_paperWeek_X9_villageHands : GoodIn wsX9_paperWeek wsX9_villageHands := goodIn_r _ [13, 14, 15, 16, 17, 18, 5, 19, 20, 21, 22, 23, 24, 25, 26, 27, 28, 29, 30, 31, 32, 33, 34, 35, 36, 37, 38, 39, 40, 41, 42, 43, 44, 45, 46, 47, 48, 49, 50, 51, 52, 53, 54, 55, 56, 57, 58, 59, 60] (by decide +kernel) (by decide +kernel)
set_option maxRecDepth 20000 in
theorem gX9_paperWeek_X9_villageHands : GoodIn wsX9_paperWeek (wsV RX9 169 RX9 yX9_villageHands wsX9_villageHands) := goodIn_app (goodIn_of _ (by decide +kernel)) ggX9_paperWeek_X9_villageHands
theorem dX9_paperWeek_0 : decode cX9_paperWeek 0 = .ok (.iload_n 1, 1) := by decide +kernel
theorem dX9_paperWeek_1 : decode cX9_paperWeek 1 = .ok (.invokestatic 99, 3) := by decide +kernel
theorem dX9_paperWeek_4 : decode cX9_paperWeek 4 = .ok (.ifCond .ne 5, 3) := by decide +kernel
theorem dX9_paperWeek_7 : decode cX9_paperWeek 7 = .ok (.iconst (-1), 1) := by decide +kernel
theorem dX9_paperWeek_8 : decode cX9_paperWeek 8 = .ok (.ireturn, 1) := by decide +kernel
theorem dX9_paperWeek_9 : decode cX9_paperWeek 9 = .ok (.iconst 0, 1) := by decide +kernel
theorem dX9_paperWeek_10 : decode cX9_paperWeek 10 = .ok (.istore_n 2, 1) := by decide +kernel
theorem dX9_paperWeek_11 : decode cX9_paperWeek 11 = .ok (.iload_n 2, 1) := by decide +kernel
theorem dX9_paperWeek_12 : decode cX9_paperWeek 12 = .ok (.sipush 1040, 3) := by decide +kernel
theorem dX9_paperWeek_15 : decode cX9_paperWeek 15 = .ok (.if_icmp .ge 43, 3) := by decide +kernel
theorem dX9_paperWeek_18 : decode cX9_paperWeek 18 = .ok (.iload_n 2, 1) := by decide +kernel
theorem dX9_paperWeek_19 : decode cX9_paperWeek 19 = .ok (.aload_n 0, 1) := by decide +kernel
theorem dX9_paperWeek_20 : decode cX9_paperWeek 20 = .ok (.getfield 96, 3) := by decide +kernel
theorem dX9_paperWeek_23 : decode cX9_paperWeek 23 = .ok (.if_icmp .gt 35, 3) := by decide +kernel
theorem dX9_paperWeek_26 : decode cX9_paperWeek 26 = .ok (.aload_n 0, 1) := by decide +kernel
theorem dX9_paperWeek_27 : decode cX9_paperWeek 27 = .ok (.getfield 79, 3) := by decide +kernel
theorem dX9_paperWeek_30 : decode cX9_paperWeek 30 = .ok (.sipush 1040, 3) := by decide +kernel
theorem dX9_paperWeek_33 : decode cX9_paperWeek 33 = .ok (.iload_n 1, 1) := by decide +kernel
theorem dX9_paperWeek_34 : decode cX9_paperWeek 34 = .ok (.imul, 1) := by decide +kernel
theorem dX9_paperWeek_35 : decode cX9_paperWeek 35 = .ok (.iload_n 2, 1) := by decide +kernel
theorem dX9_paperWeek_36 : decode cX9_paperWeek 36 = .ok (.iadd, 1) := by decide +kernel
theorem dX9_paperWeek_37 : decode cX9_paperWeek 37 = .ok (.iaload, 1) := by decide +kernel
theorem dX9_paperWeek_38 : decode cX9_paperWeek 38 = .ok (.bipush 6, 2) := by decide +kernel
theorem dX9_paperWeek_40 : decode cX9_paperWeek 40 = .ok (.aload_n 0, 1) := by decide +kernel
theorem dX9_paperWeek_41 : decode cX9_paperWeek 41 = .ok (.iload_n 1, 1) := by decide +kernel
theorem dX9_paperWeek_42 : decode cX9_paperWeek 42 = .ok (.iload_n 2, 1) := by decide +kernel
theorem dX9_paperWeek_43 : decode cX9_paperWeek 43 = .ok (.invokevirtual 169, 3) := by decide +kernel
theorem dX9_paperWeek_46 : decode cX9_paperWeek 46 = .ok (.imul, 1) := by decide +kernel
theorem dX9_paperWeek_47 : decode cX9_paperWeek 47 = .ok (.if_icmp .le 5, 3) := by decide +kernel
theorem dX9_paperWeek_50 : decode cX9_paperWeek 50 = .ok (.iload_n 2, 1) := by decide +kernel
theorem dX9_paperWeek_51 : decode cX9_paperWeek 51 = .ok (.ireturn, 1) := by decide +kernel
theorem dX9_paperWeek_52 : decode cX9_paperWeek 52 = .ok (.iinc 2 1, 3) := by decide +kernel
theorem dX9_paperWeek_55 : decode cX9_paperWeek 55 = .ok (.goto (-44), 3) := by decide +kernel
theorem dX9_paperWeek_58 : decode cX9_paperWeek 58 = .ok (.iconst (-1), 1) := by decide +kernel
theorem dX9_paperWeek_59 : decode cX9_paperWeek 59 = .ok (.ireturn, 1) := by decide +kernel
set_option maxRecDepth 20000 in
theorem ggX9_paper_X9_paperWeek : GoodIn wsX9_paper wsX9_paperWeek := goodIn_r _ [5, 6, 7, 8, 9, 4, 10, 11, 12, 13, 14, 15, 16, 17, 18, 19, 20, 21, 22, 23, 24, 25, 26, 27, 28, 29, 30, 31, 32, 33, 34, 35, 36, 37, 38, 39, 40, 41, 42, 43, 44, 45, 46, 47, 48, 49, 50, 51, 52, 53, 54, 55, 56, 57, 58, 59, 60, 61, 62, 63, 64] (by decide +kernel) (by decide +kernel)
set_option maxRecDepth 20000 in
theorem gX9_paper_X9_paperWeek : GoodIn wsX9_paper (wsV RX9 172 RX9 yX9_paperWeek wsX9_paperWeek) := goodIn_app (goodIn_of _ (by decide +kernel)) ggX9_paper_X9_paperWeek
theorem dX9_paper_0 : decode cX9_paper 0 = .ok (.aload_n 0, 1) := by decide +kernel
theorem dX9_paper_1 : decode cX9_paper 1 = .ok (.iload_n 1, 1) := by decide +kernel
theorem dX9_paper_2 : decode cX9_paper 2 = .ok (.invokevirtual 172, 3) := by decide +kernel
theorem dX9_paper_5 : decode cX9_paper 5 = .ok (.iconst (-1), 1) := by decide +kernel
theorem dX9_paper_6 : decode cX9_paper 6 = .ok (.if_icmp .eq 7, 3) := by decide +kernel
theorem dX9_paper_9 : decode cX9_paper 9 = .ok (.iconst 1, 1) := by decide +kernel
theorem dX9_paper_10 : decode cX9_paper 10 = .ok (.goto 4, 3) := by decide +kernel
theorem dX9_paper_13 : decode cX9_paper 13 = .ok (.iconst 0, 1) := by decide +kernel
theorem dX9_paper_14 : decode cX9_paper 14 = .ok (.ireturn, 1) := by decide +kernel
set_option maxRecDepth 20000 in
theorem ggX9_needs_X9_perDay : GoodIn wsX9_needs wsX9_perDay := goodIn_r _ [6, 7, 8, 9, 10, 11, 12, 13, 14, 15, 16, 17, 18, 19, 20, 21, 22, 23, 24, 25, 26, 27, 28, 29, 30, 31, 32, 33, 34, 35, 36, 37, 38, 39, 40, 41, 42] (by decide +kernel) (by decide +kernel)
set_option maxRecDepth 20000 in
theorem gX9_needs_X9_perDay : GoodIn wsX9_needs (wsV RX9 137 RX9 yX9_perDay wsX9_perDay) := goodIn_app (goodIn_of _ (by decide +kernel)) ggX9_needs_X9_perDay
theorem dX9_needs_0 : decode cX9_needs 0 = .ok (.iload_n 2, 1) := by decide +kernel
theorem dX9_needs_1 : decode cX9_needs 1 = .ok (.aload_n 0, 1) := by decide +kernel
theorem dX9_needs_2 : decode cX9_needs 2 = .ok (.getfield 13, 3) := by decide +kernel
theorem dX9_needs_5 : decode cX9_needs 5 = .ok (.iload_n 1, 1) := by decide +kernel
theorem dX9_needs_6 : decode cX9_needs 6 = .ok (.iaload, 1) := by decide +kernel
theorem dX9_needs_7 : decode cX9_needs 7 = .ok (.isub, 1) := by decide +kernel
theorem dX9_needs_8 : decode cX9_needs 8 = .ok (.istore_n 3, 1) := by decide +kernel
theorem dX9_needs_9 : decode cX9_needs 9 = .ok (.iload_n 3, 1) := by decide +kernel
theorem dX9_needs_10 : decode cX9_needs 10 = .ok (.ifCond .gt 7, 3) := by decide +kernel
theorem dX9_needs_13 : decode cX9_needs 13 = .ok (.iconst 0, 1) := by decide +kernel
theorem dX9_needs_14 : decode cX9_needs 14 = .ok (.goto 18, 3) := by decide +kernel
theorem dX9_needs_17 : decode cX9_needs 17 = .ok (.iload_n 3, 1) := by decide +kernel
theorem dX9_needs_18 : decode cX9_needs 18 = .ok (.aload_n 0, 1) := by decide +kernel
theorem dX9_needs_19 : decode cX9_needs 19 = .ok (.iload_n 1, 1) := by decide +kernel
theorem dX9_needs_20 : decode cX9_needs 20 = .ok (.invokevirtual 137, 3) := by decide +kernel
theorem dX9_needs_23 : decode cX9_needs 23 = .ok (.iadd, 1) := by decide +kernel
theorem dX9_needs_24 : decode cX9_needs 24 = .ok (.iconst 1, 1) := by decide +kernel
theorem dX9_needs_25 : decode cX9_needs 25 = .ok (.isub, 1) := by decide +kernel
theorem dX9_needs_26 : decode cX9_needs 26 = .ok (.aload_n 0, 1) := by decide +kernel
theorem dX9_needs_27 : decode cX9_needs 27 = .ok (.iload_n 1, 1) := by decide +kernel
theorem dX9_needs_28 : decode cX9_needs 28 = .ok (.invokevirtual 137, 3) := by decide +kernel
theorem dX9_needs_31 : decode cX9_needs 31 = .ok (.idiv, 1) := by decide +kernel
theorem dX9_needs_32 : decode cX9_needs 32 = .ok (.ireturn, 1) := by decide +kernel
set_option maxRecDepth 20000 in
theorem ggX9_bank_X9_isRod : GoodIn wsX9_bank wsX9_isRod := goodIn_r _ [7, 8, 9, 6, 10] (by decide +kernel) (by decide +kernel)
set_option maxRecDepth 20000 in
theorem gX9_bank_X9_isRod : GoodIn wsX9_bank (va_wsS RX9 103 yX9_isRod wsX9_isRod) := goodIn_app (goodIn_of _ (by decide +kernel)) ggX9_bank_X9_isRod
set_option maxRecDepth 20000 in
theorem ggX9_bank_X9_in : GoodIn wsX9_bank wsX9_in := goodIn_r _ [10] (by decide +kernel) (by decide +kernel)
set_option maxRecDepth 20000 in
theorem gX9_bank_X9_in : GoodIn wsX9_bank (va_wsS RX9 88 yX9_in wsX9_in) := goodIn_app (goodIn_of _ (by decide +kernel)) ggX9_bank_X9_in
set_option maxRecDepth 20000 in
theorem ggX9_bank_X9_needs : GoodIn wsX9_bank wsX9_needs := goodIn_r _ [14, 1, 15, 16, 17, 6, 18, 19, 20, 21, 22, 23, 24, 25, 26, 27, 28, 29, 30, 31, 32, 33, 34, 35, 36, 37, 38, 39, 40, 41, 42, 43, 44, 45, 46, 47, 48, 49, 50, 51, 52, 53, 54] (by decide +kernel) (by decide +kernel)
set_option maxRecDepth 20000 in
theorem gX9_bank_X9_needs : GoodIn wsX9_bank (wsV RX9 175 RX9 yX9_needs wsX9_needs) := goodIn_app (goodIn_of _ (by decide +kernel)) ggX9_bank_X9_needs
theorem dX9_bank_0 : decode cX9_bank 0 = .ok (.iload_n 1, 1) := by decide +kernel
theorem dX9_bank_1 : decode cX9_bank 1 = .ok (.invokestatic 103, 3) := by decide +kernel
theorem dX9_bank_4 : decode cX9_bank 4 = .ok (.ifCond .ne 5, 3) := by decide +kernel
theorem dX9_bank_7 : decode cX9_bank 7 = .ok (.iconst (-1), 1) := by decide +kernel
theorem dX9_bank_8 : decode cX9_bank 8 = .ok (.ireturn, 1) := by decide +kernel
theorem dX9_bank_9 : decode cX9_bank 9 = .ok (.iload_n 2, 1) := by decide +kernel
theorem dX9_bank_10 : decode cX9_bank 10 = .ok (.tableswitch 73 0 3 #[30, 37, 44, 51], 30) := by decide +kernel
theorem dX9_bank_40 : decode cX9_bank 40 = .ok (.aload_n 0, 1) := by decide +kernel
theorem dX9_bank_41 : decode cX9_bank 41 = .ok (.getfield 13, 3) := by decide +kernel
theorem dX9_bank_44 : decode cX9_bank 44 = .ok (.iload_n 1, 1) := by decide +kernel
theorem dX9_bank_45 : decode cX9_bank 45 = .ok (.iaload, 1) := by decide +kernel
theorem dX9_bank_46 : decode cX9_bank 46 = .ok (.ireturn, 1) := by decide +kernel
theorem dX9_bank_47 : decode cX9_bank 47 = .ok (.aload_n 0, 1) := by decide +kernel
theorem dX9_bank_48 : decode cX9_bank 48 = .ok (.getfield 22, 3) := by decide +kernel
theorem dX9_bank_51 : decode cX9_bank 51 = .ok (.iload_n 1, 1) := by decide +kernel
theorem dX9_bank_52 : decode cX9_bank 52 = .ok (.iaload, 1) := by decide +kernel
theorem dX9_bank_53 : decode cX9_bank 53 = .ok (.ireturn, 1) := by decide +kernel
theorem dX9_bank_54 : decode cX9_bank 54 = .ok (.aload_n 0, 1) := by decide +kernel
theorem dX9_bank_55 : decode cX9_bank 55 = .ok (.getfield 25, 3) := by decide +kernel
theorem dX9_bank_58 : decode cX9_bank 58 = .ok (.iload_n 1, 1) := by decide +kernel
theorem dX9_bank_59 : decode cX9_bank 59 = .ok (.iaload, 1) := by decide +kernel
theorem dX9_bank_60 : decode cX9_bank 60 = .ok (.ireturn, 1) := by decide +kernel
theorem dX9_bank_61 : decode cX9_bank 61 = .ok (.iload_n 3, 1) := by decide +kernel
theorem dX9_bank_62 : decode cX9_bank 62 = .ok (.iconst 0, 1) := by decide +kernel
theorem dX9_bank_63 : decode cX9_bank 63 = .ok (.sipush 3000, 3) := by decide +kernel
theorem dX9_bank_66 : decode cX9_bank 66 = .ok (.invokestatic 88, 3) := by decide +kernel
theorem dX9_bank_69 : decode cX9_bank 69 = .ok (.ifCond .eq 12, 3) := by decide +kernel
theorem dX9_bank_72 : decode cX9_bank 72 = .ok (.aload_n 0, 1) := by decide +kernel
theorem dX9_bank_73 : decode cX9_bank 73 = .ok (.iload_n 1, 1) := by decide +kernel
theorem dX9_bank_74 : decode cX9_bank 74 = .ok (.iload_n 3, 1) := by decide +kernel
theorem dX9_bank_75 : decode cX9_bank 75 = .ok (.invokevirtual 175, 3) := by decide +kernel
theorem dX9_bank_78 : decode cX9_bank 78 = .ok (.goto 4, 3) := by decide +kernel
theorem dX9_bank_81 : decode cX9_bank 81 = .ok (.iconst (-1), 1) := by decide +kernel
theorem dX9_bank_82 : decode cX9_bank 82 = .ok (.ireturn, 1) := by decide +kernel
theorem dX9_bank_83 : decode cX9_bank 83 = .ok (.iconst (-1), 1) := by decide +kernel
theorem dX9_bank_84 : decode cX9_bank 84 = .ok (.ireturn, 1) := by decide +kernel
set_option maxRecDepth 20000 in
theorem ggX9_plans_X9_needs : GoodIn wsX9_plans wsX9_needs := goodIn_r _ [7, 8, 9, 10, 11, 6, 12, 13, 14, 15, 16, 17, 18, 19, 20, 21, 22, 23, 24, 25, 26, 27, 28, 29, 30, 31, 32, 33, 34, 35, 36, 37, 38, 39, 40, 41, 42, 43, 44, 45, 46, 47, 48] (by decide +kernel) (by decide +kernel)
set_option maxRecDepth 20000 in
theorem gX9_plans_X9_needs : GoodIn wsX9_plans (wsV RX9 175 RX9 yX9_needs wsX9_needs) := goodIn_app (goodIn_of _ (by decide +kernel)) ggX9_plans_X9_needs
theorem dX9_plans_0 : decode cX9_plans 0 = .ok (.iconst 0, 1) := by decide +kernel
theorem dX9_plans_1 : decode cX9_plans 1 = .ok (.istore_n 2, 1) := by decide +kernel
theorem dX9_plans_2 : decode cX9_plans 2 = .ok (.iload_n 2, 1) := by decide +kernel
theorem dX9_plans_3 : decode cX9_plans 3 = .ok (.bipush 30, 2) := by decide +kernel
theorem dX9_plans_5 : decode cX9_plans 5 = .ok (.if_icmp .gt 141, 3) := by decide +kernel
theorem dX9_plans_8 : decode cX9_plans 8 = .ok (.iconst 0, 1) := by decide +kernel
theorem dX9_plans_9 : decode cX9_plans 9 = .ok (.istore_n 3, 1) := by decide +kernel
theorem dX9_plans_10 : decode cX9_plans 10 = .ok (.iload_n 3, 1) := by decide +kernel
theorem dX9_plans_11 : decode cX9_plans 11 = .ok (.sipush 300, 3) := by decide +kernel
theorem dX9_plans_14 : decode cX9_plans 14 = .ok (.if_icmp .gt 126, 3) := by decide +kernel
theorem dX9_plans_17 : decode cX9_plans 17 = .ok (.sipush 301, 3) := by decide +kernel
theorem dX9_plans_20 : decode cX9_plans 20 = .ok (.iload_n 2, 1) := by decide +kernel
theorem dX9_plans_21 : decode cX9_plans 21 = .ok (.imul, 1) := by decide +kernel
theorem dX9_plans_22 : decode cX9_plans 22 = .ok (.iload_n 3, 1) := by decide +kernel
theorem dX9_plans_23 : decode cX9_plans 23 = .ok (.iadd, 1) := by decide +kernel
theorem dX9_plans_24 : decode cX9_plans 24 = .ok (.istore 4, 2) := by decide +kernel
theorem dX9_plans_26 : decode cX9_plans 26 = .ok (.aload_n 0, 1) := by decide +kernel
theorem dX9_plans_27 : decode cX9_plans 27 = .ok (.getfield 85, 3) := by decide +kernel
theorem dX9_plans_30 : decode cX9_plans 30 = .ok (.iload 4, 2) := by decide +kernel
theorem dX9_plans_32 : decode cX9_plans 32 = .ok (.iload_n 2, 1) := by decide +kernel
theorem dX9_plans_33 : decode cX9_plans 33 = .ok (.ifCond .ne 7, 3) := by decide +kernel
theorem dX9_plans_36 : decode cX9_plans 36 = .ok (.iconst 0, 1) := by decide +kernel
theorem dX9_plans_37 : decode cX9_plans 37 = .ok (.goto 16, 3) := by decide +kernel
theorem dX9_plans_40 : decode cX9_plans 40 = .ok (.aload_n 0, 1) := by decide +kernel
theorem dX9_plans_41 : decode cX9_plans 41 = .ok (.getfield 85, 3) := by decide +kernel
theorem dX9_plans_44 : decode cX9_plans 44 = .ok (.iload 4, 2) := by decide +kernel
theorem dX9_plans_46 : decode cX9_plans 46 = .ok (.sipush 300, 3) := by decide +kernel
theorem dX9_plans_49 : decode cX9_plans 49 = .ok (.isub, 1) := by decide +kernel
theorem dX9_plans_50 : decode cX9_plans 50 = .ok (.iconst 1, 1) := by decide +kernel
theorem dX9_plans_51 : decode cX9_plans 51 = .ok (.isub, 1) := by decide +kernel
theorem dX9_plans_52 : decode cX9_plans 52 = .ok (.iaload, 1) := by decide +kernel
theorem dX9_plans_53 : decode cX9_plans 53 = .ok (.iastore, 1) := by decide +kernel
theorem dX9_plans_54 : decode cX9_plans 54 = .ok (.iload_n 2, 1) := by decide +kernel
theorem dX9_plans_55 : decode cX9_plans 55 = .ok (.ifCond .ne 7, 3) := by decide +kernel
theorem dX9_plans_58 : decode cX9_plans 58 = .ok (.iconst 0, 1) := by decide +kernel
theorem dX9_plans_59 : decode cX9_plans 59 = .ok (.goto 11, 3) := by decide +kernel
theorem dX9_plans_62 : decode cX9_plans 62 = .ok (.aload_n 0, 1) := by decide +kernel
theorem dX9_plans_63 : decode cX9_plans 63 = .ok (.iload_n 2, 1) := by decide +kernel
theorem dX9_plans_64 : decode cX9_plans 64 = .ok (.iconst 1, 1) := by decide +kernel
theorem dX9_plans_65 : decode cX9_plans 65 = .ok (.isub, 1) := by decide +kernel
theorem dX9_plans_66 : decode cX9_plans 66 = .ok (.iload_n 1, 1) := by decide +kernel
theorem dX9_plans_67 : decode cX9_plans 67 = .ok (.invokevirtual 175, 3) := by decide +kernel
theorem dX9_plans_70 : decode cX9_plans 70 = .ok (.istore 5, 2) := by decide +kernel
theorem dX9_plans_72 : decode cX9_plans 72 = .ok (.iload 5, 2) := by decide +kernel
theorem dX9_plans_74 : decode cX9_plans 74 = .ok (.ifCond .eq 60, 3) := by decide +kernel
theorem dX9_plans_77 : decode cX9_plans 77 = .ok (.iload 5, 2) := by decide +kernel
theorem dX9_plans_79 : decode cX9_plans 79 = .ok (.iload_n 3, 1) := by decide +kernel
theorem dX9_plans_80 : decode cX9_plans 80 = .ok (.if_icmp .le 6, 3) := by decide +kernel
theorem dX9_plans_83 : decode cX9_plans 83 = .ok (.goto 51, 3) := by decide +kernel
theorem dX9_plans_86 : decode cX9_plans 86 = .ok (.aload_n 0, 1) := by decide +kernel
theorem dX9_plans_87 : decode cX9_plans 87 = .ok (.getfield 85, 3) := by decide +kernel
theorem dX9_plans_90 : decode cX9_plans 90 = .ok (.iload 4, 2) := by decide +kernel
theorem dX9_plans_92 : decode cX9_plans 92 = .ok (.sipush 300, 3) := by decide +kernel
theorem dX9_plans_95 : decode cX9_plans 95 = .ok (.isub, 1) := by decide +kernel
theorem dX9_plans_96 : decode cX9_plans 96 = .ok (.iconst 1, 1) := by decide +kernel
theorem dX9_plans_97 : decode cX9_plans 97 = .ok (.isub, 1) := by decide +kernel
theorem dX9_plans_98 : decode cX9_plans 98 = .ok (.iload 5, 2) := by decide +kernel
theorem dX9_plans_100 : decode cX9_plans 100 = .ok (.isub, 1) := by decide +kernel
theorem dX9_plans_101 : decode cX9_plans 101 = .ok (.iaload, 1) := by decide +kernel
theorem dX9_plans_102 : decode cX9_plans 102 = .ok (.aload_n 0, 1) := by decide +kernel
theorem dX9_plans_103 : decode cX9_plans 103 = .ok (.getfield 19, 3) := by decide +kernel
theorem dX9_plans_106 : decode cX9_plans 106 = .ok (.iload_n 2, 1) := by decide +kernel
theorem dX9_plans_107 : decode cX9_plans 107 = .ok (.iconst 1, 1) := by decide +kernel
theorem dX9_plans_108 : decode cX9_plans 108 = .ok (.isub, 1) := by decide +kernel
theorem dX9_plans_109 : decode cX9_plans 109 = .ok (.iaload, 1) := by decide +kernel
theorem dX9_plans_110 : decode cX9_plans 110 = .ok (.iadd, 1) := by decide +kernel
theorem dX9_plans_111 : decode cX9_plans 111 = .ok (.istore 6, 2) := by decide +kernel
theorem dX9_plans_113 : decode cX9_plans 113 = .ok (.iload 6, 2) := by decide +kernel
theorem dX9_plans_115 : decode cX9_plans 115 = .ok (.aload_n 0, 1) := by decide +kernel
theorem dX9_plans_116 : decode cX9_plans 116 = .ok (.getfield 85, 3) := by decide +kernel
theorem dX9_plans_119 : decode cX9_plans 119 = .ok (.iload 4, 2) := by decide +kernel
theorem dX9_plans_121 : decode cX9_plans 121 = .ok (.iaload, 1) := by decide +kernel
theorem dX9_plans_122 : decode cX9_plans 122 = .ok (.if_icmp .le 12, 3) := by decide +kernel
theorem dX9_plans_125 : decode cX9_plans 125 = .ok (.aload_n 0, 1) := by decide +kernel
theorem dX9_plans_126 : decode cX9_plans 126 = .ok (.getfield 85, 3) := by decide +kernel
theorem dX9_plans_129 : decode cX9_plans 129 = .ok (.iload 4, 2) := by decide +kernel
theorem dX9_plans_131 : decode cX9_plans 131 = .ok (.iload 6, 2) := by decide +kernel
theorem dX9_plans_133 : decode cX9_plans 133 = .ok (.iastore, 1) := by decide +kernel
theorem dX9_plans_134 : decode cX9_plans 134 = .ok (.iinc 3 1, 3) := by decide +kernel
theorem dX9_plans_137 : decode cX9_plans 137 = .ok (.goto (-127), 3) := by decide +kernel
theorem dX9_plans_140 : decode cX9_plans 140 = .ok (.iinc 2 1, 3) := by decide +kernel
theorem dX9_plans_143 : decode cX9_plans 143 = .ok (.goto (-141), 3) := by decide +kernel
theorem dX9_plans_146 : decode cX9_plans 146 = .ok (.return_, 1) := by decide +kernel
set_option maxRecDepth 20000 in
theorem ggX9_isPlan_X9_in : GoodIn wsX9_isPlan wsX9_in := goodIn_r _ [4] (by decide +kernel) (by decide +kernel)
set_option maxRecDepth 20000 in
theorem gX9_isPlan_X9_in : GoodIn wsX9_isPlan (va_wsS RX9 88 yX9_in wsX9_in) := goodIn_app (goodIn_of _ (by decide +kernel)) ggX9_isPlan_X9_in
theorem dX9_isPlan_0 : decode cX9_isPlan 0 = .ok (.iload_n 0, 1) := by decide +kernel
theorem dX9_isPlan_1 : decode cX9_isPlan 1 = .ok (.iconst 0, 1) := by decide +kernel
theorem dX9_isPlan_2 : decode cX9_isPlan 2 = .ok (.sipush 300, 3) := by decide +kernel
theorem dX9_isPlan_5 : decode cX9_isPlan 5 = .ok (.invokestatic 88, 3) := by decide +kernel
theorem dX9_isPlan_8 : decode cX9_isPlan 8 = .ok (.ifCond .eq 18, 3) := by decide +kernel
theorem dX9_isPlan_11 : decode cX9_isPlan 11 = .ok (.iload_n 1, 1) := by decide +kernel
theorem dX9_isPlan_12 : decode cX9_isPlan 12 = .ok (.iconst 0, 1) := by decide +kernel
theorem dX9_isPlan_13 : decode cX9_isPlan 13 = .ok (.sipush 3000, 3) := by decide +kernel
theorem dX9_isPlan_16 : decode cX9_isPlan 16 = .ok (.invokestatic 88, 3) := by decide +kernel
theorem dX9_isPlan_19 : decode cX9_isPlan 19 = .ok (.ifCond .eq 7, 3) := by decide +kernel
theorem dX9_isPlan_22 : decode cX9_isPlan 22 = .ok (.iconst 1, 1) := by decide +kernel
theorem dX9_isPlan_23 : decode cX9_isPlan 23 = .ok (.goto 4, 3) := by decide +kernel
theorem dX9_isPlan_26 : decode cX9_isPlan 26 = .ok (.iconst 0, 1) := by decide +kernel
theorem dX9_isPlan_27 : decode cX9_isPlan 27 = .ok (.ireturn, 1) := by decide +kernel
set_option maxRecDepth 20000 in
theorem ggX9_saved_X9_isPlan : GoodIn wsX9_saved wsX9_isPlan := goodIn_r _ [5, 6, 7, 4, 8] (by decide +kernel) (by decide +kernel)
set_option maxRecDepth 20000 in
theorem gX9_saved_X9_isPlan : GoodIn wsX9_saved (va_wsS RX9 178 yX9_isPlan wsX9_isPlan) := goodIn_app (goodIn_of _ (by decide +kernel)) ggX9_saved_X9_isPlan
set_option maxRecDepth 20000 in
theorem ggX9_saved_X9_plans : GoodIn wsX9_saved wsX9_plans := goodIn_r _ [12, 1, 13, 14, 15, 16, 4, 17, 18, 19, 20, 21, 22, 23, 24, 25, 26, 27, 28, 29, 30, 31, 32, 33, 34, 35, 36, 37, 38, 39, 40, 41, 42, 43, 44, 45, 46, 47, 48, 49, 50, 51, 52, 53, 54, 55, 56, 57, 58] (by decide +kernel) (by decide +kernel)
set_option maxRecDepth 20000 in
theorem gX9_saved_X9_plans : GoodIn wsX9_saved (wsV RX9 181 RX9 yX9_plans wsX9_plans) := goodIn_app (goodIn_of _ (by decide +kernel)) ggX9_saved_X9_plans
theorem dX9_saved_0 : decode cX9_saved 0 = .ok (.iload_n 1, 1) := by decide +kernel
theorem dX9_saved_1 : decode cX9_saved 1 = .ok (.iload_n 2, 1) := by decide +kernel
theorem dX9_saved_2 : decode cX9_saved 2 = .ok (.invokestatic 178, 3) := by decide +kernel
theorem dX9_saved_5 : decode cX9_saved 5 = .ok (.ifCond .ne 5, 3) := by decide +kernel
theorem dX9_saved_8 : decode cX9_saved 8 = .ok (.iconst (-1), 1) := by decide +kernel
theorem dX9_saved_9 : decode cX9_saved 9 = .ok (.ireturn, 1) := by decide +kernel
theorem dX9_saved_10 : decode cX9_saved 10 = .ok (.aload_n 0, 1) := by decide +kernel
theorem dX9_saved_11 : decode cX9_saved 11 = .ok (.iload_n 2, 1) := by decide +kernel
theorem dX9_saved_12 : decode cX9_saved 12 = .ok (.invokevirtual 181, 3) := by decide +kernel
theorem dX9_saved_15 : decode cX9_saved 15 = .ok (.aload_n 0, 1) := by decide +kernel
theorem dX9_saved_16 : decode cX9_saved 16 = .ok (.getfield 85, 3) := by decide +kernel
theorem dX9_saved_19 : decode cX9_saved 19 = .ok (.sipush 9030, 3) := by decide +kernel
theorem dX9_saved_22 : decode cX9_saved 22 = .ok (.iload_n 1, 1) := by decide +kernel
theorem dX9_saved_23 : decode cX9_saved 23 = .ok (.iadd, 1) := by decide +kernel
theorem dX9_saved_24 : decode cX9_saved 24 = .ok (.iaload, 1) := by decide +kernel
theorem dX9_saved_25 : decode cX9_saved 25 = .ok (.ireturn, 1) := by decide +kernel
set_option maxRecDepth 20000 in
theorem ggX9_chosen_X9_isPlan : GoodIn wsX9_chosen wsX9_isPlan := goodIn_r _ [5, 6, 7, 4, 8] (by decide +kernel) (by decide +kernel)
set_option maxRecDepth 20000 in
theorem gX9_chosen_X9_isPlan : GoodIn wsX9_chosen (va_wsS RX9 178 yX9_isPlan wsX9_isPlan) := goodIn_app (goodIn_of _ (by decide +kernel)) ggX9_chosen_X9_isPlan
set_option maxRecDepth 20000 in
theorem ggX9_chosen_X9_plans : GoodIn wsX9_chosen wsX9_plans := goodIn_r _ [12, 1, 13, 14, 15, 16, 4, 17, 18, 19, 20, 21, 22, 23, 24, 25, 26, 27, 28, 29, 30, 31, 32, 33, 34, 35, 36, 37, 38, 39, 40, 41, 42, 43, 44, 45, 46, 47, 48, 49, 50, 51, 52, 53, 54, 55, 56, 57, 58] (by decide +kernel) (by decide +kernel)
set_option maxRecDepth 20000 in
theorem gX9_chosen_X9_plans : GoodIn wsX9_chosen (wsV RX9 181 RX9 yX9_plans wsX9_plans) := goodIn_app (goodIn_of _ (by decide +kernel)) ggX9_chosen_X9_plans
set_option maxRecDepth 20000 in
theorem ggX9_chosen_X9_needs : GoodIn wsX9_chosen wsX9_needs := goodIn_r _ [17, 18, 19, 20, 21, 4, 22, 23, 24, 25, 26, 27, 28, 29, 30, 31, 32, 33, 34, 35, 36, 37, 38, 39, 40, 41, 42, 43, 44, 45, 46, 47, 48, 49, 50, 51, 52, 53, 54, 55, 56, 57, 58] (by decide +kernel) (by decide +kernel)
set_option maxRecDepth 20000 in
theorem gX9_chosen_X9_needs : GoodIn wsX9_chosen (wsV RX9 175 RX9 yX9_needs wsX9_needs) := goodIn_app (goodIn_of _ (by decide +kernel)) ggX9_chosen_X9_needs
theorem dX9_chosen_0 : decode cX9_chosen 0 = .ok (.iload_n 1, 1) := by decide +kernel
theorem dX9_chosen_1 : decode cX9_chosen 1 = .ok (.iload_n 2, 1) := by decide +kernel
theorem dX9_chosen_2 : decode cX9_chosen 2 = .ok (.invokestatic 178, 3) := by decide +kernel
theorem dX9_chosen_5 : decode cX9_chosen 5 = .ok (.ifCond .ne 5, 3) := by decide +kernel
theorem dX9_chosen_8 : decode cX9_chosen 8 = .ok (.iconst (-1), 1) := by decide +kernel
theorem dX9_chosen_9 : decode cX9_chosen 9 = .ok (.ireturn, 1) := by decide +kernel
theorem dX9_chosen_10 : decode cX9_chosen 10 = .ok (.aload_n 0, 1) := by decide +kernel
theorem dX9_chosen_11 : decode cX9_chosen 11 = .ok (.iload_n 2, 1) := by decide +kernel
theorem dX9_chosen_12 : decode cX9_chosen 12 = .ok (.invokevirtual 181, 3) := by decide +kernel
theorem dX9_chosen_15 : decode cX9_chosen 15 = .ok (.iconst 0, 1) := by decide +kernel
theorem dX9_chosen_16 : decode cX9_chosen 16 = .ok (.istore_n 3, 1) := by decide +kernel
theorem dX9_chosen_17 : decode cX9_chosen 17 = .ok (.iload_n 1, 1) := by decide +kernel
theorem dX9_chosen_18 : decode cX9_chosen 18 = .ok (.istore 4, 2) := by decide +kernel
theorem dX9_chosen_20 : decode cX9_chosen 20 = .ok (.bipush 30, 2) := by decide +kernel
theorem dX9_chosen_22 : decode cX9_chosen 22 = .ok (.istore 5, 2) := by decide +kernel
theorem dX9_chosen_24 : decode cX9_chosen 24 = .ok (.iload 5, 2) := by decide +kernel
theorem dX9_chosen_26 : decode cX9_chosen 26 = .ok (.ifCond .le 69, 3) := by decide +kernel
theorem dX9_chosen_29 : decode cX9_chosen 29 = .ok (.sipush 301, 3) := by decide +kernel
theorem dX9_chosen_32 : decode cX9_chosen 32 = .ok (.iload 5, 2) := by decide +kernel
theorem dX9_chosen_34 : decode cX9_chosen 34 = .ok (.imul, 1) := by decide +kernel
theorem dX9_chosen_35 : decode cX9_chosen 35 = .ok (.iload 4, 2) := by decide +kernel
theorem dX9_chosen_37 : decode cX9_chosen 37 = .ok (.iadd, 1) := by decide +kernel
theorem dX9_chosen_38 : decode cX9_chosen 38 = .ok (.istore 6, 2) := by decide +kernel
theorem dX9_chosen_40 : decode cX9_chosen 40 = .ok (.aload_n 0, 1) := by decide +kernel
theorem dX9_chosen_41 : decode cX9_chosen 41 = .ok (.getfield 85, 3) := by decide +kernel
theorem dX9_chosen_44 : decode cX9_chosen 44 = .ok (.iload 6, 2) := by decide +kernel
theorem dX9_chosen_46 : decode cX9_chosen 46 = .ok (.iaload, 1) := by decide +kernel
theorem dX9_chosen_47 : decode cX9_chosen 47 = .ok (.aload_n 0, 1) := by decide +kernel
theorem dX9_chosen_48 : decode cX9_chosen 48 = .ok (.getfield 85, 3) := by decide +kernel
theorem dX9_chosen_51 : decode cX9_chosen 51 = .ok (.iload 6, 2) := by decide +kernel
theorem dX9_chosen_53 : decode cX9_chosen 53 = .ok (.sipush 300, 3) := by decide +kernel
theorem dX9_chosen_56 : decode cX9_chosen 56 = .ok (.isub, 1) := by decide +kernel
theorem dX9_chosen_57 : decode cX9_chosen 57 = .ok (.iconst 1, 1) := by decide +kernel
theorem dX9_chosen_58 : decode cX9_chosen 58 = .ok (.isub, 1) := by decide +kernel
theorem dX9_chosen_59 : decode cX9_chosen 59 = .ok (.iaload, 1) := by decide +kernel
theorem dX9_chosen_60 : decode cX9_chosen 60 = .ok (.if_icmp .ne 6, 3) := by decide +kernel
theorem dX9_chosen_63 : decode cX9_chosen 63 = .ok (.goto 26, 3) := by decide +kernel
theorem dX9_chosen_66 : decode cX9_chosen 66 = .ok (.iload_n 3, 1) := by decide +kernel
theorem dX9_chosen_67 : decode cX9_chosen 67 = .ok (.iconst 1, 1) := by decide +kernel
theorem dX9_chosen_68 : decode cX9_chosen 68 = .ok (.iload 5, 2) := by decide +kernel
theorem dX9_chosen_70 : decode cX9_chosen 70 = .ok (.iconst 1, 1) := by decide +kernel
theorem dX9_chosen_71 : decode cX9_chosen 71 = .ok (.isub, 1) := by decide +kernel
theorem dX9_chosen_72 : decode cX9_chosen 72 = .ok (.ishl, 1) := by decide +kernel
theorem dX9_chosen_73 : decode cX9_chosen 73 = .ok (.ior, 1) := by decide +kernel
theorem dX9_chosen_74 : decode cX9_chosen 74 = .ok (.istore_n 3, 1) := by decide +kernel
theorem dX9_chosen_75 : decode cX9_chosen 75 = .ok (.iload 4, 2) := by decide +kernel
theorem dX9_chosen_77 : decode cX9_chosen 77 = .ok (.aload_n 0, 1) := by decide +kernel
theorem dX9_chosen_78 : decode cX9_chosen 78 = .ok (.iload 5, 2) := by decide +kernel
theorem dX9_chosen_80 : decode cX9_chosen 80 = .ok (.iconst 1, 1) := by decide +kernel
theorem dX9_chosen_81 : decode cX9_chosen 81 = .ok (.isub, 1) := by decide +kernel
theorem dX9_chosen_82 : decode cX9_chosen 82 = .ok (.iload_n 2, 1) := by decide +kernel
theorem dX9_chosen_83 : decode cX9_chosen 83 = .ok (.invokevirtual 175, 3) := by decide +kernel
theorem dX9_chosen_86 : decode cX9_chosen 86 = .ok (.isub, 1) := by decide +kernel
theorem dX9_chosen_87 : decode cX9_chosen 87 = .ok (.istore 4, 2) := by decide +kernel
theorem dX9_chosen_89 : decode cX9_chosen 89 = .ok (.iinc 5 (-1), 3) := by decide +kernel
theorem dX9_chosen_92 : decode cX9_chosen 92 = .ok (.goto (-68), 3) := by decide +kernel
theorem dX9_chosen_95 : decode cX9_chosen 95 = .ok (.iload_n 3, 1) := by decide +kernel
theorem dX9_chosen_96 : decode cX9_chosen 96 = .ok (.ireturn, 1) := by decide +kernel
theorem dX9_hours_0 : decode cX9_hours 0 = .ok (.iload_n 0, 1) := by decide +kernel
theorem dX9_hours_1 : decode cX9_hours 1 = .ok (.iload_n 1, 1) := by decide +kernel
theorem dX9_hours_2 : decode cX9_hours 2 = .ok (.if_icmp .ge 9, 3) := by decide +kernel
theorem dX9_hours_5 : decode cX9_hours 5 = .ok (.iload_n 1, 1) := by decide +kernel
theorem dX9_hours_6 : decode cX9_hours 6 = .ok (.iload_n 0, 1) := by decide +kernel
theorem dX9_hours_7 : decode cX9_hours 7 = .ok (.isub, 1) := by decide +kernel
theorem dX9_hours_8 : decode cX9_hours 8 = .ok (.goto 6, 3) := by decide +kernel
theorem dX9_hours_11 : decode cX9_hours 11 = .ok (.iload_n 0, 1) := by decide +kernel
theorem dX9_hours_12 : decode cX9_hours 12 = .ok (.iload_n 1, 1) := by decide +kernel
theorem dX9_hours_13 : decode cX9_hours 13 = .ok (.isub, 1) := by decide +kernel
theorem dX9_hours_14 : decode cX9_hours 14 = .ok (.istore_n 3, 1) := by decide +kernel
theorem dX9_hours_15 : decode cX9_hours 15 = .ok (.iload_n 3, 1) := by decide +kernel
theorem dX9_hours_16 : decode cX9_hours 16 = .ok (.iload_n 2, 1) := by decide +kernel
theorem dX9_hours_17 : decode cX9_hours 17 = .ok (.iadd, 1) := by decide +kernel
theorem dX9_hours_18 : decode cX9_hours 18 = .ok (.iconst 1, 1) := by decide +kernel
theorem dX9_hours_19 : decode cX9_hours 19 = .ok (.isub, 1) := by decide +kernel
theorem dX9_hours_20 : decode cX9_hours 20 = .ok (.iload_n 2, 1) := by decide +kernel
theorem dX9_hours_21 : decode cX9_hours 21 = .ok (.idiv, 1) := by decide +kernel
theorem dX9_hours_22 : decode cX9_hours 22 = .ok (.ireturn, 1) := by decide +kernel
set_option maxRecDepth 20000 in
theorem ggX9_called_X9_isVillage : GoodIn wsX9_called wsX9_isVillage := goodIn_r _ [5, 6, 7, 4, 8] (by decide +kernel) (by decide +kernel)
set_option maxRecDepth 20000 in
theorem gX9_called_X9_isVillage : GoodIn wsX9_called (va_wsS RX9 99 yX9_isVillage wsX9_isVillage) := goodIn_app (goodIn_of _ (by decide +kernel)) ggX9_called_X9_isVillage
set_option maxRecDepth 20000 in
theorem ggX9_called_X9_hours : GoodIn wsX9_called wsX9_hours := goodIn_r _ [11] (by decide +kernel) (by decide +kernel)
set_option maxRecDepth 20000 in
theorem gX9_called_X9_hours : GoodIn wsX9_called (va_wsS RX9 185 yX9_hours wsX9_hours) := goodIn_app (goodIn_of _ (by decide +kernel)) ggX9_called_X9_hours
theorem dX9_called_0 : decode cX9_called 0 = .ok (.iload_n 1, 1) := by decide +kernel
theorem dX9_called_1 : decode cX9_called 1 = .ok (.invokestatic 99, 3) := by decide +kernel
theorem dX9_called_4 : decode cX9_called 4 = .ok (.ifCond .eq 30, 3) := by decide +kernel
theorem dX9_called_7 : decode cX9_called 7 = .ok (.iload_n 2, 1) := by decide +kernel
theorem dX9_called_8 : decode cX9_called 8 = .ok (.invokestatic 99, 3) := by decide +kernel
theorem dX9_called_11 : decode cX9_called 11 = .ok (.ifCond .eq 23, 3) := by decide +kernel
theorem dX9_called_14 : decode cX9_called 14 = .ok (.aload_n 0, 1) := by decide +kernel
theorem dX9_called_15 : decode cX9_called 15 = .ok (.getfield 9, 3) := by decide +kernel
theorem dX9_called_18 : decode cX9_called 18 = .ok (.iload_n 1, 1) := by decide +kernel
theorem dX9_called_19 : decode cX9_called 19 = .ok (.iaload, 1) := by decide +kernel
theorem dX9_called_20 : decode cX9_called 20 = .ok (.aload_n 0, 1) := by decide +kernel
theorem dX9_called_21 : decode cX9_called 21 = .ok (.getfield 9, 3) := by decide +kernel
theorem dX9_called_24 : decode cX9_called 24 = .ok (.iload_n 2, 1) := by decide +kernel
theorem dX9_called_25 : decode cX9_called 25 = .ok (.iaload, 1) := by decide +kernel
theorem dX9_called_26 : decode cX9_called 26 = .ok (.bipush 6, 2) := by decide +kernel
theorem dX9_called_28 : decode cX9_called 28 = .ok (.invokestatic 185, 3) := by decide +kernel
theorem dX9_called_31 : decode cX9_called 31 = .ok (.goto 4, 3) := by decide +kernel
theorem dX9_called_34 : decode cX9_called 34 = .ok (.iconst (-1), 1) := by decide +kernel
theorem dX9_called_35 : decode cX9_called 35 = .ok (.ireturn, 1) := by decide +kernel
set_option maxRecDepth 20000 in
theorem ggX9_arrived_X9_isVillage : GoodIn wsX9_arrived wsX9_isVillage := goodIn_r _ [6, 7, 8, 5, 9] (by decide +kernel) (by decide +kernel)
set_option maxRecDepth 20000 in
theorem gX9_arrived_X9_isVillage : GoodIn wsX9_arrived (va_wsS RX9 99 yX9_isVillage wsX9_isVillage) := goodIn_app (goodIn_of _ (by decide +kernel)) ggX9_arrived_X9_isVillage
set_option maxRecDepth 20000 in
theorem ggX9_arrived_X9_isRod : GoodIn wsX9_arrived wsX9_isRod := goodIn_r _ [12, 7, 8, 5, 9] (by decide +kernel) (by decide +kernel)
set_option maxRecDepth 20000 in
theorem gX9_arrived_X9_isRod : GoodIn wsX9_arrived (va_wsS RX9 103 yX9_isRod wsX9_isRod) := goodIn_app (goodIn_of _ (by decide +kernel)) ggX9_arrived_X9_isRod
set_option maxRecDepth 20000 in
theorem ggX9_arrived_X9_in : GoodIn wsX9_arrived wsX9_in := goodIn_r _ [9] (by decide +kernel) (by decide +kernel)
set_option maxRecDepth 20000 in
theorem gX9_arrived_X9_in : GoodIn wsX9_arrived (va_wsS RX9 88 yX9_in wsX9_in) := goodIn_app (goodIn_of _ (by decide +kernel)) ggX9_arrived_X9_in
set_option maxRecDepth 20000 in
theorem ggX9_arrived_X9_called : GoodIn wsX9_arrived wsX9_called := goodIn_r _ [16, 1, 3, 4, 5, 6, 7, 8, 9, 17, 18, 19, 36, 37, 38, 39, 40, 41, 42, 43, 44, 45, 46, 47, 48, 49, 50, 51, 52, 53, 54, 55, 56, 57, 58, 59, 60, 61, 62, 63, 64, 65, 66, 67, 68, 69, 70] (by decide +kernel) (by decide +kernel)
set_option maxRecDepth 20000 in
theorem gX9_arrived_X9_called : GoodIn wsX9_arrived (wsV RX9 188 RX9 yX9_called wsX9_called) := goodIn_app (goodIn_of _ (by decide +kernel)) ggX9_arrived_X9_called
set_option maxRecDepth 20000 in
theorem ggX9_arrived_X9_hours : GoodIn wsX9_arrived wsX9_hours := goodIn_r _ [19] (by decide +kernel) (by decide +kernel)
set_option maxRecDepth 20000 in
theorem gX9_arrived_X9_hours : GoodIn wsX9_arrived (va_wsS RX9 185 yX9_hours wsX9_hours) := goodIn_app (goodIn_of _ (by decide +kernel)) ggX9_arrived_X9_hours
set_option maxRecDepth 20000 in
theorem ggX9_arrived_X9_villageHands : GoodIn wsX9_arrived wsX9_villageHands := goodIn_r _ [23, 24, 25, 26, 27, 28, 5, 29, 30, 31, 32, 33, 34, 35, 36, 37, 38, 39, 40, 41, 42, 43, 44, 45, 46, 47, 48, 49, 50, 51, 52, 53, 54, 55, 56, 57, 58, 59, 60, 61, 62, 63, 64, 65, 66, 67, 68, 69, 70] (by decide +kernel) (by decide +kernel)
set_option maxRecDepth 20000 in
theorem gX9_arrived_X9_villageHands : GoodIn wsX9_arrived (wsV RX9 169 RX9 yX9_villageHands wsX9_villageHands) := goodIn_app (goodIn_of _ (by decide +kernel)) ggX9_arrived_X9_villageHands
theorem dX9_arrived_0 : decode cX9_arrived 0 = .ok (.iload_n 1, 1) := by decide +kernel
theorem dX9_arrived_1 : decode cX9_arrived 1 = .ok (.invokestatic 99, 3) := by decide +kernel
theorem dX9_arrived_4 : decode cX9_arrived 4 = .ok (.ifCond .eq 20, 3) := by decide +kernel
theorem dX9_arrived_7 : decode cX9_arrived 7 = .ok (.iload_n 2, 1) := by decide +kernel
theorem dX9_arrived_8 : decode cX9_arrived 8 = .ok (.invokestatic 103, 3) := by decide +kernel
theorem dX9_arrived_11 : decode cX9_arrived 11 = .ok (.ifCond .eq 13, 3) := by decide +kernel
theorem dX9_arrived_14 : decode cX9_arrived 14 = .ok (.iload_n 3, 1) := by decide +kernel
theorem dX9_arrived_15 : decode cX9_arrived 15 = .ok (.iconst 0, 1) := by decide +kernel
theorem dX9_arrived_16 : decode cX9_arrived 16 = .ok (.bipush 100, 2) := by decide +kernel
theorem dX9_arrived_18 : decode cX9_arrived 18 = .ok (.invokestatic 88, 3) := by decide +kernel
theorem dX9_arrived_21 : decode cX9_arrived 21 = .ok (.ifCond .ne 5, 3) := by decide +kernel
theorem dX9_arrived_24 : decode cX9_arrived 24 = .ok (.iconst (-1), 1) := by decide +kernel
theorem dX9_arrived_25 : decode cX9_arrived 25 = .ok (.ireturn, 1) := by decide +kernel
theorem dX9_arrived_26 : decode cX9_arrived 26 = .ok (.iconst 0, 1) := by decide +kernel
theorem dX9_arrived_27 : decode cX9_arrived 27 = .ok (.istore 4, 2) := by decide +kernel
theorem dX9_arrived_29 : decode cX9_arrived 29 = .ok (.iconst 0, 1) := by decide +kernel
theorem dX9_arrived_30 : decode cX9_arrived 30 = .ok (.istore 5, 2) := by decide +kernel
theorem dX9_arrived_32 : decode cX9_arrived 32 = .ok (.iload 5, 2) := by decide +kernel
theorem dX9_arrived_34 : decode cX9_arrived 34 = .ok (.bipush 8, 2) := by decide +kernel
theorem dX9_arrived_36 : decode cX9_arrived 36 = .ok (.if_icmp .ge 50, 3) := by decide +kernel
theorem dX9_arrived_39 : decode cX9_arrived 39 = .ok (.aload_n 0, 1) := by decide +kernel
theorem dX9_arrived_40 : decode cX9_arrived 40 = .ok (.iload_n 1, 1) := by decide +kernel
theorem dX9_arrived_41 : decode cX9_arrived 41 = .ok (.iload 5, 2) := by decide +kernel
theorem dX9_arrived_43 : decode cX9_arrived 43 = .ok (.invokevirtual 188, 3) := by decide +kernel
theorem dX9_arrived_46 : decode cX9_arrived 46 = .ok (.aload_n 0, 1) := by decide +kernel
theorem dX9_arrived_47 : decode cX9_arrived 47 = .ok (.getfield 9, 3) := by decide +kernel
theorem dX9_arrived_50 : decode cX9_arrived 50 = .ok (.iload 5, 2) := by decide +kernel
theorem dX9_arrived_52 : decode cX9_arrived 52 = .ok (.iaload, 1) := by decide +kernel
theorem dX9_arrived_53 : decode cX9_arrived 53 = .ok (.iconst 3, 1) := by decide +kernel
theorem dX9_arrived_54 : decode cX9_arrived 54 = .ok (.iload_n 2, 1) := by decide +kernel
theorem dX9_arrived_55 : decode cX9_arrived 55 = .ok (.imul, 1) := by decide +kernel
theorem dX9_arrived_56 : decode cX9_arrived 56 = .ok (.iconst 3, 1) := by decide +kernel
theorem dX9_arrived_57 : decode cX9_arrived 57 = .ok (.invokestatic 185, 3) := by decide +kernel
theorem dX9_arrived_60 : decode cX9_arrived 60 = .ok (.iadd, 1) := by decide +kernel
theorem dX9_arrived_61 : decode cX9_arrived 61 = .ok (.iload_n 3, 1) := by decide +kernel
theorem dX9_arrived_62 : decode cX9_arrived 62 = .ok (.if_icmp .gt 18, 3) := by decide +kernel
theorem dX9_arrived_65 : decode cX9_arrived 65 = .ok (.iload 4, 2) := by decide +kernel
theorem dX9_arrived_67 : decode cX9_arrived 67 = .ok (.aload_n 0, 1) := by decide +kernel
theorem dX9_arrived_68 : decode cX9_arrived 68 = .ok (.iload 5, 2) := by decide +kernel
theorem dX9_arrived_70 : decode cX9_arrived 70 = .ok (.aload_n 0, 1) := by decide +kernel
theorem dX9_arrived_71 : decode cX9_arrived 71 = .ok (.getfield 96, 3) := by decide +kernel
theorem dX9_arrived_74 : decode cX9_arrived 74 = .ok (.invokevirtual 169, 3) := by decide +kernel
theorem dX9_arrived_77 : decode cX9_arrived 77 = .ok (.iadd, 1) := by decide +kernel
theorem dX9_arrived_78 : decode cX9_arrived 78 = .ok (.istore 4, 2) := by decide +kernel
theorem dX9_arrived_80 : decode cX9_arrived 80 = .ok (.iinc 5 1, 3) := by decide +kernel
theorem dX9_arrived_83 : decode cX9_arrived 83 = .ok (.goto (-51), 3) := by decide +kernel
theorem dX9_arrived_86 : decode cX9_arrived 86 = .ok (.iload 4, 2) := by decide +kernel
theorem dX9_arrived_88 : decode cX9_arrived 88 = .ok (.ireturn, 1) := by decide +kernel
theorem dX9_count_0 : decode cX9_count 0 = .ok (.iload_n 1, 1) := by decide +kernel
theorem dX9_count_1 : decode cX9_count 1 = .ok (.tableswitch 96 0 8 #[51, 56, 61, 66, 71, 76, 81, 86, 91], 51) := by decide +kernel
theorem dX9_count_52 : decode cX9_count 52 = .ok (.aload_n 0, 1) := by decide +kernel
theorem dX9_count_53 : decode cX9_count 53 = .ok (.getfield 96, 3) := by decide +kernel
theorem dX9_count_56 : decode cX9_count 56 = .ok (.ireturn, 1) := by decide +kernel
theorem dX9_count_57 : decode cX9_count 57 = .ok (.aload_n 0, 1) := by decide +kernel
theorem dX9_count_58 : decode cX9_count 58 = .ok (.getfield 92, 3) := by decide +kernel
theorem dX9_count_61 : decode cX9_count 61 = .ok (.ireturn, 1) := by decide +kernel
theorem dX9_count_62 : decode cX9_count 62 = .ok (.aload_n 0, 1) := by decide +kernel
theorem dX9_count_63 : decode cX9_count 63 = .ok (.getfield 106, 3) := by decide +kernel
theorem dX9_count_66 : decode cX9_count 66 = .ok (.ireturn, 1) := by decide +kernel
theorem dX9_count_67 : decode cX9_count 67 = .ok (.aload_n 0, 1) := by decide +kernel
theorem dX9_count_68 : decode cX9_count 68 = .ok (.getfield 116, 3) := by decide +kernel
theorem dX9_count_71 : decode cX9_count 71 = .ok (.ireturn, 1) := by decide +kernel
theorem dX9_count_72 : decode cX9_count 72 = .ok (.aload_n 0, 1) := by decide +kernel
theorem dX9_count_73 : decode cX9_count 73 = .ok (.getfield 153, 3) := by decide +kernel
theorem dX9_count_76 : decode cX9_count 76 = .ok (.ireturn, 1) := by decide +kernel
theorem dX9_count_77 : decode cX9_count 77 = .ok (.aload_n 0, 1) := by decide +kernel
theorem dX9_count_78 : decode cX9_count 78 = .ok (.getfield 166, 3) := by decide +kernel
theorem dX9_count_81 : decode cX9_count 81 = .ok (.ireturn, 1) := by decide +kernel
theorem dX9_count_82 : decode cX9_count 82 = .ok (.aload_n 0, 1) := by decide +kernel
theorem dX9_count_83 : decode cX9_count 83 = .ok (.getfield 143, 3) := by decide +kernel
theorem dX9_count_86 : decode cX9_count 86 = .ok (.ireturn, 1) := by decide +kernel
theorem dX9_count_87 : decode cX9_count 87 = .ok (.aload_n 0, 1) := by decide +kernel
theorem dX9_count_88 : decode cX9_count 88 = .ok (.getfield 150, 3) := by decide +kernel
theorem dX9_count_91 : decode cX9_count 91 = .ok (.ireturn, 1) := by decide +kernel
theorem dX9_count_92 : decode cX9_count 92 = .ok (.aload_n 0, 1) := by decide +kernel
theorem dX9_count_93 : decode cX9_count 93 = .ok (.getfield 160, 3) := by decide +kernel
theorem dX9_count_96 : decode cX9_count 96 = .ok (.ireturn, 1) := by decide +kernel
theorem dX9_count_97 : decode cX9_count 97 = .ok (.iconst (-1), 1) := by decide +kernel
theorem dX9_count_98 : decode cX9_count 98 = .ok (.ireturn, 1) := by decide +kernel
