set_option maxRecDepth 20000 in
theorem gX5_told_X5_isSteep : GoodIn wsX5_told (wsV RX5 63 RX5 yX5_isSteep wsX5_isSteep) := goodIn_app (goodIn_of _ (by decide +kernel)) ggX5_told_X5_isSteep
set_option maxRecDepth 20000 in
theorem ggX5_told_X5_sum : GoodIn wsX5_told wsX5_sum := goodIn_r _ [25] (by decide +kernel) (by decide +kernel)
set_option maxRecDepth 20000 in
theorem gX5_told_X5_sum : GoodIn wsX5_told (va_wsS RX5 78 yX5_sum wsX5_sum) := goodIn_app (goodIn_of _ (by decide +kernel)) ggX5_told_X5_sum
set_option maxRecDepth 20000 in
theorem ggX5_told_X5_isFast : GoodIn wsX5_told wsX5_isFast := goodIn_r _ [29, 30, 15, 2, 46, 47, 48, 49, 50, 51, 52, 53, 54, 55, 56] (by decide +kernel) (by decide +kernel)
set_option maxRecDepth 20000 in
theorem gX5_told_X5_isFast : GoodIn wsX5_told (wsV RX5 87 RX5 yX5_isFast wsX5_isFast) := goodIn_app (goodIn_of _ (by decide +kernel)) ggX5_told_X5_isFast
set_option maxRecDepth 20000 in
theorem ggX5_told_Jx4a65c_size_8abf5 : GoodIn wsX5_told wsJx4a65c_size_8abf5 := goodIn_r _ [35, 36, 57, 58, 59] (by decide +kernel) (by decide +kernel)
set_option maxRecDepth 20000 in
theorem gX5_told_Jx4a65c_size_8abf5 : GoodIn wsX5_told (wsV RX5 104 RJx4a65c yJx4a65c_size_8abf5 wsJx4a65c_size_8abf5) := goodIn_app (goodIn_of _ (by decide +kernel)) ggX5_told_Jx4a65c_size_8abf5
set_option maxRecDepth 20000 in
theorem ggX5_told_X5_isTree : GoodIn wsX5_told wsX5_isTree := goodIn_r _ [40, 2, 41, 42, 43, 44, 13, 45, 15, 46, 47, 48, 49, 50, 51, 52, 53, 54, 55, 56] (by decide +kernel) (by decide +kernel)
set_option maxRecDepth 20000 in
theorem gX5_told_X5_isTree : GoodIn wsX5_told (wsV RX5 142 RX5 yX5_isTree wsX5_isTree) := goodIn_app (goodIn_of _ (by decide +kernel)) ggX5_told_X5_isTree
theorem dX5_told_0 : decode cX5_told 0 = .ok (.iconst 0, 1) := by decide +kernel
theorem dX5_told_1 : decode cX5_told 1 = .ok (.istore_n 2, 1) := by decide +kernel
theorem dX5_told_2 : decode cX5_told 2 = .ok (.iconst 0, 1) := by decide +kernel
theorem dX5_told_3 : decode cX5_told 3 = .ok (.istore_n 3, 1) := by decide +kernel
theorem dX5_told_4 : decode cX5_told 4 = .ok (.iconst 0, 1) := by decide +kernel
theorem dX5_told_5 : decode cX5_told 5 = .ok (.istore 4, 2) := by decide +kernel
theorem dX5_told_7 : decode cX5_told 7 = .ok (.iconst 0, 1) := by decide +kernel
theorem dX5_told_8 : decode cX5_told 8 = .ok (.istore 5, 2) := by decide +kernel
theorem dX5_told_10 : decode cX5_told 10 = .ok (.iload 5, 2) := by decide +kernel
theorem dX5_told_12 : decode cX5_told 12 = .ok (.bipush 7, 2) := by decide +kernel
theorem dX5_told_14 : decode cX5_told 14 = .ok (.if_icmp .ge 41, 3) := by decide +kernel
theorem dX5_told_17 : decode cX5_told 17 = .ok (.iload_n 2, 1) := by decide +kernel
theorem dX5_told_18 : decode cX5_told 18 = .ok (.aload_n 0, 1) := by decide +kernel
theorem dX5_told_19 : decode cX5_told 19 = .ok (.iload 5, 2) := by decide +kernel
theorem dX5_told_21 : decode cX5_told 21 = .ok (.invokevirtual 59, 3) := by decide +kernel
theorem dX5_told_24 : decode cX5_told 24 = .ok (.iadd, 1) := by decide +kernel
theorem dX5_told_25 : decode cX5_told 25 = .ok (.istore_n 2, 1) := by decide +kernel
theorem dX5_told_26 : decode cX5_told 26 = .ok (.iload 4, 2) := by decide +kernel
theorem dX5_told_28 : decode cX5_told 28 = .ok (.aload_n 0, 1) := by decide +kernel
theorem dX5_told_29 : decode cX5_told 29 = .ok (.getfield 24, 3) := by decide +kernel
theorem dX5_told_32 : decode cX5_told 32 = .ok (.iload 5, 2) := by decide +kernel
theorem dX5_told_34 : decode cX5_told 34 = .ok (.iaload, 1) := by decide +kernel
theorem dX5_told_35 : decode cX5_told 35 = .ok (.ifCond .ge 7, 3) := by decide +kernel
theorem dX5_told_38 : decode cX5_told 38 = .ok (.iconst 1, 1) := by decide +kernel
theorem dX5_told_39 : decode cX5_told 39 = .ok (.goto 4, 3) := by decide +kernel
theorem dX5_told_42 : decode cX5_told 42 = .ok (.iconst 0, 1) := by decide +kernel
theorem dX5_told_43 : decode cX5_told 43 = .ok (.invokestatic 135, 3) := by decide +kernel
theorem dX5_told_46 : decode cX5_told 46 = .ok (.iadd, 1) := by decide +kernel
theorem dX5_told_47 : decode cX5_told 47 = .ok (.istore 4, 2) := by decide +kernel
theorem dX5_told_49 : decode cX5_told 49 = .ok (.iinc 5 1, 3) := by decide +kernel
theorem dX5_told_52 : decode cX5_told 52 = .ok (.goto (-42), 3) := by decide +kernel
theorem dX5_told_55 : decode cX5_told 55 = .ok (.iconst 0, 1) := by decide +kernel
theorem dX5_told_56 : decode cX5_told 56 = .ok (.istore 5, 2) := by decide +kernel
theorem dX5_told_58 : decode cX5_told 58 = .ok (.iload 5, 2) := by decide +kernel
theorem dX5_told_60 : decode cX5_told 60 = .ok (.aload_n 0, 1) := by decide +kernel
theorem dX5_told_61 : decode cX5_told 61 = .ok (.getfield 42, 3) := by decide +kernel
theorem dX5_told_64 : decode cX5_told 64 = .ok (.if_icmp .ge 28, 3) := by decide +kernel
theorem dX5_told_67 : decode cX5_told 67 = .ok (.iload_n 3, 1) := by decide +kernel
theorem dX5_told_68 : decode cX5_told 68 = .ok (.aload_n 0, 1) := by decide +kernel
theorem dX5_told_69 : decode cX5_told 69 = .ok (.aload_n 0, 1) := by decide +kernel
theorem dX5_told_70 : decode cX5_told 70 = .ok (.getfield 14, 3) := by decide +kernel
theorem dX5_told_73 : decode cX5_told 73 = .ok (.iload 5, 2) := by decide +kernel
theorem dX5_told_75 : decode cX5_told 75 = .ok (.invokevirtual 63, 3) := by decide +kernel
theorem dX5_told_78 : decode cX5_told 78 = .ok (.invokestatic 135, 3) := by decide +kernel
theorem dX5_told_81 : decode cX5_told 81 = .ok (.iload 5, 2) := by decide +kernel
theorem dX5_told_83 : decode cX5_told 83 = .ok (.ishl, 1) := by decide +kernel
theorem dX5_told_84 : decode cX5_told 84 = .ok (.ior, 1) := by decide +kernel
theorem dX5_told_85 : decode cX5_told 85 = .ok (.istore_n 3, 1) := by decide +kernel
theorem dX5_told_86 : decode cX5_told 86 = .ok (.iinc 5 1, 3) := by decide +kernel
theorem dX5_told_89 : decode cX5_told 89 = .ok (.goto (-31), 3) := by decide +kernel
theorem dX5_told_92 : decode cX5_told 92 = .ok (.bipush 14, 2) := by decide +kernel
theorem dX5_told_94 : decode cX5_told 94 = .ok (.newarray .int, 2) := by decide +kernel
theorem dX5_told_96 : decode cX5_told 96 = .ok (.dup, 1) := by decide +kernel
theorem dX5_told_97 : decode cX5_told 97 = .ok (.iconst 0, 1) := by decide +kernel
theorem dX5_told_98 : decode cX5_told 98 = .ok (.aload_n 0, 1) := by decide +kernel
theorem dX5_told_99 : decode cX5_told 99 = .ok (.getfield 42, 3) := by decide +kernel
theorem dX5_told_102 : decode cX5_told 102 = .ok (.iastore, 1) := by decide +kernel
theorem dX5_told_103 : decode cX5_told 103 = .ok (.dup, 1) := by decide +kernel
theorem dX5_told_104 : decode cX5_told 104 = .ok (.iconst 1, 1) := by decide +kernel
theorem dX5_told_105 : decode cX5_told 105 = .ok (.iload_n 2, 1) := by decide +kernel
theorem dX5_told_106 : decode cX5_told 106 = .ok (.iconst 2, 1) := by decide +kernel
theorem dX5_told_107 : decode cX5_told 107 = .ok (.idiv, 1) := by decide +kernel
theorem dX5_told_108 : decode cX5_told 108 = .ok (.iastore, 1) := by decide +kernel
theorem dX5_told_109 : decode cX5_told 109 = .ok (.dup, 1) := by decide +kernel
theorem dX5_told_110 : decode cX5_told 110 = .ok (.iconst 2, 1) := by decide +kernel
theorem dX5_told_111 : decode cX5_told 111 = .ok (.aload_n 0, 1) := by decide +kernel
theorem dX5_told_112 : decode cX5_told 112 = .ok (.getfield 14, 3) := by decide +kernel
theorem dX5_told_115 : decode cX5_told 115 = .ok (.invokestatic 78, 3) := by decide +kernel
theorem dX5_told_118 : decode cX5_told 118 = .ok (.iastore, 1) := by decide +kernel
theorem dX5_told_119 : decode cX5_told 119 = .ok (.dup, 1) := by decide +kernel
theorem dX5_told_120 : decode cX5_told 120 = .ok (.iconst 3, 1) := by decide +kernel
theorem dX5_told_121 : decode cX5_told 121 = .ok (.aload_n 0, 1) := by decide +kernel
theorem dX5_told_122 : decode cX5_told 122 = .ok (.getfield 81, 3) := by decide +kernel
theorem dX5_told_125 : decode cX5_told 125 = .ok (.iastore, 1) := by decide +kernel
theorem dX5_told_126 : decode cX5_told 126 = .ok (.dup, 1) := by decide +kernel
theorem dX5_told_127 : decode cX5_told 127 = .ok (.iconst 4, 1) := by decide +kernel
theorem dX5_told_128 : decode cX5_told 128 = .ok (.aload_n 0, 1) := by decide +kernel
theorem dX5_told_129 : decode cX5_told 129 = .ok (.getfield 75, 3) := by decide +kernel
theorem dX5_told_132 : decode cX5_told 132 = .ok (.iastore, 1) := by decide +kernel
theorem dX5_told_133 : decode cX5_told 133 = .ok (.dup, 1) := by decide +kernel
theorem dX5_told_134 : decode cX5_told 134 = .ok (.iconst 5, 1) := by decide +kernel
theorem dX5_told_135 : decode cX5_told 135 = .ok (.aload_n 0, 1) := by decide +kernel
theorem dX5_told_136 : decode cX5_told 136 = .ok (.getfield 18, 3) := by decide +kernel
theorem dX5_told_139 : decode cX5_told 139 = .ok (.invokestatic 78, 3) := by decide +kernel
theorem dX5_told_142 : decode cX5_told 142 = .ok (.iastore, 1) := by decide +kernel
theorem dX5_told_143 : decode cX5_told 143 = .ok (.dup, 1) := by decide +kernel
theorem dX5_told_144 : decode cX5_told 144 = .ok (.bipush 6, 2) := by decide +kernel
theorem dX5_told_146 : decode cX5_told 146 = .ok (.iload_n 3, 1) := by decide +kernel
theorem dX5_told_147 : decode cX5_told 147 = .ok (.iastore, 1) := by decide +kernel
theorem dX5_told_148 : decode cX5_told 148 = .ok (.dup, 1) := by decide +kernel
theorem dX5_told_149 : decode cX5_told 149 = .ok (.bipush 7, 2) := by decide +kernel
theorem dX5_told_151 : decode cX5_told 151 = .ok (.aload_n 0, 1) := by decide +kernel
theorem dX5_told_152 : decode cX5_told 152 = .ok (.invokevirtual 87, 3) := by decide +kernel
theorem dX5_told_155 : decode cX5_told 155 = .ok (.invokestatic 135, 3) := by decide +kernel
theorem dX5_told_158 : decode cX5_told 158 = .ok (.iastore, 1) := by decide +kernel
theorem dX5_told_159 : decode cX5_told 159 = .ok (.dup, 1) := by decide +kernel
theorem dX5_told_160 : decode cX5_told 160 = .ok (.bipush 8, 2) := by decide +kernel
theorem dX5_told_162 : decode cX5_told 162 = .ok (.aload_n 0, 1) := by decide +kernel
theorem dX5_told_163 : decode cX5_told 163 = .ok (.getfield 30, 3) := by decide +kernel
theorem dX5_told_166 : decode cX5_told 166 = .ok (.invokevirtual 104, 3) := by decide +kernel
theorem dX5_told_169 : decode cX5_told 169 = .ok (.iastore, 1) := by decide +kernel
theorem dX5_told_170 : decode cX5_told 170 = .ok (.dup, 1) := by decide +kernel
theorem dX5_told_171 : decode cX5_told 171 = .ok (.bipush 9, 2) := by decide +kernel
theorem dX5_told_173 : decode cX5_told 173 = .ok (.aload_n 0, 1) := by decide +kernel
theorem dX5_told_174 : decode cX5_told 174 = .ok (.getfield 24, 3) := by decide +kernel
theorem dX5_told_177 : decode cX5_told 177 = .ok (.invokestatic 78, 3) := by decide +kernel
theorem dX5_told_180 : decode cX5_told 180 = .ok (.iastore, 1) := by decide +kernel
theorem dX5_told_181 : decode cX5_told 181 = .ok (.dup, 1) := by decide +kernel
theorem dX5_told_182 : decode cX5_told 182 = .ok (.bipush 10, 2) := by decide +kernel
theorem dX5_told_184 : decode cX5_told 184 = .ok (.iload_n 2, 1) := by decide +kernel
theorem dX5_told_185 : decode cX5_told 185 = .ok (.iconst 2, 1) := by decide +kernel
theorem dX5_told_186 : decode cX5_told 186 = .ok (.idiv, 1) := by decide +kernel
theorem dX5_told_187 : decode cX5_told 187 = .ok (.aload_n 0, 1) := by decide +kernel
theorem dX5_told_188 : decode cX5_told 188 = .ok (.getfield 42, 3) := by decide +kernel
theorem dX5_told_191 : decode cX5_told 191 = .ok (.isub, 1) := by decide +kernel
theorem dX5_told_192 : decode cX5_told 192 = .ok (.iastore, 1) := by decide +kernel
theorem dX5_told_193 : decode cX5_told 193 = .ok (.dup, 1) := by decide +kernel
theorem dX5_told_194 : decode cX5_told 194 = .ok (.bipush 11, 2) := by decide +kernel
theorem dX5_told_196 : decode cX5_told 196 = .ok (.iload 4, 2) := by decide +kernel
theorem dX5_told_198 : decode cX5_told 198 = .ok (.iastore, 1) := by decide +kernel
theorem dX5_told_199 : decode cX5_told 199 = .ok (.dup, 1) := by decide +kernel
theorem dX5_told_200 : decode cX5_told 200 = .ok (.bipush 12, 2) := by decide +kernel
theorem dX5_told_202 : decode cX5_told 202 = .ok (.aload_n 0, 1) := by decide +kernel
theorem dX5_told_203 : decode cX5_told 203 = .ok (.getfield 128, 3) := by decide +kernel
theorem dX5_told_206 : decode cX5_told 206 = .ok (.iastore, 1) := by decide +kernel
theorem dX5_told_207 : decode cX5_told 207 = .ok (.dup, 1) := by decide +kernel
theorem dX5_told_208 : decode cX5_told 208 = .ok (.bipush 13, 2) := by decide +kernel
theorem dX5_told_210 : decode cX5_told 210 = .ok (.aload_n 0, 1) := by decide +kernel
theorem dX5_told_211 : decode cX5_told 211 = .ok (.invokevirtual 142, 3) := by decide +kernel
theorem dX5_told_214 : decode cX5_told 214 = .ok (.invokestatic 135, 3) := by decide +kernel
theorem dX5_told_217 : decode cX5_told 217 = .ok (.iastore, 1) := by decide +kernel
theorem dX5_told_218 : decode cX5_told 218 = .ok (.astore 5, 2) := by decide +kernel
theorem dX5_told_220 : decode cX5_told 220 = .ok (.aload 5, 2) := by decide +kernel
theorem dX5_told_222 : decode cX5_told 222 = .ok (.iload_n 1, 1) := by decide +kernel
theorem dX5_told_223 : decode cX5_told 223 = .ok (.iaload, 1) := by decide +kernel
theorem dX5_told_224 : decode cX5_told 224 = .ok (.ireturn, 1) := by decide +kernel
set_option maxRecDepth 20000 in
theorem ggX5_many_X5_isIn : GoodIn wsX5_many wsX5_isIn := goodIn_r _ [4] (by decide +kernel) (by decide +kernel)
set_option maxRecDepth 20000 in
theorem gX5_many_X5_isIn : GoodIn wsX5_many (va_wsS RX5 45 yX5_isIn wsX5_isIn) := goodIn_app (goodIn_of _ (by decide +kernel)) ggX5_many_X5_isIn
set_option maxRecDepth 20000 in
theorem ggX5_many_X5_start : GoodIn wsX5_many wsX5_start := goodIn_r _ [8, 9, 10, 11, 12, 3, 13, 62, 63, 64, 65, 66, 67, 68, 69, 70, 71, 72] (by decide +kernel) (by decide +kernel)
set_option maxRecDepth 20000 in
theorem gX5_many_X5_start : GoodIn wsX5_many (wsV RX5 53 RX5 yX5_start wsX5_start) := goodIn_app (goodIn_of _ (by decide +kernel)) ggX5_many_X5_start
set_option maxRecDepth 20000 in
theorem ggX5_many_X5_told : GoodIn wsX5_many wsX5_told := goodIn_r _ [17, 18, 19, 20, 21, 22, 23, 24, 25, 26, 27, 28, 29, 3, 30, 31, 32, 33, 34, 35, 36, 37, 38, 39, 40, 41, 42, 43, 44, 45, 46, 47, 48, 49, 50, 51, 52, 53, 54, 55, 56, 57, 58, 59, 60, 61, 62, 63, 64, 65, 66, 67, 68, 69, 70, 71, 72, 73, 74, 75] (by decide +kernel) (by decide +kernel)
set_option maxRecDepth 20000 in
theorem gX5_many_X5_told : GoodIn wsX5_many (wsV RX5 145 RX5 yX5_told wsX5_told) := goodIn_app (goodIn_of _ (by decide +kernel)) ggX5_many_X5_told
theorem dX5_many_0 : decode cX5_many 0 = .ok (.aload_n 0, 1) := by decide +kernel
theorem dX5_many_1 : decode cX5_many 1 = .ok (.iload_n 1, 1) := by decide +kernel
theorem dX5_many_2 : decode cX5_many 2 = .ok (.iconst 0, 1) := by decide +kernel
theorem dX5_many_3 : decode cX5_many 3 = .ok (.bipush 13, 2) := by decide +kernel
theorem dX5_many_5 : decode cX5_many 5 = .ok (.invokestatic 45, 3) := by decide +kernel
theorem dX5_many_8 : decode cX5_many 8 = .ok (.ifCond .ne 7, 3) := by decide +kernel
theorem dX5_many_11 : decode cX5_many 11 = .ok (.iconst 1, 1) := by decide +kernel
theorem dX5_many_12 : decode cX5_many 12 = .ok (.goto 4, 3) := by decide +kernel
theorem dX5_many_15 : decode cX5_many 15 = .ok (.iconst 0, 1) := by decide +kernel
theorem dX5_many_16 : decode cX5_many 16 = .ok (.iconst 1, 1) := by decide +kernel
theorem dX5_many_17 : decode cX5_many 17 = .ok (.invokevirtual 53, 3) := by decide +kernel
theorem dX5_many_20 : decode cX5_many 20 = .ok (.ifCond .eq 7, 3) := by decide +kernel
theorem dX5_many_23 : decode cX5_many 23 = .ok (.iconst 0, 1) := by decide +kernel
theorem dX5_many_24 : decode cX5_many 24 = .ok (.goto 8, 3) := by decide +kernel
theorem dX5_many_27 : decode cX5_many 27 = .ok (.aload_n 0, 1) := by decide +kernel
theorem dX5_many_28 : decode cX5_many 28 = .ok (.iload_n 1, 1) := by decide +kernel
theorem dX5_many_29 : decode cX5_many 29 = .ok (.invokevirtual 145, 3) := by decide +kernel
theorem dX5_many_32 : decode cX5_many 32 = .ok (.ireturn, 1) := by decide +kernel
set_option maxRecDepth 20000 in
theorem ggX5_determinant_X5_determinant : GoodIn wsX5_determinant wsX5_determinant := goodIn_r _ [0, 1, 2, 3] (by decide +kernel) (by decide +kernel)
set_option maxRecDepth 20000 in
theorem gX5_determinant_X5_determinant : GoodIn wsX5_determinant (va_wsS RX5 148 yX5_determinant wsX5_determinant) := goodIn_app (goodIn_of _ (by decide +kernel)) ggX5_determinant_X5_determinant
theorem dX5_determinant_0 : decode cX5_determinant 0 = .ok (.iload_n 1, 1) := by decide +kernel
theorem dX5_determinant_1 : decode cX5_determinant 1 = .ok (.aload_n 0, 1) := by decide +kernel
theorem dX5_determinant_2 : decode cX5_determinant 2 = .ok (.arraylength, 1) := by decide +kernel
theorem dX5_determinant_3 : decode cX5_determinant 3 = .ok (.if_icmp .ne 5, 3) := by decide +kernel
theorem dX5_determinant_6 : decode cX5_determinant 6 = .ok (.lconst 1, 1) := by decide +kernel
theorem dX5_determinant_7 : decode cX5_determinant 7 = .ok (.lreturn, 1) := by decide +kernel
theorem dX5_determinant_8 : decode cX5_determinant 8 = .ok (.lconst 0, 1) := by decide +kernel
theorem dX5_determinant_9 : decode cX5_determinant 9 = .ok (.lstore_n 3, 1) := by decide +kernel
theorem dX5_determinant_10 : decode cX5_determinant 10 = .ok (.iconst 1, 1) := by decide +kernel
theorem dX5_determinant_11 : decode cX5_determinant 11 = .ok (.istore 5, 2) := by decide +kernel
theorem dX5_determinant_13 : decode cX5_determinant 13 = .ok (.iconst 0, 1) := by decide +kernel
theorem dX5_determinant_14 : decode cX5_determinant 14 = .ok (.istore 6, 2) := by decide +kernel
theorem dX5_determinant_16 : decode cX5_determinant 16 = .ok (.iload 6, 2) := by decide +kernel
theorem dX5_determinant_18 : decode cX5_determinant 18 = .ok (.aload_n 0, 1) := by decide +kernel
theorem dX5_determinant_19 : decode cX5_determinant 19 = .ok (.arraylength, 1) := by decide +kernel
theorem dX5_determinant_20 : decode cX5_determinant 20 = .ok (.if_icmp .ge 64, 3) := by decide +kernel
theorem dX5_determinant_23 : decode cX5_determinant 23 = .ok (.iload_n 2, 1) := by decide +kernel
theorem dX5_determinant_24 : decode cX5_determinant 24 = .ok (.iload 6, 2) := by decide +kernel
theorem dX5_determinant_26 : decode cX5_determinant 26 = .ok (.ishr, 1) := by decide +kernel
theorem dX5_determinant_27 : decode cX5_determinant 27 = .ok (.iconst 1, 1) := by decide +kernel
theorem dX5_determinant_28 : decode cX5_determinant 28 = .ok (.iand, 1) := by decide +kernel
theorem dX5_determinant_29 : decode cX5_determinant 29 = .ok (.ifCond .ne 6, 3) := by decide +kernel
theorem dX5_determinant_32 : decode cX5_determinant 32 = .ok (.goto 46, 3) := by decide +kernel
theorem dX5_determinant_35 : decode cX5_determinant 35 = .ok (.aload_n 0, 1) := by decide +kernel
theorem dX5_determinant_36 : decode cX5_determinant 36 = .ok (.iload_n 1, 1) := by decide +kernel
theorem dX5_determinant_37 : decode cX5_determinant 37 = .ok (.aaload, 1) := by decide +kernel
theorem dX5_determinant_38 : decode cX5_determinant 38 = .ok (.iload 6, 2) := by decide +kernel
theorem dX5_determinant_40 : decode cX5_determinant 40 = .ok (.iaload, 1) := by decide +kernel
theorem dX5_determinant_41 : decode cX5_determinant 41 = .ok (.ifCond .eq 32, 3) := by decide +kernel
theorem dX5_determinant_44 : decode cX5_determinant 44 = .ok (.lload_n 3, 1) := by decide +kernel
theorem dX5_determinant_45 : decode cX5_determinant 45 = .ok (.iload 5, 2) := by decide +kernel
theorem dX5_determinant_47 : decode cX5_determinant 47 = .ok (.aload_n 0, 1) := by decide +kernel
theorem dX5_determinant_48 : decode cX5_determinant 48 = .ok (.iload_n 1, 1) := by decide +kernel
theorem dX5_determinant_49 : decode cX5_determinant 49 = .ok (.aaload, 1) := by decide +kernel
theorem dX5_determinant_50 : decode cX5_determinant 50 = .ok (.iload 6, 2) := by decide +kernel
theorem dX5_determinant_52 : decode cX5_determinant 52 = .ok (.iaload, 1) := by decide +kernel
theorem dX5_determinant_53 : decode cX5_determinant 53 = .ok (.imul, 1) := by decide +kernel
theorem dX5_determinant_54 : decode cX5_determinant 54 = .ok (.i2l, 1) := by decide +kernel
theorem dX5_determinant_55 : decode cX5_determinant 55 = .ok (.aload_n 0, 1) := by decide +kernel
theorem dX5_determinant_56 : decode cX5_determinant 56 = .ok (.iload_n 1, 1) := by decide +kernel
theorem dX5_determinant_57 : decode cX5_determinant 57 = .ok (.iconst 1, 1) := by decide +kernel
theorem dX5_determinant_58 : decode cX5_determinant 58 = .ok (.iadd, 1) := by decide +kernel
theorem dX5_determinant_59 : decode cX5_determinant 59 = .ok (.iload_n 2, 1) := by decide +kernel
theorem dX5_determinant_60 : decode cX5_determinant 60 = .ok (.iconst 1, 1) := by decide +kernel
theorem dX5_determinant_61 : decode cX5_determinant 61 = .ok (.iload 6, 2) := by decide +kernel
theorem dX5_determinant_63 : decode cX5_determinant 63 = .ok (.ishl, 1) := by decide +kernel
theorem dX5_determinant_64 : decode cX5_determinant 64 = .ok (.iconst (-1), 1) := by decide +kernel
theorem dX5_determinant_65 : decode cX5_determinant 65 = .ok (.ixor, 1) := by decide +kernel
theorem dX5_determinant_66 : decode cX5_determinant 66 = .ok (.iand, 1) := by decide +kernel
theorem dX5_determinant_67 : decode cX5_determinant 67 = .ok (.invokestatic 148, 3) := by decide +kernel
theorem dX5_determinant_70 : decode cX5_determinant 70 = .ok (.lmul, 1) := by decide +kernel
theorem dX5_determinant_71 : decode cX5_determinant 71 = .ok (.ladd, 1) := by decide +kernel
theorem dX5_determinant_72 : decode cX5_determinant 72 = .ok (.lstore_n 3, 1) := by decide +kernel
theorem dX5_determinant_73 : decode cX5_determinant 73 = .ok (.iload 5, 2) := by decide +kernel
theorem dX5_determinant_75 : decode cX5_determinant 75 = .ok (.ineg, 1) := by decide +kernel
theorem dX5_determinant_76 : decode cX5_determinant 76 = .ok (.istore 5, 2) := by decide +kernel
theorem dX5_determinant_78 : decode cX5_determinant 78 = .ok (.iinc 6 1, 3) := by decide +kernel
theorem dX5_determinant_81 : decode cX5_determinant 81 = .ok (.goto (-65), 3) := by decide +kernel
theorem dX5_determinant_84 : decode cX5_determinant 84 = .ok (.lload_n 3, 1) := by decide +kernel
theorem dX5_determinant_85 : decode cX5_determinant 85 = .ok (.lreturn, 1) := by decide +kernel
set_option maxRecDepth 20000 in
theorem ggX5_counted_X5_degree : GoodIn wsX5_counted wsX5_degree := goodIn_r _ [9, 4, 13, 14, 15, 16, 17, 18, 19, 20, 21, 22, 23] (by decide +kernel) (by decide +kernel)
set_option maxRecDepth 20000 in
theorem gX5_counted_X5_degree : GoodIn wsX5_counted (wsV RX5 59 RX5 yX5_degree wsX5_degree) := goodIn_app (goodIn_of _ (by decide +kernel)) ggX5_counted_X5_degree
set_option maxRecDepth 20000 in
theorem ggX5_counted_X5_determinant : GoodIn wsX5_counted wsX5_determinant := goodIn_r _ [12, 10, 11, 8] (by decide +kernel) (by decide +kernel)
set_option maxRecDepth 20000 in
theorem gX5_counted_X5_determinant : GoodIn wsX5_counted (va_wsS RX5 148 yX5_determinant wsX5_determinant) := goodIn_app (goodIn_of _ (by decide +kernel)) ggX5_counted_X5_determinant
theorem dX5_counted_0 : decode cX5_counted 0 = .ok (.aload_n 0, 1) := by decide +kernel
theorem dX5_counted_1 : decode cX5_counted 1 = .ok (.getfield 42, 3) := by decide +kernel
theorem dX5_counted_4 : decode cX5_counted 4 = .ok (.anewarray 119, 3) := by decide +kernel
theorem dX5_counted_7 : decode cX5_counted 7 = .ok (.astore_n 1, 1) := by decide +kernel
theorem dX5_counted_8 : decode cX5_counted 8 = .ok (.iconst 0, 1) := by decide +kernel
theorem dX5_counted_9 : decode cX5_counted 9 = .ok (.istore_n 2, 1) := by decide +kernel
theorem dX5_counted_10 : decode cX5_counted 10 = .ok (.iload_n 2, 1) := by decide +kernel
theorem dX5_counted_11 : decode cX5_counted 11 = .ok (.aload_n 0, 1) := by decide +kernel
theorem dX5_counted_12 : decode cX5_counted 12 = .ok (.getfield 42, 3) := by decide +kernel
theorem dX5_counted_15 : decode cX5_counted 15 = .ok (.if_icmp .ge 61, 3) := by decide +kernel
theorem dX5_counted_18 : decode cX5_counted 18 = .ok (.aload_n 1, 1) := by decide +kernel
theorem dX5_counted_19 : decode cX5_counted 19 = .ok (.iload_n 2, 1) := by decide +kernel
theorem dX5_counted_20 : decode cX5_counted 20 = .ok (.aload_n 0, 1) := by decide +kernel
theorem dX5_counted_21 : decode cX5_counted 21 = .ok (.getfield 42, 3) := by decide +kernel
theorem dX5_counted_24 : decode cX5_counted 24 = .ok (.newarray .int, 2) := by decide +kernel
theorem dX5_counted_26 : decode cX5_counted 26 = .ok (.aastore, 1) := by decide +kernel
theorem dX5_counted_27 : decode cX5_counted 27 = .ok (.iconst 0, 1) := by decide +kernel
theorem dX5_counted_28 : decode cX5_counted 28 = .ok (.istore_n 3, 1) := by decide +kernel
theorem dX5_counted_29 : decode cX5_counted 29 = .ok (.iload_n 3, 1) := by decide +kernel
theorem dX5_counted_30 : decode cX5_counted 30 = .ok (.aload_n 0, 1) := by decide +kernel
theorem dX5_counted_31 : decode cX5_counted 31 = .ok (.getfield 42, 3) := by decide +kernel
theorem dX5_counted_34 : decode cX5_counted 34 = .ok (.if_icmp .ge 36, 3) := by decide +kernel
theorem dX5_counted_37 : decode cX5_counted 37 = .ok (.aload_n 1, 1) := by decide +kernel
theorem dX5_counted_38 : decode cX5_counted 38 = .ok (.iload_n 2, 1) := by decide +kernel
theorem dX5_counted_39 : decode cX5_counted 39 = .ok (.aaload, 1) := by decide +kernel
theorem dX5_counted_40 : decode cX5_counted 40 = .ok (.iload_n 3, 1) := by decide +kernel
theorem dX5_counted_41 : decode cX5_counted 41 = .ok (.iload_n 2, 1) := by decide +kernel
theorem dX5_counted_42 : decode cX5_counted 42 = .ok (.iload_n 3, 1) := by decide +kernel
theorem dX5_counted_43 : decode cX5_counted 43 = .ok (.if_icmp .ne 11, 3) := by decide +kernel
theorem dX5_counted_46 : decode cX5_counted 46 = .ok (.aload_n 0, 1) := by decide +kernel
theorem dX5_counted_47 : decode cX5_counted 47 = .ok (.iload_n 2, 1) := by decide +kernel
theorem dX5_counted_48 : decode cX5_counted 48 = .ok (.invokevirtual 59, 3) := by decide +kernel
theorem dX5_counted_51 : decode cX5_counted 51 = .ok (.goto 12, 3) := by decide +kernel
theorem dX5_counted_54 : decode cX5_counted 54 = .ok (.aload_n 0, 1) := by decide +kernel
theorem dX5_counted_55 : decode cX5_counted 55 = .ok (.getfield 11, 3) := by decide +kernel
theorem dX5_counted_58 : decode cX5_counted 58 = .ok (.iload_n 2, 1) := by decide +kernel
theorem dX5_counted_59 : decode cX5_counted 59 = .ok (.aaload, 1) := by decide +kernel
theorem dX5_counted_60 : decode cX5_counted 60 = .ok (.iload_n 3, 1) := by decide +kernel
theorem dX5_counted_61 : decode cX5_counted 61 = .ok (.iaload, 1) := by decide +kernel
theorem dX5_counted_62 : decode cX5_counted 62 = .ok (.ineg, 1) := by decide +kernel
theorem dX5_counted_63 : decode cX5_counted 63 = .ok (.iastore, 1) := by decide +kernel
theorem dX5_counted_64 : decode cX5_counted 64 = .ok (.iinc 3 1, 3) := by decide +kernel
theorem dX5_counted_67 : decode cX5_counted 67 = .ok (.goto (-38), 3) := by decide +kernel
theorem dX5_counted_70 : decode cX5_counted 70 = .ok (.iinc 2 1, 3) := by decide +kernel
theorem dX5_counted_73 : decode cX5_counted 73 = .ok (.goto (-63), 3) := by decide +kernel
theorem dX5_counted_76 : decode cX5_counted 76 = .ok (.aload_n 1, 1) := by decide +kernel
theorem dX5_counted_77 : decode cX5_counted 77 = .ok (.iconst 0, 1) := by decide +kernel
theorem dX5_counted_78 : decode cX5_counted 78 = .ok (.iconst 1, 1) := by decide +kernel
theorem dX5_counted_79 : decode cX5_counted 79 = .ok (.aload_n 0, 1) := by decide +kernel
theorem dX5_counted_80 : decode cX5_counted 80 = .ok (.getfield 42, 3) := by decide +kernel
theorem dX5_counted_83 : decode cX5_counted 83 = .ok (.ishl, 1) := by decide +kernel
theorem dX5_counted_84 : decode cX5_counted 84 = .ok (.iconst 1, 1) := by decide +kernel
theorem dX5_counted_85 : decode cX5_counted 85 = .ok (.isub, 1) := by decide +kernel
theorem dX5_counted_86 : decode cX5_counted 86 = .ok (.invokestatic 148, 3) := by decide +kernel
theorem dX5_counted_89 : decode cX5_counted 89 = .ok (.lreturn, 1) := by decide +kernel
set_option maxRecDepth 20000 in
theorem ggX5_count_X5_counted : GoodIn wsX5_count wsX5_counted := goodIn_r _ [6, 7, 8, 9, 10, 11, 12, 13, 5, 14, 15, 16, 17, 18, 19, 20, 21, 22, 23, 24, 25, 26, 27, 28] (by decide +kernel) (by decide +kernel)
set_option maxRecDepth 20000 in
theorem gX5_count_X5_counted : GoodIn wsX5_count (wsV RX5 152 RX5 yX5_counted wsX5_counted) := goodIn_app (goodIn_of _ (by decide +kernel)) ggX5_count_X5_counted
theorem dX5_count_0 : decode cX5_count 0 = .ok (.aload_n 0, 1) := by decide +kernel
theorem dX5_count_1 : decode cX5_count 1 = .ok (.iconst 0, 1) := by decide +kernel
theorem dX5_count_2 : decode cX5_count 2 = .ok (.putfield 34, 3) := by decide +kernel
theorem dX5_count_5 : decode cX5_count 5 = .ok (.aload_n 0, 1) := by decide +kernel
theorem dX5_count_6 : decode cX5_count 6 = .ok (.invokevirtual 152, 3) := by decide +kernel
theorem dX5_count_9 : decode cX5_count 9 = .ok (.lreturn, 1) := by decide +kernel
set_option maxRecDepth 20000 in
theorem ggX5_density_X5_sum : GoodIn wsX5_density wsX5_sum := goodIn_r _ [8] (by decide +kernel) (by decide +kernel)
set_option maxRecDepth 20000 in
theorem gX5_density_X5_sum : GoodIn wsX5_density (va_wsS RX5 78 yX5_sum wsX5_sum) := goodIn_app (goodIn_of _ (by decide +kernel)) ggX5_density_X5_sum
set_option maxRecDepth 20000 in
theorem ggX5_density_J9_rint_294c1 : GoodIn wsX5_density wsJ9_rint_294c1 := goodIn_r _ [12, 13, 14, 15, 16, 17, 18, 19, 11, 20, 21, 22, 23, 24, 25, 26, 27, 28, 29, 30, 31, 32] (by decide +kernel) (by decide +kernel)
set_option maxRecDepth 20000 in
theorem gX5_density_J9_rint_294c1 : GoodIn wsX5_density (va_wsS RX5 158 yJ9_rint_294c1 wsJ9_rint_294c1) := goodIn_app (goodIn_of _ (by decide +kernel)) ggX5_density_J9_rint_294c1
theorem dX5_density_0 : decode cX5_density 0 = .ok (.aload_n 0, 1) := by decide +kernel
theorem dX5_density_1 : decode cX5_density 1 = .ok (.iconst 0, 1) := by decide +kernel
theorem dX5_density_2 : decode cX5_density 2 = .ok (.putfield 34, 3) := by decide +kernel
theorem dX5_density_5 : decode cX5_density 5 = .ok (.aload_n 0, 1) := by decide +kernel
theorem dX5_density_6 : decode cX5_density 6 = .ok (.getfield 42, 3) := by decide +kernel
theorem dX5_density_9 : decode cX5_density 9 = .ok (.ifCond .ne 7, 3) := by decide +kernel
theorem dX5_density_12 : decode cX5_density 12 = .ok (.dconst 0, 1) := by decide +kernel
theorem dX5_density_13 : decode cX5_density 13 = .ok (.goto 28, 3) := by decide +kernel
theorem dX5_density_16 : decode cX5_density 16 = .ok (.ldc2_w 156, 3) := by decide +kernel
theorem dX5_density_19 : decode cX5_density 19 = .ok (.aload_n 0, 1) := by decide +kernel
theorem dX5_density_20 : decode cX5_density 20 = .ok (.getfield 14, 3) := by decide +kernel
theorem dX5_density_23 : decode cX5_density 23 = .ok (.invokestatic 78, 3) := by decide +kernel
theorem dX5_density_26 : decode cX5_density 26 = .ok (.i2d, 1) := by decide +kernel
theorem dX5_density_27 : decode cX5_density 27 = .ok (.aload_n 0, 1) := by decide +kernel
theorem dX5_density_28 : decode cX5_density 28 = .ok (.getfield 42, 3) := by decide +kernel
theorem dX5_density_31 : decode cX5_density 31 = .ok (.i2d, 1) := by decide +kernel
theorem dX5_density_32 : decode cX5_density 32 = .ok (.ddiv, 1) := by decide +kernel
theorem dX5_density_33 : decode cX5_density 33 = .ok (.dmul, 1) := by decide +kernel
theorem dX5_density_34 : decode cX5_density 34 = .ok (.invokestatic 158, 3) := by decide +kernel
theorem dX5_density_37 : decode cX5_density 37 = .ok (.ldc2_w 156, 3) := by decide +kernel
theorem dX5_density_40 : decode cX5_density 40 = .ok (.ddiv, 1) := by decide +kernel
theorem dX5_density_41 : decode cX5_density 41 = .ok (.dreturn, 1) := by decide +kernel
set_option maxRecDepth 20000 in
theorem ggX5_wouldDo_X5_copy : GoodIn wsX5_wouldDo wsX5_copy := goodIn_r _ [6, 7, 8, 9, 10, 11] (by decide +kernel) (by decide +kernel)
set_option maxRecDepth 20000 in
theorem gX5_wouldDo_X5_copy : GoodIn wsX5_wouldDo (va_wsS RX5 108 yX5_copy wsX5_copy) := goodIn_app (goodIn_of _ (by decide +kernel)) ggX5_wouldDo_X5_copy
set_option maxRecDepth 20000 in
theorem ggX5_wouldDo_X5_settled : GoodIn wsX5_wouldDo wsX5_settled := goodIn_r _ [15, 7, 16, 17, 18, 5, 19, 2, 20, 21, 22, 23, 24, 25, 26, 27, 28, 29, 30, 31, 32, 43, 44, 45, 46, 47, 48, 49, 50, 51, 52, 53] (by decide +kernel) (by decide +kernel)
set_option maxRecDepth 20000 in
theorem gX5_wouldDo_X5_settled : GoodIn wsX5_wouldDo (wsV RX5 91 RX5 yX5_settled wsX5_settled) := goodIn_app (goodIn_of _ (by decide +kernel)) ggX5_wouldDo_X5_settled
set_option maxRecDepth 20000 in
theorem ggX5_wouldDo_X5_one : GoodIn wsX5_wouldDo wsX5_one := goodIn_r _ [35] (by decide +kernel) (by decide +kernel)
set_option maxRecDepth 20000 in
theorem gX5_wouldDo_X5_one : GoodIn wsX5_wouldDo (va_wsS RX5 135 yX5_one wsX5_one) := goodIn_app (goodIn_of _ (by decide +kernel)) ggX5_wouldDo_X5_one
set_option maxRecDepth 20000 in
theorem ggX5_wouldDo_X5_sum : GoodIn wsX5_wouldDo wsX5_sum := goodIn_r _ [38] (by decide +kernel) (by decide +kernel)
set_option maxRecDepth 20000 in
theorem gX5_wouldDo_X5_sum : GoodIn wsX5_wouldDo (va_wsS RX5 78 yX5_sum wsX5_sum) := goodIn_app (goodIn_of _ (by decide +kernel)) ggX5_wouldDo_X5_sum
set_option maxRecDepth 20000 in
theorem ggX5_wouldDo_X5_swallowedBy : GoodIn wsX5_wouldDo wsX5_swallowedBy := goodIn_r _ [42, 2, 28, 43, 44, 45, 46, 47, 48, 49, 50, 51, 52, 53] (by decide +kernel) (by decide +kernel)
set_option maxRecDepth 20000 in
theorem gX5_wouldDo_X5_swallowedBy : GoodIn wsX5_wouldDo (wsV RX5 84 RX5 yX5_swallowedBy wsX5_swallowedBy) := goodIn_app (goodIn_of _ (by decide +kernel)) ggX5_wouldDo_X5_swallowedBy
theorem dX5_wouldDo_0 : decode cX5_wouldDo 0 = .ok (.aload_n 0, 1) := by decide +kernel
theorem dX5_wouldDo_1 : decode cX5_wouldDo 1 = .ok (.getfield 14, 3) := by decide +kernel
theorem dX5_wouldDo_4 : decode cX5_wouldDo 4 = .ok (.invokestatic 108, 3) := by decide +kernel
theorem dX5_wouldDo_7 : decode cX5_wouldDo 7 = .ok (.astore 4, 2) := by decide +kernel
theorem dX5_wouldDo_9 : decode cX5_wouldDo 9 = .ok (.aload 4, 2) := by decide +kernel
theorem dX5_wouldDo_11 : decode cX5_wouldDo 11 = .ok (.iload_n 1, 1) := by decide +kernel
theorem dX5_wouldDo_12 : decode cX5_wouldDo 12 = .ok (.dup2, 1) := by decide +kernel
theorem dX5_wouldDo_13 : decode cX5_wouldDo 13 = .ok (.iaload, 1) := by decide +kernel
theorem dX5_wouldDo_14 : decode cX5_wouldDo 14 = .ok (.iload_n 2, 1) := by decide +kernel
theorem dX5_wouldDo_15 : decode cX5_wouldDo 15 = .ok (.iadd, 1) := by decide +kernel
theorem dX5_wouldDo_16 : decode cX5_wouldDo 16 = .ok (.iastore, 1) := by decide +kernel
theorem dX5_wouldDo_17 : decode cX5_wouldDo 17 = .ok (.aload_n 0, 1) := by decide +kernel
theorem dX5_wouldDo_18 : decode cX5_wouldDo 18 = .ok (.aload 4, 2) := by decide +kernel
theorem dX5_wouldDo_20 : decode cX5_wouldDo 20 = .ok (.invokevirtual 91, 3) := by decide +kernel
theorem dX5_wouldDo_23 : decode cX5_wouldDo 23 = .ok (.astore 5, 2) := by decide +kernel
theorem dX5_wouldDo_25 : decode cX5_wouldDo 25 = .ok (.iconst 0, 1) := by decide +kernel
theorem dX5_wouldDo_26 : decode cX5_wouldDo 26 = .ok (.istore 6, 2) := by decide +kernel
theorem dX5_wouldDo_28 : decode cX5_wouldDo 28 = .ok (.iconst 0, 1) := by decide +kernel
theorem dX5_wouldDo_29 : decode cX5_wouldDo 29 = .ok (.istore 7, 2) := by decide +kernel
theorem dX5_wouldDo_31 : decode cX5_wouldDo 31 = .ok (.iload 7, 2) := by decide +kernel
theorem dX5_wouldDo_33 : decode cX5_wouldDo 33 = .ok (.aload_n 0, 1) := by decide +kernel
theorem dX5_wouldDo_34 : decode cX5_wouldDo 34 = .ok (.getfield 42, 3) := by decide +kernel
theorem dX5_wouldDo_37 : decode cX5_wouldDo 37 = .ok (.if_icmp .ge 33, 3) := by decide +kernel
theorem dX5_wouldDo_40 : decode cX5_wouldDo 40 = .ok (.iload 6, 2) := by decide +kernel
theorem dX5_wouldDo_42 : decode cX5_wouldDo 42 = .ok (.aload 5, 2) := by decide +kernel
theorem dX5_wouldDo_44 : decode cX5_wouldDo 44 = .ok (.iload 7, 2) := by decide +kernel
theorem dX5_wouldDo_46 : decode cX5_wouldDo 46 = .ok (.iaload, 1) := by decide +kernel
theorem dX5_wouldDo_47 : decode cX5_wouldDo 47 = .ok (.ifCond .le 7, 3) := by decide +kernel
theorem dX5_wouldDo_50 : decode cX5_wouldDo 50 = .ok (.iconst 1, 1) := by decide +kernel
theorem dX5_wouldDo_51 : decode cX5_wouldDo 51 = .ok (.goto 4, 3) := by decide +kernel
theorem dX5_wouldDo_54 : decode cX5_wouldDo 54 = .ok (.iconst 0, 1) := by decide +kernel
theorem dX5_wouldDo_55 : decode cX5_wouldDo 55 = .ok (.invokestatic 135, 3) := by decide +kernel
theorem dX5_wouldDo_58 : decode cX5_wouldDo 58 = .ok (.iload 7, 2) := by decide +kernel
theorem dX5_wouldDo_60 : decode cX5_wouldDo 60 = .ok (.ishl, 1) := by decide +kernel
theorem dX5_wouldDo_61 : decode cX5_wouldDo 61 = .ok (.ior, 1) := by decide +kernel
theorem dX5_wouldDo_62 : decode cX5_wouldDo 62 = .ok (.istore 6, 2) := by decide +kernel
theorem dX5_wouldDo_64 : decode cX5_wouldDo 64 = .ok (.iinc 7 1, 3) := by decide +kernel
theorem dX5_wouldDo_67 : decode cX5_wouldDo 67 = .ok (.goto (-36), 3) := by decide +kernel
theorem dX5_wouldDo_70 : decode cX5_wouldDo 70 = .ok (.iload_n 3, 1) := by decide +kernel
theorem dX5_wouldDo_71 : decode cX5_wouldDo 71 = .ok (.ifCond .ne 11, 3) := by decide +kernel
theorem dX5_wouldDo_74 : decode cX5_wouldDo 74 = .ok (.aload 5, 2) := by decide +kernel
theorem dX5_wouldDo_76 : decode cX5_wouldDo 76 = .ok (.invokestatic 78, 3) := by decide +kernel
theorem dX5_wouldDo_79 : decode cX5_wouldDo 79 = .ok (.goto 19, 3) := by decide +kernel
theorem dX5_wouldDo_82 : decode cX5_wouldDo 82 = .ok (.iload_n 3, 1) := by decide +kernel
theorem dX5_wouldDo_83 : decode cX5_wouldDo 83 = .ok (.iconst 1, 1) := by decide +kernel
theorem dX5_wouldDo_84 : decode cX5_wouldDo 84 = .ok (.if_icmp .ne 12, 3) := by decide +kernel
theorem dX5_wouldDo_87 : decode cX5_wouldDo 87 = .ok (.aload_n 0, 1) := by decide +kernel
theorem dX5_wouldDo_88 : decode cX5_wouldDo 88 = .ok (.aload 5, 2) := by decide +kernel
theorem dX5_wouldDo_90 : decode cX5_wouldDo 90 = .ok (.invokevirtual 84, 3) := by decide +kernel
theorem dX5_wouldDo_93 : decode cX5_wouldDo 93 = .ok (.goto 5, 3) := by decide +kernel
theorem dX5_wouldDo_96 : decode cX5_wouldDo 96 = .ok (.iload 6, 2) := by decide +kernel
theorem dX5_wouldDo_98 : decode cX5_wouldDo 98 = .ok (.ireturn, 1) := by decide +kernel
set_option maxRecDepth 20000 in
theorem ggX5_would_X5_isNoSpot : GoodIn wsX5_would wsX5_isNoSpot := goodIn_r _ [5, 6, 7, 8, 4, 9, 68, 69, 70, 71, 72, 73, 74, 75, 76, 77, 78] (by decide +kernel) (by decide +kernel)
set_option maxRecDepth 20000 in
theorem gX5_would_X5_isNoSpot : GoodIn wsX5_would (wsV RX5 49 RX5 yX5_isNoSpot wsX5_isNoSpot) := goodIn_app (goodIn_of _ (by decide +kernel)) ggX5_would_X5_isNoSpot
set_option maxRecDepth 20000 in
theorem ggX5_would_X5_start : GoodIn wsX5_would wsX5_start := goodIn_r _ [13, 14, 15, 16, 17, 4, 18, 68, 69, 70, 71, 72, 73, 74, 75, 76, 77, 78] (by decide +kernel) (by decide +kernel)
set_option maxRecDepth 20000 in
theorem gX5_would_X5_start : GoodIn wsX5_would (wsV RX5 53 RX5 yX5_start wsX5_start) := goodIn_app (goodIn_of _ (by decide +kernel)) ggX5_would_X5_start
set_option maxRecDepth 20000 in
theorem ggX5_would_X5_isIn : GoodIn wsX5_would wsX5_isIn := goodIn_r _ [9] (by decide +kernel) (by decide +kernel)
set_option maxRecDepth 20000 in
theorem gX5_would_X5_isIn : GoodIn wsX5_would (va_wsS RX5 45 yX5_isIn wsX5_isIn) := goodIn_app (goodIn_of _ (by decide +kernel)) ggX5_would_X5_isIn
set_option maxRecDepth 20000 in
theorem ggX5_would_X5_refuse : GoodIn wsX5_would wsX5_refuse := goodIn_r _ [18, 14, 68, 69, 70, 71, 72, 73, 74, 75, 76, 77, 78] (by decide +kernel) (by decide +kernel)
set_option maxRecDepth 20000 in
theorem gX5_would_X5_refuse : GoodIn wsX5_would (wsV RX5 38 RX5 yX5_refuse wsX5_refuse) := goodIn_app (goodIn_of _ (by decide +kernel)) ggX5_would_X5_refuse
set_option maxRecDepth 20000 in
theorem ggX5_would_X5_isFast : GoodIn wsX5_would wsX5_isFast := goodIn_r _ [22, 23, 24, 6, 68, 69, 70, 71, 72, 73, 74, 75, 76, 77, 78] (by decide +kernel) (by decide +kernel)
set_option maxRecDepth 20000 in
theorem gX5_would_X5_isFast : GoodIn wsX5_would (wsV RX5 87 RX5 yX5_isFast wsX5_isFast) := goodIn_app (goodIn_of _ (by decide +kernel)) ggX5_would_X5_isFast
set_option maxRecDepth 20000 in
theorem ggX5_would_X5_wouldDo : GoodIn wsX5_would wsX5_wouldDo := goodIn_r _ [28, 29, 6, 30, 31, 4, 32, 33, 34, 35, 36, 37, 38, 39, 40, 41, 42, 43, 44, 45, 46, 47, 48, 49, 50, 51, 52, 53, 24, 54, 55, 56, 57, 58, 59, 60, 61, 62, 63, 64, 65, 66, 67, 68, 69, 70, 71, 72, 73, 74, 75, 76, 77, 78] (by decide +kernel) (by decide +kernel)
set_option maxRecDepth 20000 in
theorem gX5_would_X5_wouldDo : GoodIn wsX5_would (wsV RX5 164 RX5 yX5_wouldDo wsX5_wouldDo) := goodIn_app (goodIn_of _ (by decide +kernel)) ggX5_would_X5_wouldDo
theorem dX5_would_0 : decode cX5_would 0 = .ok (.aload_n 0, 1) := by decide +kernel
theorem dX5_would_1 : decode cX5_would 1 = .ok (.aload_n 0, 1) := by decide +kernel
theorem dX5_would_2 : decode cX5_would 2 = .ok (.iload_n 1, 1) := by decide +kernel
theorem dX5_would_3 : decode cX5_would 3 = .ok (.invokevirtual 49, 3) := by decide +kernel
theorem dX5_would_6 : decode cX5_would 6 = .ok (.iconst 1, 1) := by decide +kernel
theorem dX5_would_7 : decode cX5_would 7 = .ok (.invokevirtual 53, 3) := by decide +kernel
theorem dX5_would_10 : decode cX5_would 10 = .ok (.ifCond .ne 55, 3) := by decide +kernel
theorem dX5_would_13 : decode cX5_would 13 = .ok (.aload_n 0, 1) := by decide +kernel
theorem dX5_would_14 : decode cX5_would 14 = .ok (.iload_n 2, 1) := by decide +kernel
theorem dX5_would_15 : decode cX5_would 15 = .ok (.iconst 0, 1) := by decide +kernel
theorem dX5_would_16 : decode cX5_would 16 = .ok (.bipush 40, 2) := by decide +kernel
theorem dX5_would_18 : decode cX5_would 18 = .ok (.invokestatic 45, 3) := by decide +kernel
theorem dX5_would_21 : decode cX5_would 21 = .ok (.ifCond .eq 12, 3) := by decide +kernel
theorem dX5_would_24 : decode cX5_would 24 = .ok (.iload_n 3, 1) := by decide +kernel
theorem dX5_would_25 : decode cX5_would 25 = .ok (.iconst 0, 1) := by decide +kernel
theorem dX5_would_26 : decode cX5_would 26 = .ok (.iconst 2, 1) := by decide +kernel
theorem dX5_would_27 : decode cX5_would 27 = .ok (.invokestatic 45, 3) := by decide +kernel
theorem dX5_would_30 : decode cX5_would 30 = .ok (.ifCond .ne 7, 3) := by decide +kernel
theorem dX5_would_33 : decode cX5_would 33 = .ok (.iconst 1, 1) := by decide +kernel
theorem dX5_would_34 : decode cX5_would 34 = .ok (.goto 4, 3) := by decide +kernel
theorem dX5_would_37 : decode cX5_would 37 = .ok (.iconst 0, 1) := by decide +kernel
theorem dX5_would_38 : decode cX5_would 38 = .ok (.iconst 2, 1) := by decide +kernel
theorem dX5_would_39 : decode cX5_would 39 = .ok (.invokevirtual 38, 3) := by decide +kernel
theorem dX5_would_42 : decode cX5_would 42 = .ok (.ifCond .ne 23, 3) := by decide +kernel
theorem dX5_would_45 : decode cX5_would 45 = .ok (.aload_n 0, 1) := by decide +kernel
theorem dX5_would_46 : decode cX5_would 46 = .ok (.aload_n 0, 1) := by decide +kernel
theorem dX5_would_47 : decode cX5_would 47 = .ok (.invokevirtual 87, 3) := by decide +kernel
theorem dX5_would_50 : decode cX5_would 50 = .ok (.ifCond .ne 7, 3) := by decide +kernel
theorem dX5_would_53 : decode cX5_would 53 = .ok (.iconst 1, 1) := by decide +kernel
theorem dX5_would_54 : decode cX5_would 54 = .ok (.goto 4, 3) := by decide +kernel
theorem dX5_would_57 : decode cX5_would 57 = .ok (.iconst 0, 1) := by decide +kernel
theorem dX5_would_58 : decode cX5_would 58 = .ok (.iconst 3, 1) := by decide +kernel
theorem dX5_would_59 : decode cX5_would 59 = .ok (.invokevirtual 38, 3) := by decide +kernel
theorem dX5_would_62 : decode cX5_would 62 = .ok (.ifCond .eq 5, 3) := by decide +kernel
theorem dX5_would_65 : decode cX5_would 65 = .ok (.iconst 0, 1) := by decide +kernel
theorem dX5_would_66 : decode cX5_would 66 = .ok (.ireturn, 1) := by decide +kernel
theorem dX5_would_67 : decode cX5_would 67 = .ok (.aload_n 0, 1) := by decide +kernel
theorem dX5_would_68 : decode cX5_would 68 = .ok (.iload_n 1, 1) := by decide +kernel
theorem dX5_would_69 : decode cX5_would 69 = .ok (.iload_n 2, 1) := by decide +kernel
theorem dX5_would_70 : decode cX5_would 70 = .ok (.iload_n 3, 1) := by decide +kernel
theorem dX5_would_71 : decode cX5_would 71 = .ok (.invokevirtual 164, 3) := by decide +kernel
theorem dX5_would_74 : decode cX5_would 74 = .ok (.ireturn, 1) := by decide +kernel
set_option maxRecDepth 20000 in
theorem ggX5_isKeptOn_X5_steepest : GoodIn wsX5_isKeptOn wsX5_steepest := goodIn_r _ [8, 2, 9, 10, 11, 7, 12, 13, 14, 15, 16, 3, 33, 34, 35, 36, 37, 38, 39, 40, 41, 42, 43] (by decide +kernel) (by decide +kernel)
set_option maxRecDepth 20000 in
theorem gX5_isKeptOn_X5_steepest : GoodIn wsX5_isKeptOn (wsV RX5 67 RX5 yX5_steepest wsX5_steepest) := goodIn_app (goodIn_of _ (by decide +kernel)) ggX5_isKeptOn_X5_steepest
set_option maxRecDepth 20000 in
theorem ggX5_isKeptOn_X5_copy : GoodIn wsX5_isKeptOn wsX5_copy := goodIn_r _ [19, 20, 21, 22, 23, 24] (by decide +kernel) (by decide +kernel)
set_option maxRecDepth 20000 in
theorem gX5_isKeptOn_X5_copy : GoodIn wsX5_isKeptOn (va_wsS RX5 108 yX5_copy wsX5_copy) := goodIn_app (goodIn_of _ (by decide +kernel)) ggX5_isKeptOn_X5_copy
set_option maxRecDepth 20000 in
theorem ggX5_isKeptOn_X5_settled : GoodIn wsX5_isKeptOn wsX5_settled := goodIn_r _ [28, 20, 4, 5, 6, 7, 8, 2, 9, 10, 11, 12, 13, 14, 15, 16, 3, 29, 30, 31, 32, 33, 34, 35, 36, 37, 38, 39, 40, 41, 42, 43] (by decide +kernel) (by decide +kernel)
set_option maxRecDepth 20000 in
theorem gX5_isKeptOn_X5_settled : GoodIn wsX5_isKeptOn (wsV RX5 91 RX5 yX5_settled wsX5_settled) := goodIn_app (goodIn_of _ (by decide +kernel)) ggX5_isKeptOn_X5_settled
theorem dX5_isKeptOn_0 : decode cX5_isKeptOn 0 = .ok (.aload_n 0, 1) := by decide +kernel
theorem dX5_isKeptOn_1 : decode cX5_isKeptOn 1 = .ok (.aload_n 0, 1) := by decide +kernel
theorem dX5_isKeptOn_2 : decode cX5_isKeptOn 2 = .ok (.getfield 14, 3) := by decide +kernel
theorem dX5_isKeptOn_5 : decode cX5_isKeptOn 5 = .ok (.invokevirtual 67, 3) := by decide +kernel
theorem dX5_isKeptOn_8 : decode cX5_isKeptOn 8 = .ok (.iconst (-1), 1) := by decide +kernel
theorem dX5_isKeptOn_9 : decode cX5_isKeptOn 9 = .ok (.if_icmp .eq 5, 3) := by decide +kernel
theorem dX5_isKeptOn_12 : decode cX5_isKeptOn 12 = .ok (.iconst 0, 1) := by decide +kernel
theorem dX5_isKeptOn_13 : decode cX5_isKeptOn 13 = .ok (.ireturn, 1) := by decide +kernel
theorem dX5_isKeptOn_14 : decode cX5_isKeptOn 14 = .ok (.aload_n 0, 1) := by decide +kernel
theorem dX5_isKeptOn_15 : decode cX5_isKeptOn 15 = .ok (.getfield 14, 3) := by decide +kernel
theorem dX5_isKeptOn_18 : decode cX5_isKeptOn 18 = .ok (.invokestatic 108, 3) := by decide +kernel
theorem dX5_isKeptOn_21 : decode cX5_isKeptOn 21 = .ok (.astore_n 1, 1) := by decide +kernel
theorem dX5_isKeptOn_22 : decode cX5_isKeptOn 22 = .ok (.iconst 0, 1) := by decide +kernel
theorem dX5_isKeptOn_23 : decode cX5_isKeptOn 23 = .ok (.istore_n 2, 1) := by decide +kernel
theorem dX5_isKeptOn_24 : decode cX5_isKeptOn 24 = .ok (.iload_n 2, 1) := by decide +kernel
theorem dX5_isKeptOn_25 : decode cX5_isKeptOn 25 = .ok (.aload_n 0, 1) := by decide +kernel
theorem dX5_isKeptOn_26 : decode cX5_isKeptOn 26 = .ok (.getfield 42, 3) := by decide +kernel
theorem dX5_isKeptOn_29 : decode cX5_isKeptOn 29 = .ok (.if_icmp .ge 24, 3) := by decide +kernel
theorem dX5_isKeptOn_32 : decode cX5_isKeptOn 32 = .ok (.aload_n 1, 1) := by decide +kernel
theorem dX5_isKeptOn_33 : decode cX5_isKeptOn 33 = .ok (.iload_n 2, 1) := by decide +kernel
theorem dX5_isKeptOn_34 : decode cX5_isKeptOn 34 = .ok (.dup2, 1) := by decide +kernel
theorem dX5_isKeptOn_35 : decode cX5_isKeptOn 35 = .ok (.iaload, 1) := by decide +kernel
theorem dX5_isKeptOn_36 : decode cX5_isKeptOn 36 = .ok (.aload_n 0, 1) := by decide +kernel
theorem dX5_isKeptOn_37 : decode cX5_isKeptOn 37 = .ok (.getfield 11, 3) := by decide +kernel
theorem dX5_isKeptOn_40 : decode cX5_isKeptOn 40 = .ok (.iload_n 2, 1) := by decide +kernel
theorem dX5_isKeptOn_41 : decode cX5_isKeptOn 41 = .ok (.aaload, 1) := by decide +kernel
theorem dX5_isKeptOn_42 : decode cX5_isKeptOn 42 = .ok (.bipush 6, 2) := by decide +kernel
theorem dX5_isKeptOn_44 : decode cX5_isKeptOn 44 = .ok (.iaload, 1) := by decide +kernel
theorem dX5_isKeptOn_45 : decode cX5_isKeptOn 45 = .ok (.iadd, 1) := by decide +kernel
theorem dX5_isKeptOn_46 : decode cX5_isKeptOn 46 = .ok (.iastore, 1) := by decide +kernel
theorem dX5_isKeptOn_47 : decode cX5_isKeptOn 47 = .ok (.iinc 2 1, 3) := by decide +kernel
theorem dX5_isKeptOn_50 : decode cX5_isKeptOn 50 = .ok (.goto (-26), 3) := by decide +kernel
theorem dX5_isKeptOn_53 : decode cX5_isKeptOn 53 = .ok (.aload_n 0, 1) := by decide +kernel
theorem dX5_isKeptOn_54 : decode cX5_isKeptOn 54 = .ok (.aload_n 1, 1) := by decide +kernel
theorem dX5_isKeptOn_55 : decode cX5_isKeptOn 55 = .ok (.invokevirtual 91, 3) := by decide +kernel
theorem dX5_isKeptOn_58 : decode cX5_isKeptOn 58 = .ok (.astore_n 2, 1) := by decide +kernel
theorem dX5_isKeptOn_59 : decode cX5_isKeptOn 59 = .ok (.iconst 0, 1) := by decide +kernel
theorem dX5_isKeptOn_60 : decode cX5_isKeptOn 60 = .ok (.istore_n 3, 1) := by decide +kernel
theorem dX5_isKeptOn_61 : decode cX5_isKeptOn 61 = .ok (.iload_n 3, 1) := by decide +kernel
theorem dX5_isKeptOn_62 : decode cX5_isKeptOn 62 = .ok (.aload_n 0, 1) := by decide +kernel
theorem dX5_isKeptOn_63 : decode cX5_isKeptOn 63 = .ok (.getfield 42, 3) := by decide +kernel
theorem dX5_isKeptOn_66 : decode cX5_isKeptOn 66 = .ok (.if_icmp .ge 18, 3) := by decide +kernel
theorem dX5_isKeptOn_69 : decode cX5_isKeptOn 69 = .ok (.aload_n 2, 1) := by decide +kernel
theorem dX5_isKeptOn_70 : decode cX5_isKeptOn 70 = .ok (.iload_n 3, 1) := by decide +kernel
theorem dX5_isKeptOn_71 : decode cX5_isKeptOn 71 = .ok (.iaload, 1) := by decide +kernel
theorem dX5_isKeptOn_72 : decode cX5_isKeptOn 72 = .ok (.iconst 1, 1) := by decide +kernel
theorem dX5_isKeptOn_73 : decode cX5_isKeptOn 73 = .ok (.if_icmp .eq 5, 3) := by decide +kernel
theorem dX5_isKeptOn_76 : decode cX5_isKeptOn 76 = .ok (.iconst 0, 1) := by decide +kernel
theorem dX5_isKeptOn_77 : decode cX5_isKeptOn 77 = .ok (.ireturn, 1) := by decide +kernel
theorem dX5_isKeptOn_78 : decode cX5_isKeptOn 78 = .ok (.iinc 3 1, 3) := by decide +kernel
theorem dX5_isKeptOn_81 : decode cX5_isKeptOn 81 = .ok (.goto (-20), 3) := by decide +kernel
theorem dX5_isKeptOn_84 : decode cX5_isKeptOn 84 = .ok (.iconst 1, 1) := by decide +kernel
theorem dX5_isKeptOn_85 : decode cX5_isKeptOn 85 = .ok (.ireturn, 1) := by decide +kernel
set_option maxRecDepth 20000 in
theorem ggX5_isLasting_X5_isFast : GoodIn wsX5_isLasting wsX5_isFast := goodIn_r _ [5, 6, 7, 8, 51, 52, 53, 54, 55, 56, 57, 58, 59, 60, 61] (by decide +kernel) (by decide +kernel)
set_option maxRecDepth 20000 in
theorem gX5_isLasting_X5_isFast : GoodIn wsX5_isLasting (wsV RX5 87 RX5 yX5_isFast wsX5_isFast) := goodIn_app (goodIn_of _ (by decide +kernel)) ggX5_isLasting_X5_isFast
set_option maxRecDepth 20000 in
theorem ggX5_isLasting_X5_start : GoodIn wsX5_isLasting wsX5_start := goodIn_r _ [12, 13, 14, 15, 16, 4, 17, 51, 52, 53, 54, 55, 56, 57, 58, 59, 60, 61] (by decide +kernel) (by decide +kernel)
set_option maxRecDepth 20000 in
theorem gX5_isLasting_X5_start : GoodIn wsX5_isLasting (wsV RX5 53 RX5 yX5_start wsX5_start) := goodIn_app (goodIn_of _ (by decide +kernel)) ggX5_isLasting_X5_start
set_option maxRecDepth 20000 in
theorem ggX5_isLasting_X5_isKeptOn : GoodIn wsX5_isLasting wsX5_isKeptOn := goodIn_r _ [21, 22, 8, 7, 23, 24, 25, 4, 26, 27, 28, 29, 30, 31, 32, 33, 34, 35, 36, 37, 38, 39, 40, 41, 42, 43, 44, 45, 46, 47, 48, 49, 50, 51, 52, 53, 54, 55, 56, 57, 58, 59, 60, 61] (by decide +kernel) (by decide +kernel)
set_option maxRecDepth 20000 in
theorem gX5_isLasting_X5_isKeptOn : GoodIn wsX5_isLasting (wsV RX5 168 RX5 yX5_isKeptOn wsX5_isKeptOn) := goodIn_app (goodIn_of _ (by decide +kernel)) ggX5_isLasting_X5_isKeptOn
theorem dX5_isLasting_0 : decode cX5_isLasting 0 = .ok (.aload_n 0, 1) := by decide +kernel
theorem dX5_isLasting_1 : decode cX5_isLasting 1 = .ok (.aload_n 0, 1) := by decide +kernel
theorem dX5_isLasting_2 : decode cX5_isLasting 2 = .ok (.invokevirtual 87, 3) := by decide +kernel
theorem dX5_isLasting_5 : decode cX5_isLasting 5 = .ok (.ifCond .ne 7, 3) := by decide +kernel
theorem dX5_isLasting_8 : decode cX5_isLasting 8 = .ok (.iconst 1, 1) := by decide +kernel
theorem dX5_isLasting_9 : decode cX5_isLasting 9 = .ok (.goto 4, 3) := by decide +kernel
theorem dX5_isLasting_12 : decode cX5_isLasting 12 = .ok (.iconst 0, 1) := by decide +kernel
theorem dX5_isLasting_13 : decode cX5_isLasting 13 = .ok (.iconst 1, 1) := by decide +kernel
theorem dX5_isLasting_14 : decode cX5_isLasting 14 = .ok (.invokevirtual 53, 3) := by decide +kernel
theorem dX5_isLasting_17 : decode cX5_isLasting 17 = .ok (.ifCond .ne 14, 3) := by decide +kernel
theorem dX5_isLasting_20 : decode cX5_isLasting 20 = .ok (.aload_n 0, 1) := by decide +kernel
theorem dX5_isLasting_21 : decode cX5_isLasting 21 = .ok (.invokevirtual 168, 3) := by decide +kernel
theorem dX5_isLasting_24 : decode cX5_isLasting 24 = .ok (.ifCond .eq 7, 3) := by decide +kernel
theorem dX5_isLasting_27 : decode cX5_isLasting 27 = .ok (.iconst 1, 1) := by decide +kernel
theorem dX5_isLasting_28 : decode cX5_isLasting 28 = .ok (.goto 4, 3) := by decide +kernel
theorem dX5_isLasting_31 : decode cX5_isLasting 31 = .ok (.iconst 0, 1) := by decide +kernel
theorem dX5_isLasting_32 : decode cX5_isLasting 32 = .ok (.ireturn, 1) := by decide +kernel
set_option maxRecDepth 20000 in
theorem ggX5_neutral_X5_degree : GoodIn wsX5_neutral wsX5_degree := goodIn_r _ [7, 8, 32, 33, 34, 35, 36, 37, 38, 39, 40, 41, 42] (by decide +kernel) (by decide +kernel)
set_option maxRecDepth 20000 in
theorem gX5_neutral_X5_degree : GoodIn wsX5_neutral (wsV RX5 59 RX5 yX5_degree wsX5_degree) := goodIn_app (goodIn_of _ (by decide +kernel)) ggX5_neutral_X5_degree
set_option maxRecDepth 20000 in
theorem ggX5_neutral_X5_copy : GoodIn wsX5_neutral wsX5_copy := goodIn_r _ [11, 1, 12, 13, 14, 15] (by decide +kernel) (by decide +kernel)
set_option maxRecDepth 20000 in
theorem gX5_neutral_X5_copy : GoodIn wsX5_neutral (va_wsS RX5 108 yX5_copy wsX5_copy) := goodIn_app (goodIn_of _ (by decide +kernel)) ggX5_neutral_X5_copy
set_option maxRecDepth 20000 in
theorem ggX5_neutral_X5_settled : GoodIn wsX5_neutral wsX5_settled := goodIn_r _ [19, 1, 20, 21, 22, 6, 23, 2, 24, 25, 26, 27, 3, 4, 5, 7, 8, 28, 29, 30, 31, 32, 33, 34, 35, 36, 37, 38, 39, 40, 41, 42] (by decide +kernel) (by decide +kernel)
set_option maxRecDepth 20000 in
theorem gX5_neutral_X5_settled : GoodIn wsX5_neutral (wsV RX5 91 RX5 yX5_settled wsX5_settled) := goodIn_app (goodIn_of _ (by decide +kernel)) ggX5_neutral_X5_settled
theorem dX5_neutral_0 : decode cX5_neutral 0 = .ok (.bipush 6, 2) := by decide +kernel
theorem dX5_neutral_2 : decode cX5_neutral 2 = .ok (.newarray .int, 2) := by decide +kernel
theorem dX5_neutral_4 : decode cX5_neutral 4 = .ok (.astore_n 1, 1) := by decide +kernel
theorem dX5_neutral_5 : decode cX5_neutral 5 = .ok (.iconst 0, 1) := by decide +kernel
theorem dX5_neutral_6 : decode cX5_neutral 6 = .ok (.istore_n 2, 1) := by decide +kernel
theorem dX5_neutral_7 : decode cX5_neutral 7 = .ok (.iload_n 2, 1) := by decide +kernel
theorem dX5_neutral_8 : decode cX5_neutral 8 = .ok (.aload_n 0, 1) := by decide +kernel
theorem dX5_neutral_9 : decode cX5_neutral 9 = .ok (.getfield 42, 3) := by decide +kernel
theorem dX5_neutral_12 : decode cX5_neutral 12 = .ok (.if_icmp .ge 21, 3) := by decide +kernel
theorem dX5_neutral_15 : decode cX5_neutral 15 = .ok (.aload_n 1, 1) := by decide +kernel
theorem dX5_neutral_16 : decode cX5_neutral 16 = .ok (.iload_n 2, 1) := by decide +kernel
theorem dX5_neutral_17 : decode cX5_neutral 17 = .ok (.iconst 2, 1) := by decide +kernel
theorem dX5_neutral_18 : decode cX5_neutral 18 = .ok (.aload_n 0, 1) := by decide +kernel
theorem dX5_neutral_19 : decode cX5_neutral 19 = .ok (.iload_n 2, 1) := by decide +kernel
theorem dX5_neutral_20 : decode cX5_neutral 20 = .ok (.invokevirtual 59, 3) := by decide +kernel
theorem dX5_neutral_23 : decode cX5_neutral 23 = .ok (.iconst 1, 1) := by decide +kernel
theorem dX5_neutral_24 : decode cX5_neutral 24 = .ok (.isub, 1) := by decide +kernel
theorem dX5_neutral_25 : decode cX5_neutral 25 = .ok (.imul, 1) := by decide +kernel
theorem dX5_neutral_26 : decode cX5_neutral 26 = .ok (.iastore, 1) := by decide +kernel
theorem dX5_neutral_27 : decode cX5_neutral 27 = .ok (.iinc 2 1, 3) := by decide +kernel
theorem dX5_neutral_30 : decode cX5_neutral 30 = .ok (.goto (-23), 3) := by decide +kernel
theorem dX5_neutral_33 : decode cX5_neutral 33 = .ok (.aload_n 1, 1) := by decide +kernel
theorem dX5_neutral_34 : decode cX5_neutral 34 = .ok (.invokestatic 108, 3) := by decide +kernel
theorem dX5_neutral_37 : decode cX5_neutral 37 = .ok (.astore_n 2, 1) := by decide +kernel
theorem dX5_neutral_38 : decode cX5_neutral 38 = .ok (.aload_n 0, 1) := by decide +kernel
theorem dX5_neutral_39 : decode cX5_neutral 39 = .ok (.aload_n 2, 1) := by decide +kernel
theorem dX5_neutral_40 : decode cX5_neutral 40 = .ok (.invokevirtual 91, 3) := by decide +kernel
theorem dX5_neutral_43 : decode cX5_neutral 43 = .ok (.pop, 1) := by decide +kernel
theorem dX5_neutral_44 : decode cX5_neutral 44 = .ok (.iconst 0, 1) := by decide +kernel
theorem dX5_neutral_45 : decode cX5_neutral 45 = .ok (.istore_n 3, 1) := by decide +kernel
theorem dX5_neutral_46 : decode cX5_neutral 46 = .ok (.iload_n 3, 1) := by decide +kernel
theorem dX5_neutral_47 : decode cX5_neutral 47 = .ok (.aload_n 0, 1) := by decide +kernel
theorem dX5_neutral_48 : decode cX5_neutral 48 = .ok (.getfield 42, 3) := by decide +kernel
theorem dX5_neutral_51 : decode cX5_neutral 51 = .ok (.if_icmp .ge 18, 3) := by decide +kernel
theorem dX5_neutral_54 : decode cX5_neutral 54 = .ok (.aload_n 1, 1) := by decide +kernel
theorem dX5_neutral_55 : decode cX5_neutral 55 = .ok (.iload_n 3, 1) := by decide +kernel
theorem dX5_neutral_56 : decode cX5_neutral 56 = .ok (.dup2, 1) := by decide +kernel
theorem dX5_neutral_57 : decode cX5_neutral 57 = .ok (.iaload, 1) := by decide +kernel
theorem dX5_neutral_58 : decode cX5_neutral 58 = .ok (.aload_n 2, 1) := by decide +kernel
theorem dX5_neutral_59 : decode cX5_neutral 59 = .ok (.iload_n 3, 1) := by decide +kernel
theorem dX5_neutral_60 : decode cX5_neutral 60 = .ok (.iaload, 1) := by decide +kernel
theorem dX5_neutral_61 : decode cX5_neutral 61 = .ok (.isub, 1) := by decide +kernel
theorem dX5_neutral_62 : decode cX5_neutral 62 = .ok (.iastore, 1) := by decide +kernel
theorem dX5_neutral_63 : decode cX5_neutral 63 = .ok (.iinc 3 1, 3) := by decide +kernel
theorem dX5_neutral_66 : decode cX5_neutral 66 = .ok (.goto (-20), 3) := by decide +kernel
theorem dX5_neutral_69 : decode cX5_neutral 69 = .ok (.aload_n 0, 1) := by decide +kernel
theorem dX5_neutral_70 : decode cX5_neutral 70 = .ok (.aload_n 1, 1) := by decide +kernel
theorem dX5_neutral_71 : decode cX5_neutral 71 = .ok (.invokevirtual 91, 3) := by decide +kernel
theorem dX5_neutral_74 : decode cX5_neutral 74 = .ok (.pop, 1) := by decide +kernel
theorem dX5_neutral_75 : decode cX5_neutral 75 = .ok (.aload_n 1, 1) := by decide +kernel
theorem dX5_neutral_76 : decode cX5_neutral 76 = .ok (.areturn, 1) := by decide +kernel
set_option maxRecDepth 20000 in
theorem ggX5_neutral__X5_isNoSpot : GoodIn wsX5_neutral_ wsX5_isNoSpot := goodIn_r _ [5, 6, 7, 8, 4, 9, 57, 58, 59, 60, 61, 62, 63, 64, 65, 66, 67] (by decide +kernel) (by decide +kernel)
set_option maxRecDepth 20000 in
theorem gX5_neutral__X5_isNoSpot : GoodIn wsX5_neutral_ (wsV RX5 49 RX5 yX5_isNoSpot wsX5_isNoSpot) := goodIn_app (goodIn_of _ (by decide +kernel)) ggX5_neutral__X5_isNoSpot
set_option maxRecDepth 20000 in
theorem ggX5_neutral__X5_start : GoodIn wsX5_neutral_ wsX5_start := goodIn_r _ [13, 14, 15, 16, 17, 4, 18, 57, 58, 59, 60, 61, 62, 63, 64, 65, 66, 67] (by decide +kernel) (by decide +kernel)
set_option maxRecDepth 20000 in
theorem gX5_neutral__X5_start : GoodIn wsX5_neutral_ (wsV RX5 53 RX5 yX5_start wsX5_start) := goodIn_app (goodIn_of _ (by decide +kernel)) ggX5_neutral__X5_start
set_option maxRecDepth 20000 in
theorem ggX5_neutral__X5_isFast : GoodIn wsX5_neutral_ wsX5_isFast := goodIn_r _ [22, 23, 24, 6, 57, 58, 59, 60, 61, 62, 63, 64, 65, 66, 67] (by decide +kernel) (by decide +kernel)
set_option maxRecDepth 20000 in
theorem gX5_neutral__X5_isFast : GoodIn wsX5_neutral_ (wsV RX5 87 RX5 yX5_isFast wsX5_isFast) := goodIn_app (goodIn_of _ (by decide +kernel)) ggX5_neutral__X5_isFast
set_option maxRecDepth 20000 in
theorem ggX5_neutral__X5_refuse : GoodIn wsX5_neutral_ wsX5_refuse := goodIn_r _ [18, 14, 57, 58, 59, 60, 61, 62, 63, 64, 65, 66, 67] (by decide +kernel) (by decide +kernel)
set_option maxRecDepth 20000 in
theorem gX5_neutral__X5_refuse : GoodIn wsX5_neutral_ (wsV RX5 38 RX5 yX5_refuse wsX5_refuse) := goodIn_app (goodIn_of _ (by decide +kernel)) ggX5_neutral__X5_refuse
set_option maxRecDepth 20000 in
theorem ggX5_neutral__X5_neutral : GoodIn wsX5_neutral_ wsX5_neutral := goodIn_r _ [28, 29, 6, 30, 31, 32, 4, 33, 24, 34, 35, 36, 37, 38, 39, 40, 41, 42, 43, 44, 45, 46, 47, 48, 49, 50, 51, 52, 53, 54, 55, 56, 57, 58, 59, 60, 61, 62, 63, 64, 65, 66, 67] (by decide +kernel) (by decide +kernel)
set_option maxRecDepth 20000 in
theorem gX5_neutral__X5_neutral : GoodIn wsX5_neutral_ (wsV RX5 171 RX5 yX5_neutral wsX5_neutral) := goodIn_app (goodIn_of _ (by decide +kernel)) ggX5_neutral__X5_neutral
theorem dX5_neutral__0 : decode cX5_neutral_ 0 = .ok (.aload_n 0, 1) := by decide +kernel
theorem dX5_neutral__1 : decode cX5_neutral_ 1 = .ok (.aload_n 0, 1) := by decide +kernel
theorem dX5_neutral__2 : decode cX5_neutral_ 2 = .ok (.iload_n 1, 1) := by decide +kernel
theorem dX5_neutral__3 : decode cX5_neutral_ 3 = .ok (.invokevirtual 49, 3) := by decide +kernel
theorem dX5_neutral__6 : decode cX5_neutral_ 6 = .ok (.iconst 1, 1) := by decide +kernel
theorem dX5_neutral__7 : decode cX5_neutral_ 7 = .ok (.invokevirtual 53, 3) := by decide +kernel
theorem dX5_neutral__10 : decode cX5_neutral_ 10 = .ok (.ifCond .ne 23, 3) := by decide +kernel
theorem dX5_neutral__13 : decode cX5_neutral_ 13 = .ok (.aload_n 0, 1) := by decide +kernel
theorem dX5_neutral__14 : decode cX5_neutral_ 14 = .ok (.aload_n 0, 1) := by decide +kernel
theorem dX5_neutral__15 : decode cX5_neutral_ 15 = .ok (.invokevirtual 87, 3) := by decide +kernel
theorem dX5_neutral__18 : decode cX5_neutral_ 18 = .ok (.ifCond .ne 7, 3) := by decide +kernel
theorem dX5_neutral__21 : decode cX5_neutral_ 21 = .ok (.iconst 1, 1) := by decide +kernel
theorem dX5_neutral__22 : decode cX5_neutral_ 22 = .ok (.goto 4, 3) := by decide +kernel
theorem dX5_neutral__25 : decode cX5_neutral_ 25 = .ok (.iconst 0, 1) := by decide +kernel
theorem dX5_neutral__26 : decode cX5_neutral_ 26 = .ok (.iconst 2, 1) := by decide +kernel
theorem dX5_neutral__27 : decode cX5_neutral_ 27 = .ok (.invokevirtual 38, 3) := by decide +kernel
theorem dX5_neutral__30 : decode cX5_neutral_ 30 = .ok (.ifCond .eq 7, 3) := by decide +kernel
theorem dX5_neutral__33 : decode cX5_neutral_ 33 = .ok (.iconst 0, 1) := by decide +kernel
theorem dX5_neutral__34 : decode cX5_neutral_ 34 = .ok (.goto 9, 3) := by decide +kernel
theorem dX5_neutral__37 : decode cX5_neutral_ 37 = .ok (.aload_n 0, 1) := by decide +kernel
theorem dX5_neutral__38 : decode cX5_neutral_ 38 = .ok (.invokevirtual 171, 3) := by decide +kernel
theorem dX5_neutral__41 : decode cX5_neutral_ 41 = .ok (.iload_n 1, 1) := by decide +kernel
theorem dX5_neutral__42 : decode cX5_neutral_ 42 = .ok (.iaload, 1) := by decide +kernel
theorem dX5_neutral__43 : decode cX5_neutral_ 43 = .ok (.ireturn, 1) := by decide +kernel
theorem dX5_burnt_0 : decode cX5_burnt 0 = .ok (.iconst 0, 1) := by decide +kernel
theorem dX5_burnt_1 : decode cX5_burnt 1 = .ok (.istore_n 1, 1) := by decide +kernel
theorem dX5_burnt_2 : decode cX5_burnt 2 = .ok (.bipush 64, 2) := by decide +kernel
theorem dX5_burnt_4 : decode cX5_burnt 4 = .ok (.istore_n 2, 1) := by decide +kernel
theorem dX5_burnt_5 : decode cX5_burnt 5 = .ok (.iconst 0, 1) := by decide +kernel
theorem dX5_burnt_6 : decode cX5_burnt 6 = .ok (.istore_n 3, 1) := by decide +kernel
theorem dX5_burnt_7 : decode cX5_burnt 7 = .ok (.iload_n 3, 1) := by decide +kernel
theorem dX5_burnt_8 : decode cX5_burnt 8 = .ok (.aload_n 0, 1) := by decide +kernel
theorem dX5_burnt_9 : decode cX5_burnt 9 = .ok (.getfield 42, 3) := by decide +kernel
theorem dX5_burnt_12 : decode cX5_burnt 12 = .ok (.if_icmp .ge 113, 3) := by decide +kernel
theorem dX5_burnt_15 : decode cX5_burnt 15 = .ok (.iconst 0, 1) := by decide +kernel
theorem dX5_burnt_16 : decode cX5_burnt 16 = .ok (.istore 4, 2) := by decide +kernel
theorem dX5_burnt_18 : decode cX5_burnt 18 = .ok (.iload 4, 2) := by decide +kernel
theorem dX5_burnt_20 : decode cX5_burnt 20 = .ok (.aload_n 0, 1) := by decide +kernel
theorem dX5_burnt_21 : decode cX5_burnt 21 = .ok (.getfield 42, 3) := by decide +kernel
theorem dX5_burnt_24 : decode cX5_burnt 24 = .ok (.if_icmp .ge 95, 3) := by decide +kernel
theorem dX5_burnt_27 : decode cX5_burnt 27 = .ok (.iconst 0, 1) := by decide +kernel
theorem dX5_burnt_28 : decode cX5_burnt 28 = .ok (.istore 5, 2) := by decide +kernel
theorem dX5_burnt_30 : decode cX5_burnt 30 = .ok (.iconst 0, 1) := by decide +kernel
theorem dX5_burnt_31 : decode cX5_burnt 31 = .ok (.istore 6, 2) := by decide +kernel
theorem dX5_burnt_33 : decode cX5_burnt 33 = .ok (.iload 6, 2) := by decide +kernel
theorem dX5_burnt_35 : decode cX5_burnt 35 = .ok (.bipush 7, 2) := by decide +kernel
theorem dX5_burnt_37 : decode cX5_burnt 37 = .ok (.if_icmp .ge 31, 3) := by decide +kernel
theorem dX5_burnt_40 : decode cX5_burnt 40 = .ok (.iload 5, 2) := by decide +kernel
theorem dX5_burnt_42 : decode cX5_burnt 42 = .ok (.iload_n 2, 1) := by decide +kernel
theorem dX5_burnt_43 : decode cX5_burnt 43 = .ok (.iload 6, 2) := by decide +kernel
theorem dX5_burnt_45 : decode cX5_burnt 45 = .ok (.ishr, 1) := by decide +kernel
theorem dX5_burnt_46 : decode cX5_burnt 46 = .ok (.iconst 1, 1) := by decide +kernel
theorem dX5_burnt_47 : decode cX5_burnt 47 = .ok (.iand, 1) := by decide +kernel
theorem dX5_burnt_48 : decode cX5_burnt 48 = .ok (.aload_n 0, 1) := by decide +kernel
theorem dX5_burnt_49 : decode cX5_burnt 49 = .ok (.getfield 11, 3) := by decide +kernel
theorem dX5_burnt_52 : decode cX5_burnt 52 = .ok (.iload 4, 2) := by decide +kernel
theorem dX5_burnt_54 : decode cX5_burnt 54 = .ok (.aaload, 1) := by decide +kernel
theorem dX5_burnt_55 : decode cX5_burnt 55 = .ok (.iload 6, 2) := by decide +kernel
theorem dX5_burnt_57 : decode cX5_burnt 57 = .ok (.iaload, 1) := by decide +kernel
theorem dX5_burnt_58 : decode cX5_burnt 58 = .ok (.imul, 1) := by decide +kernel
theorem dX5_burnt_59 : decode cX5_burnt 59 = .ok (.iadd, 1) := by decide +kernel
theorem dX5_burnt_60 : decode cX5_burnt 60 = .ok (.istore 5, 2) := by decide +kernel
theorem dX5_burnt_62 : decode cX5_burnt 62 = .ok (.iinc 6 1, 3) := by decide +kernel
theorem dX5_burnt_65 : decode cX5_burnt 65 = .ok (.goto (-32), 3) := by decide +kernel
theorem dX5_burnt_68 : decode cX5_burnt 68 = .ok (.iload_n 2, 1) := by decide +kernel
theorem dX5_burnt_69 : decode cX5_burnt 69 = .ok (.iload 4, 2) := by decide +kernel
theorem dX5_burnt_71 : decode cX5_burnt 71 = .ok (.ishr, 1) := by decide +kernel
theorem dX5_burnt_72 : decode cX5_burnt 72 = .ok (.iconst 1, 1) := by decide +kernel
theorem dX5_burnt_73 : decode cX5_burnt 73 = .ok (.iand, 1) := by decide +kernel
theorem dX5_burnt_74 : decode cX5_burnt 74 = .ok (.iconst 1, 1) := by decide +kernel
theorem dX5_burnt_75 : decode cX5_burnt 75 = .ok (.if_icmp .eq 38, 3) := by decide +kernel
theorem dX5_burnt_78 : decode cX5_burnt 78 = .ok (.iload 5, 2) := by decide +kernel
theorem dX5_burnt_80 : decode cX5_burnt 80 = .ok (.aload_n 0, 1) := by decide +kernel
theorem dX5_burnt_81 : decode cX5_burnt 81 = .ok (.getfield 14, 3) := by decide +kernel
theorem dX5_burnt_84 : decode cX5_burnt 84 = .ok (.iload 4, 2) := by decide +kernel
theorem dX5_burnt_86 : decode cX5_burnt 86 = .ok (.iaload, 1) := by decide +kernel
theorem dX5_burnt_87 : decode cX5_burnt 87 = .ok (.if_icmp .gt 6, 3) := by decide +kernel
theorem dX5_burnt_90 : decode cX5_burnt 90 = .ok (.goto 23, 3) := by decide +kernel
theorem dX5_burnt_93 : decode cX5_burnt 93 = .ok (.iload_n 2, 1) := by decide +kernel
theorem dX5_burnt_94 : decode cX5_burnt 94 = .ok (.iconst 1, 1) := by decide +kernel
theorem dX5_burnt_95 : decode cX5_burnt 95 = .ok (.iload 4, 2) := by decide +kernel
theorem dX5_burnt_97 : decode cX5_burnt 97 = .ok (.ishl, 1) := by decide +kernel
theorem dX5_burnt_98 : decode cX5_burnt 98 = .ok (.ior, 1) := by decide +kernel
theorem dX5_burnt_99 : decode cX5_burnt 99 = .ok (.istore_n 2, 1) := by decide +kernel
theorem dX5_burnt_100 : decode cX5_burnt 100 = .ok (.bipush 10, 2) := by decide +kernel
theorem dX5_burnt_102 : decode cX5_burnt 102 = .ok (.iload_n 1, 1) := by decide +kernel
theorem dX5_burnt_103 : decode cX5_burnt 103 = .ok (.imul, 1) := by decide +kernel
theorem dX5_burnt_104 : decode cX5_burnt 104 = .ok (.iload 4, 2) := by decide +kernel
theorem dX5_burnt_106 : decode cX5_burnt 106 = .ok (.iadd, 1) := by decide +kernel
theorem dX5_burnt_107 : decode cX5_burnt 107 = .ok (.iconst 1, 1) := by decide +kernel
theorem dX5_burnt_108 : decode cX5_burnt 108 = .ok (.iadd, 1) := by decide +kernel
theorem dX5_burnt_109 : decode cX5_burnt 109 = .ok (.istore_n 1, 1) := by decide +kernel
theorem dX5_burnt_110 : decode cX5_burnt 110 = .ok (.goto 9, 3) := by decide +kernel
theorem dX5_burnt_113 : decode cX5_burnt 113 = .ok (.iinc 4 1, 3) := by decide +kernel
theorem dX5_burnt_116 : decode cX5_burnt 116 = .ok (.goto (-98), 3) := by decide +kernel
theorem dX5_burnt_119 : decode cX5_burnt 119 = .ok (.iinc 3 1, 3) := by decide +kernel
theorem dX5_burnt_122 : decode cX5_burnt 122 = .ok (.goto (-115), 3) := by decide +kernel
theorem dX5_burnt_125 : decode cX5_burnt 125 = .ok (.iload_n 1, 1) := by decide +kernel
theorem dX5_burnt_126 : decode cX5_burnt 126 = .ok (.ireturn, 1) := by decide +kernel
set_option maxRecDepth 20000 in
theorem ggX5_fire_X5_burnt : GoodIn wsX5_fire wsX5_burnt := goodIn_r _ [6, 7, 8, 9, 10, 11, 12, 13, 14, 15, 16, 17, 18, 19, 20] (by decide +kernel) (by decide +kernel)
set_option maxRecDepth 20000 in
theorem gX5_fire_X5_burnt : GoodIn wsX5_fire (wsV RX5 175 RX5 yX5_burnt wsX5_burnt) := goodIn_app (goodIn_of _ (by decide +kernel)) ggX5_fire_X5_burnt
theorem dX5_fire_0 : decode cX5_fire 0 = .ok (.aload_n 0, 1) := by decide +kernel
theorem dX5_fire_1 : decode cX5_fire 1 = .ok (.iconst 0, 1) := by decide +kernel
theorem dX5_fire_2 : decode cX5_fire 2 = .ok (.putfield 34, 3) := by decide +kernel
theorem dX5_fire_5 : decode cX5_fire 5 = .ok (.aload_n 0, 1) := by decide +kernel
theorem dX5_fire_6 : decode cX5_fire 6 = .ok (.invokevirtual 175, 3) := by decide +kernel
theorem dX5_fire_9 : decode cX5_fire 9 = .ok (.ireturn, 1) := by decide +kernel
theorem dX5_isSame_0 : decode cX5_isSame 0 = .ok (.iconst 0, 1) := by decide +kernel
theorem dX5_isSame_1 : decode cX5_isSame 1 = .ok (.istore_n 2, 1) := by decide +kernel
theorem dX5_isSame_2 : decode cX5_isSame 2 = .ok (.iload_n 2, 1) := by decide +kernel
theorem dX5_isSame_3 : decode cX5_isSame 3 = .ok (.bipush 6, 2) := by decide +kernel
theorem dX5_isSame_5 : decode cX5_isSame 5 = .ok (.if_icmp .ge 20, 3) := by decide +kernel
theorem dX5_isSame_8 : decode cX5_isSame 8 = .ok (.aload_n 0, 1) := by decide +kernel
theorem dX5_isSame_9 : decode cX5_isSame 9 = .ok (.iload_n 2, 1) := by decide +kernel
theorem dX5_isSame_10 : decode cX5_isSame 10 = .ok (.iaload, 1) := by decide +kernel
theorem dX5_isSame_11 : decode cX5_isSame 11 = .ok (.aload_n 1, 1) := by decide +kernel
theorem dX5_isSame_12 : decode cX5_isSame 12 = .ok (.iload_n 2, 1) := by decide +kernel
theorem dX5_isSame_13 : decode cX5_isSame 13 = .ok (.iaload, 1) := by decide +kernel
theorem dX5_isSame_14 : decode cX5_isSame 14 = .ok (.if_icmp .eq 5, 3) := by decide +kernel
theorem dX5_isSame_17 : decode cX5_isSame 17 = .ok (.iconst 0, 1) := by decide +kernel
theorem dX5_isSame_18 : decode cX5_isSame 18 = .ok (.ireturn, 1) := by decide +kernel
theorem dX5_isSame_19 : decode cX5_isSame 19 = .ok (.iinc 2 1, 3) := by decide +kernel
theorem dX5_isSame_22 : decode cX5_isSame 22 = .ok (.goto (-20), 3) := by decide +kernel
theorem dX5_isSame_25 : decode cX5_isSame 25 = .ok (.iconst 1, 1) := by decide +kernel
theorem dX5_isSame_26 : decode cX5_isSame 26 = .ok (.ireturn, 1) := by decide +kernel
set_option maxRecDepth 20000 in
theorem ggX5_order_X5_isFast : GoodIn wsX5_order wsX5_isFast := goodIn_r _ [6, 7, 8, 9, 57, 58, 59, 60, 61, 62, 63, 64, 65, 66, 67] (by decide +kernel) (by decide +kernel)
set_option maxRecDepth 20000 in
theorem gX5_order_X5_isFast : GoodIn wsX5_order (wsV RX5 87 RX5 yX5_isFast wsX5_isFast) := goodIn_app (goodIn_of _ (by decide +kernel)) ggX5_order_X5_isFast
set_option maxRecDepth 20000 in
theorem ggX5_order_X5_start : GoodIn wsX5_order wsX5_start := goodIn_r _ [13, 14, 15, 16, 17, 5, 18, 57, 58, 59, 60, 61, 62, 63, 64, 65, 66, 67] (by decide +kernel) (by decide +kernel)
set_option maxRecDepth 20000 in
theorem gX5_order_X5_start : GoodIn wsX5_order (wsV RX5 53 RX5 yX5_start wsX5_start) := goodIn_app (goodIn_of _ (by decide +kernel)) ggX5_order_X5_start
set_option maxRecDepth 20000 in
theorem ggX5_order_X5_neutral : GoodIn wsX5_order wsX5_neutral := goodIn_r _ [22, 23, 9, 24, 25, 26, 5, 27, 8, 28, 29, 30, 31, 32, 33, 34, 35, 36, 37, 38, 39, 40, 41, 42, 43, 44, 45, 46, 47, 48, 49, 50, 57, 58, 59, 60, 61, 62, 63, 64, 65, 66, 67] (by decide +kernel) (by decide +kernel)
set_option maxRecDepth 20000 in
theorem gX5_order_X5_neutral : GoodIn wsX5_order (wsV RX5 171 RX5 yX5_neutral wsX5_neutral) := goodIn_app (goodIn_of _ (by decide +kernel)) ggX5_order_X5_neutral
set_option maxRecDepth 20000 in
theorem ggX5_order_X5_plus : GoodIn wsX5_order wsX5_plus := goodIn_r _ [53, 23] (by decide +kernel) (by decide +kernel)
set_option maxRecDepth 20000 in
theorem gX5_order_X5_plus : GoodIn wsX5_order (va_wsS RX5 120 yX5_plus wsX5_plus) := goodIn_app (goodIn_of _ (by decide +kernel)) ggX5_order_X5_plus
set_option maxRecDepth 20000 in
theorem ggX5_order_X5_settled : GoodIn wsX5_order wsX5_settled := goodIn_r _ [38, 23, 39, 40, 41, 5, 42, 9, 43, 44, 45, 46, 24, 25, 26, 27, 8, 47, 48, 49, 50, 57, 58, 59, 60, 61, 62, 63, 64, 65, 66, 67] (by decide +kernel) (by decide +kernel)
set_option maxRecDepth 20000 in
theorem gX5_order_X5_settled : GoodIn wsX5_order (wsV RX5 91 RX5 yX5_settled wsX5_settled) := goodIn_app (goodIn_of _ (by decide +kernel)) ggX5_order_X5_settled
set_option maxRecDepth 20000 in
theorem ggX5_order_X5_isSame : GoodIn wsX5_order wsX5_isSame := goodIn_r _ [56] (by decide +kernel) (by decide +kernel)
set_option maxRecDepth 20000 in
theorem gX5_order_X5_isSame : GoodIn wsX5_order (va_wsS RX5 178 yX5_isSame wsX5_isSame) := goodIn_app (goodIn_of _ (by decide +kernel)) ggX5_order_X5_isSame
theorem dX5_order_0 : decode cX5_order 0 = .ok (.aload_n 0, 1) := by decide +kernel
theorem dX5_order_1 : decode cX5_order 1 = .ok (.aload_n 0, 1) := by decide +kernel
theorem dX5_order_2 : decode cX5_order 2 = .ok (.invokevirtual 87, 3) := by decide +kernel
theorem dX5_order_5 : decode cX5_order 5 = .ok (.ifCond .ne 7, 3) := by decide +kernel
theorem dX5_order_8 : decode cX5_order 8 = .ok (.iconst 1, 1) := by decide +kernel
theorem dX5_order_9 : decode cX5_order 9 = .ok (.goto 4, 3) := by decide +kernel
theorem dX5_order_12 : decode cX5_order 12 = .ok (.iconst 0, 1) := by decide +kernel
theorem dX5_order_13 : decode cX5_order 13 = .ok (.iconst 1, 1) := by decide +kernel
theorem dX5_order_14 : decode cX5_order 14 = .ok (.invokevirtual 53, 3) := by decide +kernel
theorem dX5_order_17 : decode cX5_order 17 = .ok (.ifCond .eq 5, 3) := by decide +kernel
theorem dX5_order_20 : decode cX5_order 20 = .ok (.iconst 0, 1) := by decide +kernel
theorem dX5_order_21 : decode cX5_order 21 = .ok (.ireturn, 1) := by decide +kernel
theorem dX5_order_22 : decode cX5_order 22 = .ok (.aload_n 0, 1) := by decide +kernel
theorem dX5_order_23 : decode cX5_order 23 = .ok (.invokevirtual 171, 3) := by decide +kernel
theorem dX5_order_26 : decode cX5_order 26 = .ok (.astore_n 1, 1) := by decide +kernel
theorem dX5_order_27 : decode cX5_order 27 = .ok (.aload_n 1, 1) := by decide +kernel
theorem dX5_order_28 : decode cX5_order 28 = .ok (.astore_n 2, 1) := by decide +kernel
theorem dX5_order_29 : decode cX5_order 29 = .ok (.iconst 1, 1) := by decide +kernel
theorem dX5_order_30 : decode cX5_order 30 = .ok (.istore_n 3, 1) := by decide +kernel
theorem dX5_order_31 : decode cX5_order 31 = .ok (.iload_n 3, 1) := by decide +kernel
theorem dX5_order_32 : decode cX5_order 32 = .ok (.bipush 100, 2) := by decide +kernel
theorem dX5_order_34 : decode cX5_order 34 = .ok (.if_icmp .gt 34, 3) := by decide +kernel
theorem dX5_order_37 : decode cX5_order 37 = .ok (.aload_n 2, 1) := by decide +kernel
theorem dX5_order_38 : decode cX5_order 38 = .ok (.aload_n 0, 1) := by decide +kernel
theorem dX5_order_39 : decode cX5_order 39 = .ok (.getfield 14, 3) := by decide +kernel
theorem dX5_order_42 : decode cX5_order 42 = .ok (.invokestatic 120, 3) := by decide +kernel
theorem dX5_order_45 : decode cX5_order 45 = .ok (.astore_n 2, 1) := by decide +kernel
theorem dX5_order_46 : decode cX5_order 46 = .ok (.aload_n 0, 1) := by decide +kernel
theorem dX5_order_47 : decode cX5_order 47 = .ok (.aload_n 2, 1) := by decide +kernel
theorem dX5_order_48 : decode cX5_order 48 = .ok (.invokevirtual 91, 3) := by decide +kernel
theorem dX5_order_51 : decode cX5_order 51 = .ok (.pop, 1) := by decide +kernel
theorem dX5_order_52 : decode cX5_order 52 = .ok (.aload_n 2, 1) := by decide +kernel
theorem dX5_order_53 : decode cX5_order 53 = .ok (.aload_n 1, 1) := by decide +kernel
theorem dX5_order_54 : decode cX5_order 54 = .ok (.invokestatic 178, 3) := by decide +kernel
theorem dX5_order_57 : decode cX5_order 57 = .ok (.ifCond .eq 5, 3) := by decide +kernel
theorem dX5_order_60 : decode cX5_order 60 = .ok (.iload_n 3, 1) := by decide +kernel
theorem dX5_order_61 : decode cX5_order 61 = .ok (.ireturn, 1) := by decide +kernel
theorem dX5_order_62 : decode cX5_order 62 = .ok (.iinc 3 1, 3) := by decide +kernel
theorem dX5_order_65 : decode cX5_order 65 = .ok (.goto (-34), 3) := by decide +kernel
theorem dX5_order_68 : decode cX5_order 68 = .ok (.iconst (-1), 1) := by decide +kernel
theorem dX5_order_69 : decode cX5_order 69 = .ok (.ireturn, 1) := by decide +kernel
set_option maxRecDepth 20000 in
theorem ggX5_canPay_X5_isFast : GoodIn wsX5_canPay wsX5_isFast := goodIn_r _ [6, 7, 8, 9, 39, 40, 41, 42, 43, 44, 45, 46, 47, 48, 49] (by decide +kernel) (by decide +kernel)
set_option maxRecDepth 20000 in
theorem gX5_canPay_X5_isFast : GoodIn wsX5_canPay (wsV RX5 87 RX5 yX5_isFast wsX5_isFast) := goodIn_app (goodIn_of _ (by decide +kernel)) ggX5_canPay_X5_isFast
set_option maxRecDepth 20000 in
theorem ggX5_canPay_X5_start : GoodIn wsX5_canPay wsX5_start := goodIn_r _ [13, 14, 15, 16, 17, 5, 18, 39, 40, 41, 42, 43, 44, 45, 46, 47, 48, 49] (by decide +kernel) (by decide +kernel)
set_option maxRecDepth 20000 in
theorem gX5_canPay_X5_start : GoodIn wsX5_canPay (wsV RX5 53 RX5 yX5_start wsX5_start) := goodIn_app (goodIn_of _ (by decide +kernel)) ggX5_canPay_X5_start
set_option maxRecDepth 20000 in
theorem ggX5_canPay_X5_isPaid : GoodIn wsX5_canPay wsX5_isPaid := goodIn_r _ [22, 9, 7, 8, 23, 24, 5, 25, 26, 27, 28, 29, 30, 31, 32, 33, 34, 35, 36, 37, 38, 39, 40, 41, 42, 43, 44, 45, 46, 47, 48, 49] (by decide +kernel) (by decide +kernel)
set_option maxRecDepth 20000 in
theorem gX5_canPay_X5_isPaid : GoodIn wsX5_canPay (wsV RX5 182 RX5 yX5_isPaid wsX5_isPaid) := goodIn_app (goodIn_of _ (by decide +kernel)) ggX5_canPay_X5_isPaid
theorem dX5_canPay_0 : decode cX5_canPay 0 = .ok (.aload_n 0, 1) := by decide +kernel
theorem dX5_canPay_1 : decode cX5_canPay 1 = .ok (.aload_n 0, 1) := by decide +kernel
theorem dX5_canPay_2 : decode cX5_canPay 2 = .ok (.invokevirtual 87, 3) := by decide +kernel
theorem dX5_canPay_5 : decode cX5_canPay 5 = .ok (.ifCond .ne 7, 3) := by decide +kernel
theorem dX5_canPay_8 : decode cX5_canPay 8 = .ok (.iconst 1, 1) := by decide +kernel
theorem dX5_canPay_9 : decode cX5_canPay 9 = .ok (.goto 4, 3) := by decide +kernel
theorem dX5_canPay_12 : decode cX5_canPay 12 = .ok (.iconst 0, 1) := by decide +kernel
theorem dX5_canPay_13 : decode cX5_canPay 13 = .ok (.iconst 1, 1) := by decide +kernel
theorem dX5_canPay_14 : decode cX5_canPay 14 = .ok (.invokevirtual 53, 3) := by decide +kernel
theorem dX5_canPay_17 : decode cX5_canPay 17 = .ok (.ifCond .ne 18, 3) := by decide +kernel
theorem dX5_canPay_20 : decode cX5_canPay 20 = .ok (.aload_n 0, 1) := by decide +kernel
theorem dX5_canPay_21 : decode cX5_canPay 21 = .ok (.aload_n 0, 1) := by decide +kernel
theorem dX5_canPay_22 : decode cX5_canPay 22 = .ok (.getfield 24, 3) := by decide +kernel
theorem dX5_canPay_25 : decode cX5_canPay 25 = .ok (.invokevirtual 182, 3) := by decide +kernel
theorem dX5_canPay_28 : decode cX5_canPay 28 = .ok (.ifCond .eq 7, 3) := by decide +kernel
theorem dX5_canPay_31 : decode cX5_canPay 31 = .ok (.iconst 1, 1) := by decide +kernel
theorem dX5_canPay_32 : decode cX5_canPay 32 = .ok (.goto 4, 3) := by decide +kernel
theorem dX5_canPay_35 : decode cX5_canPay 35 = .ok (.iconst 0, 1) := by decide +kernel
theorem dX5_canPay_36 : decode cX5_canPay 36 = .ok (.ireturn, 1) := by decide +kernel
set_option maxRecDepth 20000 in
theorem ggX5_weak_X5_isNoNode : GoodIn wsX5_weak wsX5_isNoNode := goodIn_r _ [6, 7, 8, 9, 5, 10, 11, 12, 13, 14, 37, 38, 39, 40, 41, 42, 43, 44, 45, 46, 47] (by decide +kernel) (by decide +kernel)
set_option maxRecDepth 20000 in
theorem gX5_weak_X5_isNoNode : GoodIn wsX5_weak (wsV RX5 56 RX5 yX5_isNoNode wsX5_isNoNode) := goodIn_app (goodIn_of _ (by decide +kernel)) ggX5_weak_X5_isNoNode
set_option maxRecDepth 20000 in
theorem ggX5_weak_X5_copy : GoodIn wsX5_weak wsX5_copy := goodIn_r _ [17, 18, 19, 20, 21, 22] (by decide +kernel) (by decide +kernel)
set_option maxRecDepth 20000 in
theorem gX5_weak_X5_copy : GoodIn wsX5_weak (va_wsS RX5 108 yX5_copy wsX5_copy) := goodIn_app (goodIn_of _ (by decide +kernel)) ggX5_weak_X5_copy
set_option maxRecDepth 20000 in
theorem ggX5_weak_X5_isPaid : GoodIn wsX5_weak wsX5_isPaid := goodIn_r _ [26, 11, 27, 28, 15, 16, 5, 17, 18, 19, 20, 21, 22, 29, 30, 31, 32, 33, 34, 35, 36, 37, 38, 39, 40, 41, 42, 43, 44, 45, 46, 47] (by decide +kernel) (by decide +kernel)
set_option maxRecDepth 20000 in
theorem gX5_weak_X5_isPaid : GoodIn wsX5_weak (wsV RX5 182 RX5 yX5_isPaid wsX5_isPaid) := goodIn_app (goodIn_of _ (by decide +kernel)) ggX5_weak_X5_isPaid
theorem dX5_weak_0 : decode cX5_weak 0 = .ok (.iconst 0, 1) := by decide +kernel
theorem dX5_weak_1 : decode cX5_weak 1 = .ok (.istore_n 1, 1) := by decide +kernel
theorem dX5_weak_2 : decode cX5_weak 2 = .ok (.iload_n 1, 1) := by decide +kernel
theorem dX5_weak_3 : decode cX5_weak 3 = .ok (.bipush 7, 2) := by decide +kernel
theorem dX5_weak_5 : decode cX5_weak 5 = .ok (.if_icmp .ge 45, 3) := by decide +kernel
theorem dX5_weak_8 : decode cX5_weak 8 = .ok (.aload_n 0, 1) := by decide +kernel
theorem dX5_weak_9 : decode cX5_weak 9 = .ok (.iload_n 1, 1) := by decide +kernel
theorem dX5_weak_10 : decode cX5_weak 10 = .ok (.invokevirtual 56, 3) := by decide +kernel
theorem dX5_weak_13 : decode cX5_weak 13 = .ok (.ifCond .eq 6, 3) := by decide +kernel
theorem dX5_weak_16 : decode cX5_weak 16 = .ok (.goto 28, 3) := by decide +kernel
theorem dX5_weak_19 : decode cX5_weak 19 = .ok (.aload_n 0, 1) := by decide +kernel
theorem dX5_weak_20 : decode cX5_weak 20 = .ok (.getfield 24, 3) := by decide +kernel
theorem dX5_weak_23 : decode cX5_weak 23 = .ok (.invokestatic 108, 3) := by decide +kernel
theorem dX5_weak_26 : decode cX5_weak 26 = .ok (.astore_n 2, 1) := by decide +kernel
theorem dX5_weak_27 : decode cX5_weak 27 = .ok (.aload_n 2, 1) := by decide +kernel
theorem dX5_weak_28 : decode cX5_weak 28 = .ok (.iload_n 1, 1) := by decide +kernel
theorem dX5_weak_29 : decode cX5_weak 29 = .ok (.dup2, 1) := by decide +kernel
theorem dX5_weak_30 : decode cX5_weak 30 = .ok (.iaload, 1) := by decide +kernel
theorem dX5_weak_31 : decode cX5_weak 31 = .ok (.iconst 1, 1) := by decide +kernel
theorem dX5_weak_32 : decode cX5_weak 32 = .ok (.isub, 1) := by decide +kernel
theorem dX5_weak_33 : decode cX5_weak 33 = .ok (.iastore, 1) := by decide +kernel
theorem dX5_weak_34 : decode cX5_weak 34 = .ok (.aload_n 0, 1) := by decide +kernel
theorem dX5_weak_35 : decode cX5_weak 35 = .ok (.aload_n 2, 1) := by decide +kernel
theorem dX5_weak_36 : decode cX5_weak 36 = .ok (.invokevirtual 182, 3) := by decide +kernel
theorem dX5_weak_39 : decode cX5_weak 39 = .ok (.ifCond .ne 5, 3) := by decide +kernel
theorem dX5_weak_42 : decode cX5_weak 42 = .ok (.iload_n 1, 1) := by decide +kernel
theorem dX5_weak_43 : decode cX5_weak 43 = .ok (.ireturn, 1) := by decide +kernel
theorem dX5_weak_44 : decode cX5_weak 44 = .ok (.iinc 1 1, 3) := by decide +kernel
theorem dX5_weak_47 : decode cX5_weak 47 = .ok (.goto (-45), 3) := by decide +kernel
theorem dX5_weak_50 : decode cX5_weak 50 = .ok (.iconst (-1), 1) := by decide +kernel
theorem dX5_weak_51 : decode cX5_weak 51 = .ok (.ireturn, 1) := by decide +kernel
set_option maxRecDepth 20000 in
theorem ggX5_weakest_X5_isFast : GoodIn wsX5_weakest wsX5_isFast := goodIn_r _ [5, 6, 7, 8, 54, 55, 56, 57, 58, 59, 60, 61, 62, 63, 64] (by decide +kernel) (by decide +kernel)
set_option maxRecDepth 20000 in
theorem gX5_weakest_X5_isFast : GoodIn wsX5_weakest (wsV RX5 87 RX5 yX5_isFast wsX5_isFast) := goodIn_app (goodIn_of _ (by decide +kernel)) ggX5_weakest_X5_isFast
set_option maxRecDepth 20000 in
theorem ggX5_weakest_X5_start : GoodIn wsX5_weakest wsX5_start := goodIn_r _ [12, 13, 14, 15, 16, 4, 17, 54, 55, 56, 57, 58, 59, 60, 61, 62, 63, 64] (by decide +kernel) (by decide +kernel)
set_option maxRecDepth 20000 in
theorem gX5_weakest_X5_start : GoodIn wsX5_weakest (wsV RX5 53 RX5 yX5_start wsX5_start) := goodIn_app (goodIn_of _ (by decide +kernel)) ggX5_weakest_X5_start
set_option maxRecDepth 20000 in
theorem ggX5_weakest_X5_weak : GoodIn wsX5_weakest wsX5_weak := goodIn_r _ [21, 22, 23, 24, 25, 4, 26, 27, 28, 29, 30, 8, 31, 32, 33, 34, 35, 36, 37, 38, 39, 40, 41, 42, 43, 44, 45, 6, 7, 46, 47, 48, 49, 50, 51, 52, 53, 54, 55, 56, 57, 58, 59, 60, 61, 62, 63, 64] (by decide +kernel) (by decide +kernel)
set_option maxRecDepth 20000 in
theorem gX5_weakest_X5_weak : GoodIn wsX5_weakest (wsV RX5 186 RX5 yX5_weak wsX5_weak) := goodIn_app (goodIn_of _ (by decide +kernel)) ggX5_weakest_X5_weak
theorem dX5_weakest_0 : decode cX5_weakest 0 = .ok (.aload_n 0, 1) := by decide +kernel
theorem dX5_weakest_1 : decode cX5_weakest 1 = .ok (.aload_n 0, 1) := by decide +kernel
theorem dX5_weakest_2 : decode cX5_weakest 2 = .ok (.invokevirtual 87, 3) := by decide +kernel
theorem dX5_weakest_5 : decode cX5_weakest 5 = .ok (.ifCond .ne 7, 3) := by decide +kernel
theorem dX5_weakest_8 : decode cX5_weakest 8 = .ok (.iconst 1, 1) := by decide +kernel
theorem dX5_weakest_9 : decode cX5_weakest 9 = .ok (.goto 4, 3) := by decide +kernel
theorem dX5_weakest_12 : decode cX5_weakest 12 = .ok (.iconst 0, 1) := by decide +kernel
theorem dX5_weakest_13 : decode cX5_weakest 13 = .ok (.iconst 1, 1) := by decide +kernel
theorem dX5_weakest_14 : decode cX5_weakest 14 = .ok (.invokevirtual 53, 3) := by decide +kernel
theorem dX5_weakest_17 : decode cX5_weakest 17 = .ok (.ifCond .eq 7, 3) := by decide +kernel
theorem dX5_weakest_20 : decode cX5_weakest 20 = .ok (.iconst 0, 1) := by decide +kernel
theorem dX5_weakest_21 : decode cX5_weakest 21 = .ok (.goto 7, 3) := by decide +kernel
theorem dX5_weakest_24 : decode cX5_weakest 24 = .ok (.aload_n 0, 1) := by decide +kernel
theorem dX5_weakest_25 : decode cX5_weakest 25 = .ok (.invokevirtual 186, 3) := by decide +kernel
theorem dX5_weakest_28 : decode cX5_weakest 28 = .ok (.ireturn, 1) := by decide +kernel
theorem dX5_add__0 : decode cX5_add_ 0 = .ok (.lload_n 0, 1) := by decide +kernel
theorem dX5_add__1 : decode cX5_add_ 1 = .ok (.ldc2_w 189, 3) := by decide +kernel
theorem dX5_add__4 : decode cX5_add_ 4 = .ok (.lmul, 1) := by decide +kernel
theorem dX5_add__5 : decode cX5_add_ 5 = .ok (.lload_n 2, 1) := by decide +kernel
theorem dX5_add__6 : decode cX5_add_ 6 = .ok (.ladd, 1) := by decide +kernel
theorem dX5_add__7 : decode cX5_add_ 7 = .ok (.lreturn, 1) := by decide +kernel
set_option maxRecDepth 20000 in
theorem ggX5_digest_X5_told : GoodIn wsX5_digest wsX5_told := goodIn_r _ [12, 4, 3, 13, 14, 15, 16, 17, 6, 18, 19, 20, 21, 11, 22, 5, 23, 24, 25, 26, 27, 28, 29, 30, 31, 32, 33, 34, 35, 36, 37, 38, 39, 40, 41, 42, 43, 44, 45, 46, 47, 48, 49, 50, 51, 52, 162, 163, 164, 165, 166, 167, 168, 169, 170, 171, 172, 173, 174, 175] (by decide +kernel) (by decide +kernel)
set_option maxRecDepth 20000 in
theorem gX5_digest_X5_told : GoodIn wsX5_digest (wsV RX5 145 RX5 yX5_told wsX5_told) := goodIn_app (goodIn_of _ (by decide +kernel)) ggX5_digest_X5_told
set_option maxRecDepth 20000 in
theorem ggX5_digest_X5_add_ : GoodIn wsX5_digest wsX5_add_ := goodIn_r _ [55, 56] (by decide +kernel) (by decide +kernel)
set_option maxRecDepth 20000 in
theorem gX5_digest_X5_add_ : GoodIn wsX5_digest (va_wsS RX5 193 yX5_add_ wsX5_add_) := goodIn_app (goodIn_of _ (by decide +kernel)) ggX5_digest_X5_add_
set_option maxRecDepth 20000 in
theorem ggX5_digest_X5_toldOfSpot : GoodIn wsX5_digest wsX5_toldOfSpot := goodIn_r _ [60, 14, 13, 5, 17, 48, 19, 20, 21, 11, 22, 26, 27, 28, 29, 23, 24, 25, 49, 50, 51, 52, 162, 163, 164, 165, 166, 167, 168, 169, 170, 171, 172] (by decide +kernel) (by decide +kernel)
set_option maxRecDepth 20000 in
theorem gX5_digest_X5_toldOfSpot : GoodIn wsX5_digest (wsV RX5 139 RX5 yX5_toldOfSpot wsX5_toldOfSpot) := goodIn_app (goodIn_of _ (by decide +kernel)) ggX5_digest_X5_toldOfSpot
set_option maxRecDepth 20000 in
theorem ggX5_digest_X5_isNoNode : GoodIn wsX5_digest wsX5_isNoNode := goodIn_r _ [64, 65, 66, 67, 11, 68, 3, 69, 70, 71, 162, 163, 164, 165, 166, 167, 168, 169, 170, 171, 172] (by decide +kernel) (by decide +kernel)
set_option maxRecDepth 20000 in
theorem gX5_digest_X5_isNoNode : GoodIn wsX5_digest (wsV RX5 56 RX5 yX5_isNoNode wsX5_isNoNode) := goodIn_app (goodIn_of _ (by decide +kernel)) ggX5_digest_X5_isNoNode
set_option maxRecDepth 20000 in
theorem ggX5_digest_Jx4a65c_iterator_32c93 : GoodIn wsX5_digest wsJx4a65c_iterator_32c93 := goodIn_r _ [75, 76, 77, 78, 79, 80, 81, 82, 83, 84, 85, 86, 87, 88, 89, 176, 177, 178, 179, 173, 174, 175] (by decide +kernel) (by decide +kernel)
set_option maxRecDepth 20000 in
theorem gX5_digest_Jx4a65c_iterator_32c93 : GoodIn wsX5_digest (wsV RX5 196 RJx4a65c yJx4a65c_iterator_32c93 wsJx4a65c_iterator_32c93) := goodIn_app (goodIn_of _ (by decide +kernel)) ggX5_digest_Jx4a65c_iterator_32c93
set_option maxRecDepth 20000 in
theorem ggX5_digest_Jx35411_hasNext_aae02 : GoodIn wsX5_digest wsJx35411_hasNext_aae02 := goodIn_r _ [93, 94, 82, 176, 177, 178, 179, 173, 174, 175] (by decide +kernel) (by decide +kernel)
set_option maxRecDepth 20000 in
theorem gX5_digest_Jx35411_hasNext_aae02_f200Jx35411 : GoodIn wsX5_digest (va_wsF RX5 200 RJx35411 ⟨"java/util/Iterator", "hasNext", "()Z"⟩ yJx35411_hasNext_aae02 wsJx35411_hasNext_aae02) := goodIn_app (goodIn_of _ (by decide +kernel)) ggX5_digest_Jx35411_hasNext_aae02
set_option maxRecDepth 20000 in
theorem ggX5_digest_Jx35411_next_0502b : GoodIn wsX5_digest wsJx35411_next_0502b := goodIn_r _ [98, 94, 82, 99, 86, 100, 101, 102, 78, 103, 87, 88, 89, 176, 177, 178, 179, 173, 174, 175] (by decide +kernel) (by decide +kernel)
set_option maxRecDepth 20000 in
theorem gX5_digest_Jx35411_next_0502b_f205Jx35411 : GoodIn wsX5_digest (va_wsF RX5 205 RJx35411 ⟨"java/util/Iterator", "next", "()Ljava/lang/Object;"⟩ yJx35411_next_0502b wsJx35411_next_0502b) := goodIn_app (goodIn_of _ (by decide +kernel)) ggX5_digest_Jx35411_next_0502b
set_option maxRecDepth 20000 in
theorem ggX5_digest_X5_counted : GoodIn wsX5_digest wsX5_counted := goodIn_r _ [107, 3, 7, 14, 5, 19, 20, 21, 11, 22, 108, 109, 110, 162, 163, 164, 165, 166, 167, 168, 169, 170, 171, 172] (by decide +kernel) (by decide +kernel)
set_option maxRecDepth 20000 in
theorem gX5_digest_X5_counted : GoodIn wsX5_digest (wsV RX5 152 RX5 yX5_counted wsX5_counted) := goodIn_app (goodIn_of _ (by decide +kernel)) ggX5_digest_X5_counted
set_option maxRecDepth 20000 in
theorem ggX5_digest_X5_burnt : GoodIn wsX5_digest wsX5_burnt := goodIn_r _ [114, 3, 5, 13, 162, 163, 164, 165, 166, 167, 168, 169, 170, 171, 172] (by decide +kernel) (by decide +kernel)
set_option maxRecDepth 20000 in
theorem gX5_digest_X5_burnt : GoodIn wsX5_digest (wsV RX5 175 RX5 yX5_burnt wsX5_burnt) := goodIn_app (goodIn_of _ (by decide +kernel)) ggX5_digest_X5_burnt
set_option maxRecDepth 20000 in
theorem ggX5_digest_X5_isFast : GoodIn wsX5_digest wsX5_isFast := goodIn_r _ [36, 37, 5, 3, 162, 163, 164, 165, 166, 167, 168, 169, 170, 171, 172] (by decide +kernel) (by decide +kernel)
set_option maxRecDepth 20000 in
theorem gX5_digest_X5_isFast : GoodIn wsX5_digest (wsV RX5 87 RX5 yX5_isFast wsX5_isFast) := goodIn_app (goodIn_of _ (by decide +kernel)) ggX5_digest_X5_isFast
set_option maxRecDepth 20000 in
theorem ggX5_digest_X5_isKeptOn : GoodIn wsX5_digest wsX5_isKeptOn := goodIn_r _ [118, 13, 3, 5, 119, 120, 121, 11, 122, 26, 27, 28, 29, 19, 20, 21, 22, 123, 124, 125, 14, 126, 127, 128, 129, 130, 131, 132, 133, 134, 135, 136, 137, 162, 163, 164, 165, 166, 167, 168, 169, 170, 171, 172] (by decide +kernel) (by decide +kernel)
set_option maxRecDepth 20000 in
theorem gX5_digest_X5_isKeptOn : GoodIn wsX5_digest (wsV RX5 168 RX5 yX5_isKeptOn wsX5_isKeptOn) := goodIn_app (goodIn_of _ (by decide +kernel)) ggX5_digest_X5_isKeptOn
set_option maxRecDepth 20000 in
theorem ggX5_digest_X5_one : GoodIn wsX5_digest wsX5_one := goodIn_r _ [25] (by decide +kernel) (by decide +kernel)
set_option maxRecDepth 20000 in
theorem gX5_digest_X5_one : GoodIn wsX5_digest (va_wsS RX5 135 yX5_one wsX5_one) := goodIn_app (goodIn_of _ (by decide +kernel)) ggX5_digest_X5_one
set_option maxRecDepth 20000 in
theorem ggX5_digest_X5_neutral : GoodIn wsX5_digest wsX5_neutral := goodIn_r _ [141, 14, 3, 19, 20, 21, 11, 22, 5, 123, 124, 125, 126, 127, 128, 129, 130, 131, 132, 133, 119, 120, 121, 122, 26, 27, 28, 29, 134, 135, 136, 137, 162, 163, 164, 165, 166, 167, 168, 169, 170, 171, 172] (by decide +kernel) (by decide +kernel)
set_option maxRecDepth 20000 in
theorem gX5_digest_X5_neutral : GoodIn wsX5_digest (wsV RX5 171 RX5 yX5_neutral wsX5_neutral) := goodIn_app (goodIn_of _ (by decide +kernel)) ggX5_digest_X5_neutral
set_option maxRecDepth 20000 in
theorem ggX5_digest_X5_wouldDo : GoodIn wsX5_digest wsX5_wouldDo := goodIn_r _ [145, 13, 3, 123, 124, 11, 125, 14, 126, 127, 128, 129, 130, 131, 132, 133, 119, 120, 121, 122, 26, 27, 28, 29, 19, 20, 21, 22, 5, 134, 135, 136, 137, 23, 24, 25, 30, 31, 32, 146, 147, 148, 149, 162, 163, 164, 165, 166, 167, 168, 169, 170, 171, 172] (by decide +kernel) (by decide +kernel)
set_option maxRecDepth 20000 in
theorem gX5_digest_X5_wouldDo : GoodIn wsX5_digest (wsV RX5 164 RX5 yX5_wouldDo wsX5_wouldDo) := goodIn_app (goodIn_of _ (by decide +kernel)) ggX5_digest_X5_wouldDo
set_option maxRecDepth 20000 in
theorem ggX5_digest_X5_isPaid : GoodIn wsX5_digest wsX5_isPaid := goodIn_r _ [153, 3, 37, 5, 123, 124, 11, 125, 14, 126, 127, 128, 129, 154, 155, 156, 157, 19, 20, 21, 22, 162, 163, 164, 165, 166, 167, 168, 169, 170, 171, 172] (by decide +kernel) (by decide +kernel)
set_option maxRecDepth 20000 in
theorem gX5_digest_X5_isPaid : GoodIn wsX5_digest (wsV RX5 182 RX5 yX5_isPaid wsX5_isPaid) := goodIn_app (goodIn_of _ (by decide +kernel)) ggX5_digest_X5_isPaid
set_option maxRecDepth 20000 in
theorem ggX5_digest_X5_weak : GoodIn wsX5_digest wsX5_weak := goodIn_r _ [161, 4, 61, 62, 63, 11, 64, 65, 66, 67, 68, 3, 69, 70, 71, 123, 124, 125, 14, 126, 127, 128, 129, 150, 151, 152, 153, 37, 5, 154, 155, 156, 157, 19, 20, 21, 22, 162, 163, 164, 165, 166, 167, 168, 169, 170, 171, 172] (by decide +kernel) (by decide +kernel)
set_option maxRecDepth 20000 in
theorem gX5_digest_X5_weak : GoodIn wsX5_digest (wsV RX5 186 RX5 yX5_weak wsX5_weak) := goodIn_app (goodIn_of _ (by decide +kernel)) ggX5_digest_X5_weak
theorem dX5_digest_0 : decode cX5_digest 0 = .ok (.aload_n 0, 1) := by decide +kernel
theorem dX5_digest_1 : decode cX5_digest 1 = .ok (.iconst 0, 1) := by decide +kernel
theorem dX5_digest_2 : decode cX5_digest 2 = .ok (.putfield 34, 3) := by decide +kernel
theorem dX5_digest_5 : decode cX5_digest 5 = .ok (.ldc2_w 191, 3) := by decide +kernel
theorem dX5_digest_8 : decode cX5_digest 8 = .ok (.lstore_n 1, 1) := by decide +kernel
theorem dX5_digest_9 : decode cX5_digest 9 = .ok (.iconst 0, 1) := by decide +kernel
theorem dX5_digest_10 : decode cX5_digest 10 = .ok (.istore_n 3, 1) := by decide +kernel
theorem dX5_digest_11 : decode cX5_digest 11 = .ok (.iload_n 3, 1) := by decide +kernel
theorem dX5_digest_12 : decode cX5_digest 12 = .ok (.bipush 14, 2) := by decide +kernel
theorem dX5_digest_14 : decode cX5_digest 14 = .ok (.if_icmp .ge 20, 3) := by decide +kernel
theorem dX5_digest_17 : decode cX5_digest 17 = .ok (.lload_n 1, 1) := by decide +kernel
theorem dX5_digest_18 : decode cX5_digest 18 = .ok (.aload_n 0, 1) := by decide +kernel
theorem dX5_digest_19 : decode cX5_digest 19 = .ok (.iload_n 3, 1) := by decide +kernel
theorem dX5_digest_20 : decode cX5_digest 20 = .ok (.invokevirtual 145, 3) := by decide +kernel
theorem dX5_digest_23 : decode cX5_digest 23 = .ok (.i2l, 1) := by decide +kernel
theorem dX5_digest_24 : decode cX5_digest 24 = .ok (.invokestatic 193, 3) := by decide +kernel
theorem dX5_digest_27 : decode cX5_digest 27 = .ok (.lstore_n 1, 1) := by decide +kernel
theorem dX5_digest_28 : decode cX5_digest 28 = .ok (.iinc 3 1, 3) := by decide +kernel
theorem dX5_digest_31 : decode cX5_digest 31 = .ok (.goto (-20), 3) := by decide +kernel
theorem dX5_digest_34 : decode cX5_digest 34 = .ok (.iconst 0, 1) := by decide +kernel
theorem dX5_digest_35 : decode cX5_digest 35 = .ok (.istore_n 3, 1) := by decide +kernel
theorem dX5_digest_36 : decode cX5_digest 36 = .ok (.iload_n 3, 1) := by decide +kernel
theorem dX5_digest_37 : decode cX5_digest 37 = .ok (.aload_n 0, 1) := by decide +kernel
theorem dX5_digest_38 : decode cX5_digest 38 = .ok (.getfield 42, 3) := by decide +kernel
theorem dX5_digest_41 : decode cX5_digest 41 = .ok (.if_icmp .ge 38, 3) := by decide +kernel
theorem dX5_digest_44 : decode cX5_digest 44 = .ok (.iconst 0, 1) := by decide +kernel
theorem dX5_digest_45 : decode cX5_digest 45 = .ok (.istore 4, 2) := by decide +kernel
theorem dX5_digest_47 : decode cX5_digest 47 = .ok (.iload 4, 2) := by decide +kernel
theorem dX5_digest_49 : decode cX5_digest 49 = .ok (.bipush 7, 2) := by decide +kernel
theorem dX5_digest_51 : decode cX5_digest 51 = .ok (.if_icmp .ge 22, 3) := by decide +kernel
theorem dX5_digest_54 : decode cX5_digest 54 = .ok (.lload_n 1, 1) := by decide +kernel
theorem dX5_digest_55 : decode cX5_digest 55 = .ok (.aload_n 0, 1) := by decide +kernel
theorem dX5_digest_56 : decode cX5_digest 56 = .ok (.iload_n 3, 1) := by decide +kernel
theorem dX5_digest_57 : decode cX5_digest 57 = .ok (.iload 4, 2) := by decide +kernel
theorem dX5_digest_59 : decode cX5_digest 59 = .ok (.invokevirtual 139, 3) := by decide +kernel
theorem dX5_digest_62 : decode cX5_digest 62 = .ok (.i2l, 1) := by decide +kernel
theorem dX5_digest_63 : decode cX5_digest 63 = .ok (.invokestatic 193, 3) := by decide +kernel
theorem dX5_digest_66 : decode cX5_digest 66 = .ok (.lstore_n 1, 1) := by decide +kernel
theorem dX5_digest_67 : decode cX5_digest 67 = .ok (.iinc 4 1, 3) := by decide +kernel
theorem dX5_digest_70 : decode cX5_digest 70 = .ok (.goto (-23), 3) := by decide +kernel
theorem dX5_digest_73 : decode cX5_digest 73 = .ok (.iinc 3 1, 3) := by decide +kernel
theorem dX5_digest_76 : decode cX5_digest 76 = .ok (.goto (-40), 3) := by decide +kernel
theorem dX5_digest_79 : decode cX5_digest 79 = .ok (.iconst 0, 1) := by decide +kernel
theorem dX5_digest_80 : decode cX5_digest 80 = .ok (.istore_n 3, 1) := by decide +kernel
theorem dX5_digest_81 : decode cX5_digest 81 = .ok (.iload_n 3, 1) := by decide +kernel
theorem dX5_digest_82 : decode cX5_digest 82 = .ok (.bipush 7, 2) := by decide +kernel
theorem dX5_digest_84 : decode cX5_digest 84 = .ok (.if_icmp .ge 72, 3) := by decide +kernel
theorem dX5_digest_87 : decode cX5_digest 87 = .ok (.aload_n 0, 1) := by decide +kernel
theorem dX5_digest_88 : decode cX5_digest 88 = .ok (.iload_n 3, 1) := by decide +kernel
theorem dX5_digest_89 : decode cX5_digest 89 = .ok (.invokevirtual 56, 3) := by decide +kernel
theorem dX5_digest_92 : decode cX5_digest 92 = .ok (.ifCond .eq 6, 3) := by decide +kernel
theorem dX5_digest_95 : decode cX5_digest 95 = .ok (.goto 55, 3) := by decide +kernel
theorem dX5_digest_98 : decode cX5_digest 98 = .ok (.lload_n 1, 1) := by decide +kernel
theorem dX5_digest_99 : decode cX5_digest 99 = .ok (.aload_n 0, 1) := by decide +kernel
theorem dX5_digest_100 : decode cX5_digest 100 = .ok (.getfield 24, 3) := by decide +kernel
theorem dX5_digest_103 : decode cX5_digest 103 = .ok (.iload_n 3, 1) := by decide +kernel
theorem dX5_digest_104 : decode cX5_digest 104 = .ok (.iaload, 1) := by decide +kernel
theorem dX5_digest_105 : decode cX5_digest 105 = .ok (.i2l, 1) := by decide +kernel
theorem dX5_digest_106 : decode cX5_digest 106 = .ok (.invokestatic 193, 3) := by decide +kernel
theorem dX5_digest_109 : decode cX5_digest 109 = .ok (.lstore_n 1, 1) := by decide +kernel
theorem dX5_digest_110 : decode cX5_digest 110 = .ok (.iconst 0, 1) := by decide +kernel
theorem dX5_digest_111 : decode cX5_digest 111 = .ok (.istore 4, 2) := by decide +kernel
theorem dX5_digest_113 : decode cX5_digest 113 = .ok (.iload 4, 2) := by decide +kernel
theorem dX5_digest_115 : decode cX5_digest 115 = .ok (.bipush 7, 2) := by decide +kernel
theorem dX5_digest_117 : decode cX5_digest 117 = .ok (.if_icmp .ge 33, 3) := by decide +kernel
theorem dX5_digest_120 : decode cX5_digest 120 = .ok (.aload_n 0, 1) := by decide +kernel
theorem dX5_digest_121 : decode cX5_digest 121 = .ok (.iload 4, 2) := by decide +kernel
theorem dX5_digest_123 : decode cX5_digest 123 = .ok (.invokevirtual 56, 3) := by decide +kernel
theorem dX5_digest_126 : decode cX5_digest 126 = .ok (.ifCond .ne 18, 3) := by decide +kernel
theorem dX5_digest_129 : decode cX5_digest 129 = .ok (.lload_n 1, 1) := by decide +kernel
theorem dX5_digest_130 : decode cX5_digest 130 = .ok (.aload_n 0, 1) := by decide +kernel
theorem dX5_digest_131 : decode cX5_digest 131 = .ok (.getfield 11, 3) := by decide +kernel
theorem dX5_digest_134 : decode cX5_digest 134 = .ok (.iload_n 3, 1) := by decide +kernel
theorem dX5_digest_135 : decode cX5_digest 135 = .ok (.aaload, 1) := by decide +kernel
theorem dX5_digest_136 : decode cX5_digest 136 = .ok (.iload 4, 2) := by decide +kernel
theorem dX5_digest_138 : decode cX5_digest 138 = .ok (.iaload, 1) := by decide +kernel
theorem dX5_digest_139 : decode cX5_digest 139 = .ok (.i2l, 1) := by decide +kernel
theorem dX5_digest_140 : decode cX5_digest 140 = .ok (.invokestatic 193, 3) := by decide +kernel
theorem dX5_digest_143 : decode cX5_digest 143 = .ok (.lstore_n 1, 1) := by decide +kernel
theorem dX5_digest_144 : decode cX5_digest 144 = .ok (.iinc 4 1, 3) := by decide +kernel
theorem dX5_digest_147 : decode cX5_digest 147 = .ok (.goto (-34), 3) := by decide +kernel
theorem dX5_digest_150 : decode cX5_digest 150 = .ok (.iinc 3 1, 3) := by decide +kernel
theorem dX5_digest_153 : decode cX5_digest 153 = .ok (.goto (-72), 3) := by decide +kernel
theorem dX5_digest_156 : decode cX5_digest 156 = .ok (.aload_n 0, 1) := by decide +kernel
theorem dX5_digest_157 : decode cX5_digest 157 = .ok (.getfield 30, 3) := by decide +kernel
theorem dX5_digest_160 : decode cX5_digest 160 = .ok (.invokevirtual 196, 3) := by decide +kernel
theorem dX5_digest_163 : decode cX5_digest 163 = .ok (.astore_n 3, 1) := by decide +kernel
theorem dX5_digest_164 : decode cX5_digest 164 = .ok (.aload_n 3, 1) := by decide +kernel
theorem dX5_digest_165 : decode cX5_digest 165 = .ok (.invokeinterface 200 1, 5) := by decide +kernel
theorem dX5_digest_170 : decode cX5_digest 170 = .ok (.ifCond .eq 46, 3) := by decide +kernel
theorem dX5_digest_173 : decode cX5_digest 173 = .ok (.aload_n 3, 1) := by decide +kernel
theorem dX5_digest_174 : decode cX5_digest 174 = .ok (.invokeinterface 205 1, 5) := by decide +kernel
theorem dX5_digest_179 : decode cX5_digest 179 = .ok (.checkcast 119, 3) := by decide +kernel
theorem dX5_digest_182 : decode cX5_digest 182 = .ok (.astore 4, 2) := by decide +kernel
theorem dX5_digest_184 : decode cX5_digest 184 = .ok (.iconst 0, 1) := by decide +kernel
theorem dX5_digest_185 : decode cX5_digest 185 = .ok (.istore 5, 2) := by decide +kernel
theorem dX5_digest_187 : decode cX5_digest 187 = .ok (.iload 5, 2) := by decide +kernel
theorem dX5_digest_189 : decode cX5_digest 189 = .ok (.aload_n 0, 1) := by decide +kernel
theorem dX5_digest_190 : decode cX5_digest 190 = .ok (.getfield 42, 3) := by decide +kernel
theorem dX5_digest_193 : decode cX5_digest 193 = .ok (.if_icmp .ge 20, 3) := by decide +kernel
theorem dX5_digest_196 : decode cX5_digest 196 = .ok (.lload_n 1, 1) := by decide +kernel
theorem dX5_digest_197 : decode cX5_digest 197 = .ok (.aload 4, 2) := by decide +kernel
theorem dX5_digest_199 : decode cX5_digest 199 = .ok (.iload 5, 2) := by decide +kernel
theorem dX5_digest_201 : decode cX5_digest 201 = .ok (.iaload, 1) := by decide +kernel
theorem dX5_digest_202 : decode cX5_digest 202 = .ok (.i2l, 1) := by decide +kernel
theorem dX5_digest_203 : decode cX5_digest 203 = .ok (.invokestatic 193, 3) := by decide +kernel
theorem dX5_digest_206 : decode cX5_digest 206 = .ok (.lstore_n 1, 1) := by decide +kernel
theorem dX5_digest_207 : decode cX5_digest 207 = .ok (.iinc 5 1, 3) := by decide +kernel
theorem dX5_digest_210 : decode cX5_digest 210 = .ok (.goto (-23), 3) := by decide +kernel
theorem dX5_digest_213 : decode cX5_digest 213 = .ok (.goto (-49), 3) := by decide +kernel
theorem dX5_digest_216 : decode cX5_digest 216 = .ok (.lload_n 1, 1) := by decide +kernel
theorem dX5_digest_217 : decode cX5_digest 217 = .ok (.aload_n 0, 1) := by decide +kernel
theorem dX5_digest_218 : decode cX5_digest 218 = .ok (.invokevirtual 152, 3) := by decide +kernel
theorem dX5_digest_221 : decode cX5_digest 221 = .ok (.invokestatic 193, 3) := by decide +kernel
theorem dX5_digest_224 : decode cX5_digest 224 = .ok (.aload_n 0, 1) := by decide +kernel
theorem dX5_digest_225 : decode cX5_digest 225 = .ok (.invokevirtual 175, 3) := by decide +kernel
theorem dX5_digest_228 : decode cX5_digest 228 = .ok (.i2l, 1) := by decide +kernel
theorem dX5_digest_229 : decode cX5_digest 229 = .ok (.invokestatic 193, 3) := by decide +kernel
theorem dX5_digest_232 : decode cX5_digest 232 = .ok (.lstore_n 1, 1) := by decide +kernel
theorem dX5_digest_233 : decode cX5_digest 233 = .ok (.aload_n 0, 1) := by decide +kernel
theorem dX5_digest_234 : decode cX5_digest 234 = .ok (.invokevirtual 87, 3) := by decide +kernel
theorem dX5_digest_237 : decode cX5_digest 237 = .ok (.ifCond .ne 5, 3) := by decide +kernel
theorem dX5_digest_240 : decode cX5_digest 240 = .ok (.lload_n 1, 1) := by decide +kernel
theorem dX5_digest_241 : decode cX5_digest 241 = .ok (.lreturn, 1) := by decide +kernel
theorem dX5_digest_242 : decode cX5_digest 242 = .ok (.lload_n 1, 1) := by decide +kernel
theorem dX5_digest_243 : decode cX5_digest 243 = .ok (.aload_n 0, 1) := by decide +kernel
theorem dX5_digest_244 : decode cX5_digest 244 = .ok (.invokevirtual 168, 3) := by decide +kernel
theorem dX5_digest_247 : decode cX5_digest 247 = .ok (.invokestatic 135, 3) := by decide +kernel
theorem dX5_digest_250 : decode cX5_digest 250 = .ok (.i2l, 1) := by decide +kernel
theorem dX5_digest_251 : decode cX5_digest 251 = .ok (.invokestatic 193, 3) := by decide +kernel
theorem dX5_digest_254 : decode cX5_digest 254 = .ok (.lstore_n 1, 1) := by decide +kernel
theorem dX5_digest_255 : decode cX5_digest 255 = .ok (.iconst 0, 1) := by decide +kernel
theorem dX5_digest_256 : decode cX5_digest 256 = .ok (.istore_n 3, 1) := by decide +kernel
theorem dX5_digest_257 : decode cX5_digest 257 = .ok (.iload_n 3, 1) := by decide +kernel
theorem dX5_digest_258 : decode cX5_digest 258 = .ok (.aload_n 0, 1) := by decide +kernel
theorem dX5_digest_259 : decode cX5_digest 259 = .ok (.getfield 42, 3) := by decide +kernel
theorem dX5_digest_262 : decode cX5_digest 262 = .ok (.if_icmp .ge 32, 3) := by decide +kernel
theorem dX5_digest_265 : decode cX5_digest 265 = .ok (.lload_n 1, 1) := by decide +kernel
theorem dX5_digest_266 : decode cX5_digest 266 = .ok (.aload_n 0, 1) := by decide +kernel
theorem dX5_digest_267 : decode cX5_digest 267 = .ok (.invokevirtual 171, 3) := by decide +kernel
theorem dX5_digest_270 : decode cX5_digest 270 = .ok (.iload_n 3, 1) := by decide +kernel
theorem dX5_digest_271 : decode cX5_digest 271 = .ok (.iaload, 1) := by decide +kernel
theorem dX5_digest_272 : decode cX5_digest 272 = .ok (.i2l, 1) := by decide +kernel
theorem dX5_digest_273 : decode cX5_digest 273 = .ok (.invokestatic 193, 3) := by decide +kernel
theorem dX5_digest_276 : decode cX5_digest 276 = .ok (.aload_n 0, 1) := by decide +kernel
theorem dX5_digest_277 : decode cX5_digest 277 = .ok (.iload_n 3, 1) := by decide +kernel
theorem dX5_digest_278 : decode cX5_digest 278 = .ok (.iconst 1, 1) := by decide +kernel
theorem dX5_digest_279 : decode cX5_digest 279 = .ok (.iconst 0, 1) := by decide +kernel
theorem dX5_digest_280 : decode cX5_digest 280 = .ok (.invokevirtual 164, 3) := by decide +kernel
theorem dX5_digest_283 : decode cX5_digest 283 = .ok (.i2l, 1) := by decide +kernel
theorem dX5_digest_284 : decode cX5_digest 284 = .ok (.invokestatic 193, 3) := by decide +kernel
theorem dX5_digest_287 : decode cX5_digest 287 = .ok (.lstore_n 1, 1) := by decide +kernel
theorem dX5_digest_288 : decode cX5_digest 288 = .ok (.iinc 3 1, 3) := by decide +kernel
theorem dX5_digest_291 : decode cX5_digest 291 = .ok (.goto (-34), 3) := by decide +kernel
theorem dX5_digest_294 : decode cX5_digest 294 = .ok (.lload_n 1, 1) := by decide +kernel
theorem dX5_digest_295 : decode cX5_digest 295 = .ok (.aload_n 0, 1) := by decide +kernel
theorem dX5_digest_296 : decode cX5_digest 296 = .ok (.aload_n 0, 1) := by decide +kernel
theorem dX5_digest_297 : decode cX5_digest 297 = .ok (.getfield 24, 3) := by decide +kernel
theorem dX5_digest_300 : decode cX5_digest 300 = .ok (.invokevirtual 182, 3) := by decide +kernel
theorem dX5_digest_303 : decode cX5_digest 303 = .ok (.invokestatic 135, 3) := by decide +kernel
theorem dX5_digest_306 : decode cX5_digest 306 = .ok (.i2l, 1) := by decide +kernel
theorem dX5_digest_307 : decode cX5_digest 307 = .ok (.invokestatic 193, 3) := by decide +kernel
theorem dX5_digest_310 : decode cX5_digest 310 = .ok (.aload_n 0, 1) := by decide +kernel
theorem dX5_digest_311 : decode cX5_digest 311 = .ok (.invokevirtual 186, 3) := by decide +kernel
theorem dX5_digest_314 : decode cX5_digest 314 = .ok (.i2l, 1) := by decide +kernel
theorem dX5_digest_315 : decode cX5_digest 315 = .ok (.invokestatic 193, 3) := by decide +kernel
theorem dX5_digest_318 : decode cX5_digest 318 = .ok (.lreturn, 1) := by decide +kernel
set_option maxRecDepth 20000 in
theorem ggJ9_rint_294c1_Jxfc994_rint_294c1 : GoodIn wsJ9_rint_294c1 wsJxfc994_rint_294c1 := goodIn_r _ [4, 5, 6, 7, 8, 9, 10, 11, 12, 13, 14, 15, 16, 17, 18, 19, 20, 21] (by decide +kernel) (by decide +kernel)
set_option maxRecDepth 20000 in
theorem gJ9_rint_294c1_Jxfc994_rint_294c1 : GoodIn wsJ9_rint_294c1 (va_wsS RJ9 59 yJxfc994_rint_294c1 wsJxfc994_rint_294c1) := goodIn_app (goodIn_of _ (by decide +kernel)) ggJ9_rint_294c1_Jxfc994_rint_294c1
theorem dJ9_rint_294c1_0 : decode cJ9_rint_294c1 0 = .ok (.dload_n 0, 1) := by decide +kernel
theorem dJ9_rint_294c1_1 : decode cJ9_rint_294c1 1 = .ok (.invokestatic 59, 3) := by decide +kernel
theorem dJ9_rint_294c1_4 : decode cJ9_rint_294c1 4 = .ok (.dreturn, 1) := by decide +kernel
theorem dJ9_abs_294c1_0 : decode cJ9_abs_294c1 0 = .ok (.dload_n 0, 1) := by decide +kernel
theorem dJ9_abs_294c1_1 : decode cJ9_abs_294c1 1 = .ok (.invokestatic 79, 3) := by decide +kernel
theorem dJ9_abs_294c1_4 : decode cJ9_abs_294c1 4 = .ok (.ldc2_w 135, 3) := by decide +kernel
theorem dJ9_abs_294c1_7 : decode cJ9_abs_294c1 7 = .ok (.land, 1) := by decide +kernel
theorem dJ9_abs_294c1_8 : decode cJ9_abs_294c1 8 = .ok (.invokestatic 166, 3) := by decide +kernel
theorem dJ9_abs_294c1_11 : decode cJ9_abs_294c1 11 = .ok (.dreturn, 1) := by decide +kernel
theorem dJ9_max_7cf53_0 : decode cJ9_max_7cf53 0 = .ok (.iload_n 0, 1) := by decide +kernel
theorem dJ9_max_7cf53_1 : decode cJ9_max_7cf53 1 = .ok (.iload_n 1, 1) := by decide +kernel
theorem dJ9_max_7cf53_2 : decode cJ9_max_7cf53 2 = .ok (.if_icmp .lt 7, 3) := by decide +kernel
theorem dJ9_max_7cf53_5 : decode cJ9_max_7cf53 5 = .ok (.iload_n 0, 1) := by decide +kernel
theorem dJ9_max_7cf53_6 : decode cJ9_max_7cf53 6 = .ok (.goto 4, 3) := by decide +kernel
theorem dJ9_max_7cf53_9 : decode cJ9_max_7cf53 9 = .ok (.iload_n 1, 1) := by decide +kernel
theorem dJ9_max_7cf53_10 : decode cJ9_max_7cf53 10 = .ok (.ireturn, 1) := by decide +kernel
theorem dJ9_min_7cf53_0 : decode cJ9_min_7cf53 0 = .ok (.iload_n 0, 1) := by decide +kernel
theorem dJ9_min_7cf53_1 : decode cJ9_min_7cf53 1 = .ok (.iload_n 1, 1) := by decide +kernel
theorem dJ9_min_7cf53_2 : decode cJ9_min_7cf53 2 = .ok (.if_icmp .gt 7, 3) := by decide +kernel
theorem dJ9_min_7cf53_5 : decode cJ9_min_7cf53 5 = .ok (.iload_n 0, 1) := by decide +kernel
theorem dJ9_min_7cf53_6 : decode cJ9_min_7cf53 6 = .ok (.goto 4, 3) := by decide +kernel
theorem dJ9_min_7cf53_9 : decode cJ9_min_7cf53 9 = .ok (.iload_n 1, 1) := by decide +kernel
theorem dJ9_min_7cf53_10 : decode cJ9_min_7cf53 10 = .ok (.ireturn, 1) := by decide +kernel
theorem dJ9_copySign_eb370_0 : decode cJ9_copySign_eb370 0 = .ok (.dload_n 2, 1) := by decide +kernel
theorem dJ9_copySign_eb370_1 : decode cJ9_copySign_eb370 1 = .ok (.invokestatic 79, 3) := by decide +kernel
theorem dJ9_copySign_eb370_4 : decode cJ9_copySign_eb370 4 = .ok (.ldc2_w 128, 3) := by decide +kernel
theorem dJ9_copySign_eb370_7 : decode cJ9_copySign_eb370 7 = .ok (.land, 1) := by decide +kernel
theorem dJ9_copySign_eb370_8 : decode cJ9_copySign_eb370 8 = .ok (.dload_n 0, 1) := by decide +kernel
theorem dJ9_copySign_eb370_9 : decode cJ9_copySign_eb370 9 = .ok (.invokestatic 79, 3) := by decide +kernel
theorem dJ9_copySign_eb370_12 : decode cJ9_copySign_eb370 12 = .ok (.ldc2_w 135, 3) := by decide +kernel
theorem dJ9_copySign_eb370_15 : decode cJ9_copySign_eb370 15 = .ok (.land, 1) := by decide +kernel
theorem dJ9_copySign_eb370_16 : decode cJ9_copySign_eb370 16 = .ok (.lor, 1) := by decide +kernel
theorem dJ9_copySign_eb370_17 : decode cJ9_copySign_eb370 17 = .ok (.invokestatic 166, 3) := by decide +kernel
theorem dJ9_copySign_eb370_20 : decode cJ9_copySign_eb370 20 = .ok (.dreturn, 1) := by decide +kernel
set_option maxRecDepth 20000 in
theorem ggJxfc994_rint_294c1_J9_copySign_eb370 : GoodIn wsJxfc994_rint_294c1 wsJ9_copySign_eb370 := goodIn_r _ [5, 6, 7, 8, 9, 10, 11, 12, 13, 14] (by decide +kernel) (by decide +kernel)
set_option maxRecDepth 20000 in
theorem gJxfc994_rint_294c1_J9_copySign_eb370 : GoodIn wsJxfc994_rint_294c1 (va_wsS RJxfc994 95 yJ9_copySign_eb370 wsJ9_copySign_eb370) := goodIn_app (goodIn_of _ (by decide +kernel)) ggJxfc994_rint_294c1_J9_copySign_eb370
set_option maxRecDepth 20000 in
theorem ggJxfc994_rint_294c1_J9_abs_294c1 : GoodIn wsJxfc994_rint_294c1 wsJ9_abs_294c1 := goodIn_r _ [17, 6, 7, 8, 9, 11, 12, 13, 14] (by decide +kernel) (by decide +kernel)
set_option maxRecDepth 20000 in
theorem gJxfc994_rint_294c1_J9_abs_294c1 : GoodIn wsJxfc994_rint_294c1 (va_wsS RJxfc994 98 yJ9_abs_294c1 wsJ9_abs_294c1) := goodIn_app (goodIn_of _ (by decide +kernel)) ggJxfc994_rint_294c1_J9_abs_294c1
theorem dJxfc994_rint_294c1_0 : decode cJxfc994_rint_294c1 0 = .ok (.ldc2_w 93, 3) := by decide +kernel
theorem dJxfc994_rint_294c1_3 : decode cJxfc994_rint_294c1 3 = .ok (.dstore_n 2, 1) := by decide +kernel
theorem dJxfc994_rint_294c1_4 : decode cJxfc994_rint_294c1 4 = .ok (.dconst 1, 1) := by decide +kernel
theorem dJxfc994_rint_294c1_5 : decode cJxfc994_rint_294c1 5 = .ok (.dload_n 0, 1) := by decide +kernel
theorem dJxfc994_rint_294c1_6 : decode cJxfc994_rint_294c1 6 = .ok (.invokestatic 95, 3) := by decide +kernel
theorem dJxfc994_rint_294c1_9 : decode cJxfc994_rint_294c1 9 = .ok (.dstore 4, 2) := by decide +kernel
theorem dJxfc994_rint_294c1_11 : decode cJxfc994_rint_294c1 11 = .ok (.dload_n 0, 1) := by decide +kernel
theorem dJxfc994_rint_294c1_12 : decode cJxfc994_rint_294c1 12 = .ok (.invokestatic 98, 3) := by decide +kernel
theorem dJxfc994_rint_294c1_15 : decode cJxfc994_rint_294c1 15 = .ok (.dstore_n 0, 1) := by decide +kernel
theorem dJxfc994_rint_294c1_16 : decode cJxfc994_rint_294c1 16 = .ok (.dload_n 0, 1) := by decide +kernel
theorem dJxfc994_rint_294c1_17 : decode cJxfc994_rint_294c1 17 = .ok (.dload_n 2, 1) := by decide +kernel
theorem dJxfc994_rint_294c1_18 : decode cJxfc994_rint_294c1 18 = .ok (.dcmp .g, 1) := by decide +kernel
theorem dJxfc994_rint_294c1_19 : decode cJxfc994_rint_294c1 19 = .ok (.ifCond .ge 9, 3) := by decide +kernel
theorem dJxfc994_rint_294c1_22 : decode cJxfc994_rint_294c1 22 = .ok (.dload_n 2, 1) := by decide +kernel
theorem dJxfc994_rint_294c1_23 : decode cJxfc994_rint_294c1 23 = .ok (.dload_n 0, 1) := by decide +kernel
theorem dJxfc994_rint_294c1_24 : decode cJxfc994_rint_294c1 24 = .ok (.dadd, 1) := by decide +kernel
theorem dJxfc994_rint_294c1_25 : decode cJxfc994_rint_294c1 25 = .ok (.dload_n 2, 1) := by decide +kernel
theorem dJxfc994_rint_294c1_26 : decode cJxfc994_rint_294c1 26 = .ok (.dsub, 1) := by decide +kernel
theorem dJxfc994_rint_294c1_27 : decode cJxfc994_rint_294c1 27 = .ok (.dstore_n 0, 1) := by decide +kernel
theorem dJxfc994_rint_294c1_28 : decode cJxfc994_rint_294c1 28 = .ok (.dload 4, 2) := by decide +kernel
theorem dJxfc994_rint_294c1_30 : decode cJxfc994_rint_294c1 30 = .ok (.dload_n 0, 1) := by decide +kernel
theorem dJxfc994_rint_294c1_31 : decode cJxfc994_rint_294c1 31 = .ok (.dmul, 1) := by decide +kernel
theorem dJxfc994_rint_294c1_32 : decode cJxfc994_rint_294c1 32 = .ok (.dreturn, 1) := by decide +kernel
theorem dJxa1e45_init_da8c8_0 : decode cJxa1e45_init_da8c8 0 = .ok (.aload_n 0, 1) := by decide +kernel
theorem dJxa1e45_init_da8c8_1 : decode cJxa1e45_init_da8c8 1 = .ok (.invokespecial 1, 3) := by decide +kernel
theorem dJxa1e45_init_da8c8_4 : decode cJxa1e45_init_da8c8 4 = .ok (.return_, 1) := by decide +kernel
set_option maxRecDepth 20000 in
theorem ggJxc12de_init_da8c8_Jxa1e45_init_da8c8 : GoodIn wsJxc12de_init_da8c8 wsJxa1e45_init_da8c8 := goodIn_r _ [5, 6, 7, 8] (by decide +kernel) (by decide +kernel)
set_option maxRecDepth 20000 in
theorem gJxc12de_init_da8c8_Jxa1e45_init_da8c8 : GoodIn wsJxc12de_init_da8c8 (wsJxa1e45_init_da8c8) := ggJxc12de_init_da8c8_Jxa1e45_init_da8c8
theorem dJxc12de_init_da8c8_0 : decode cJxc12de_init_da8c8 0 = .ok (.aload_n 0, 1) := by decide +kernel
theorem dJxc12de_init_da8c8_1 : decode cJxc12de_init_da8c8 1 = .ok (.invokespecial 1, 3) := by decide +kernel
theorem dJxc12de_init_da8c8_4 : decode cJxc12de_init_da8c8 4 = .ok (.aload_n 0, 1) := by decide +kernel
theorem dJxc12de_init_da8c8_5 : decode cJxc12de_init_da8c8 5 = .ok (.iconst 0, 1) := by decide +kernel
theorem dJxc12de_init_da8c8_6 : decode cJxc12de_init_da8c8 6 = .ok (.putfield 7, 3) := by decide +kernel
theorem dJxc12de_init_da8c8_9 : decode cJxc12de_init_da8c8 9 = .ok (.return_, 1) := by decide +kernel
theorem dJx35411_init_45d68_0 : decode cJx35411_init_45d68 0 = .ok (.aload_n 0, 1) := by decide +kernel
theorem dJx35411_init_45d68_1 : decode cJx35411_init_45d68 1 = .ok (.aload_n 1, 1) := by decide +kernel
theorem dJx35411_init_45d68_2 : decode cJx35411_init_45d68 2 = .ok (.putfield 1, 3) := by decide +kernel
theorem dJx35411_init_45d68_5 : decode cJx35411_init_45d68 5 = .ok (.aload_n 0, 1) := by decide +kernel
theorem dJx35411_init_45d68_6 : decode cJx35411_init_45d68 6 = .ok (.invokespecial 7, 3) := by decide +kernel
theorem dJx35411_init_45d68_9 : decode cJx35411_init_45d68 9 = .ok (.aload_n 0, 1) := by decide +kernel
theorem dJx35411_init_45d68_10 : decode cJx35411_init_45d68 10 = .ok (.iconst (-1), 1) := by decide +kernel
theorem dJx35411_init_45d68_11 : decode cJx35411_init_45d68 11 = .ok (.putfield 13, 3) := by decide +kernel
theorem dJx35411_init_45d68_14 : decode cJx35411_init_45d68 14 = .ok (.aload_n 0, 1) := by decide +kernel
theorem dJx35411_init_45d68_15 : decode cJx35411_init_45d68 15 = .ok (.aload_n 0, 1) := by decide +kernel
theorem dJx35411_init_45d68_16 : decode cJx35411_init_45d68 16 = .ok (.getfield 1, 3) := by decide +kernel
theorem dJx35411_init_45d68_19 : decode cJx35411_init_45d68 19 = .ok (.getfield 17, 3) := by decide +kernel
theorem dJx35411_init_45d68_22 : decode cJx35411_init_45d68 22 = .ok (.putfield 22, 3) := by decide +kernel
theorem dJx35411_init_45d68_25 : decode cJx35411_init_45d68 25 = .ok (.return_, 1) := by decide +kernel
theorem dJx35411_hasNext_aae02_0 : decode cJx35411_hasNext_aae02 0 = .ok (.aload_n 0, 1) := by decide +kernel
theorem dJx35411_hasNext_aae02_1 : decode cJx35411_hasNext_aae02 1 = .ok (.getfield 25, 3) := by decide +kernel
theorem dJx35411_hasNext_aae02_4 : decode cJx35411_hasNext_aae02 4 = .ok (.aload_n 0, 1) := by decide +kernel
theorem dJx35411_hasNext_aae02_5 : decode cJx35411_hasNext_aae02 5 = .ok (.getfield 1, 3) := by decide +kernel
theorem dJx35411_hasNext_aae02_8 : decode cJx35411_hasNext_aae02 8 = .ok (.getfield 28, 3) := by decide +kernel
theorem dJx35411_hasNext_aae02_11 : decode cJx35411_hasNext_aae02 11 = .ok (.if_icmp .eq 7, 3) := by decide +kernel
theorem dJx35411_hasNext_aae02_14 : decode cJx35411_hasNext_aae02 14 = .ok (.iconst 1, 1) := by decide +kernel
theorem dJx35411_hasNext_aae02_15 : decode cJx35411_hasNext_aae02 15 = .ok (.goto 4, 3) := by decide +kernel
theorem dJx35411_hasNext_aae02_18 : decode cJx35411_hasNext_aae02 18 = .ok (.iconst 0, 1) := by decide +kernel
theorem dJx35411_hasNext_aae02_19 : decode cJx35411_hasNext_aae02 19 = .ok (.ireturn, 1) := by decide +kernel
set_option maxRecDepth 20000 in
theorem ggJx35411_next_0502b_Jx35411_checkForComodification_da8c8 : GoodIn wsJx35411_next_0502b wsJx35411_checkForComodification_da8c8 := goodIn_r _ [9, 2, 10, 11, 12, 13, 14, 15, 16, 17, 18, 19] (by decide +kernel) (by decide +kernel)
set_option maxRecDepth 20000 in
theorem gJx35411_next_0502b_Jx35411_checkForComodification_da8c8 : GoodIn wsJx35411_next_0502b (wsV RJx35411 31 RJx35411 yJx35411_checkForComodification_da8c8 wsJx35411_checkForComodification_da8c8) := goodIn_app (goodIn_of _ (by decide +kernel)) ggJx35411_next_0502b_Jx35411_checkForComodification_da8c8
theorem dJx35411_next_0502b_0 : decode cJx35411_next_0502b 0 = .ok (.aload_n 0, 1) := by decide +kernel
theorem dJx35411_next_0502b_1 : decode cJx35411_next_0502b 1 = .ok (.invokevirtual 31, 3) := by decide +kernel
theorem dJx35411_next_0502b_4 : decode cJx35411_next_0502b 4 = .ok (.aload_n 0, 1) := by decide +kernel
theorem dJx35411_next_0502b_5 : decode cJx35411_next_0502b 5 = .ok (.getfield 25, 3) := by decide +kernel
theorem dJx35411_next_0502b_8 : decode cJx35411_next_0502b 8 = .ok (.istore_n 1, 1) := by decide +kernel
theorem dJx35411_next_0502b_9 : decode cJx35411_next_0502b 9 = .ok (.iload_n 1, 1) := by decide +kernel
theorem dJx35411_next_0502b_10 : decode cJx35411_next_0502b 10 = .ok (.aload_n 0, 1) := by decide +kernel
theorem dJx35411_next_0502b_11 : decode cJx35411_next_0502b 11 = .ok (.getfield 1, 3) := by decide +kernel
theorem dJx35411_next_0502b_14 : decode cJx35411_next_0502b 14 = .ok (.getfield 28, 3) := by decide +kernel
theorem dJx35411_next_0502b_17 : decode cJx35411_next_0502b 17 = .ok (.if_icmp .lt 11, 3) := by decide +kernel
theorem dJx35411_next_0502b_20 : decode cJx35411_next_0502b 20 = .ok (.new 34, 3) := by decide +kernel
theorem dJx35411_next_0502b_23 : decode cJx35411_next_0502b 23 = .ok (.dup, 1) := by decide +kernel
theorem dJx35411_next_0502b_24 : decode cJx35411_next_0502b 24 = .ok (.invokespecial 36, 3) := by decide +kernel
theorem dJx35411_next_0502b_27 : decode cJx35411_next_0502b 27 = .ok (.athrow, 1) := by decide +kernel
theorem dJx35411_next_0502b_28 : decode cJx35411_next_0502b 28 = .ok (.aload_n 0, 1) := by decide +kernel
theorem dJx35411_next_0502b_29 : decode cJx35411_next_0502b 29 = .ok (.getfield 1, 3) := by decide +kernel
theorem dJx35411_next_0502b_32 : decode cJx35411_next_0502b 32 = .ok (.getfield 37, 3) := by decide +kernel
theorem dJx35411_next_0502b_35 : decode cJx35411_next_0502b 35 = .ok (.astore_n 2, 1) := by decide +kernel
theorem dJx35411_next_0502b_36 : decode cJx35411_next_0502b 36 = .ok (.iload_n 1, 1) := by decide +kernel
theorem dJx35411_next_0502b_37 : decode cJx35411_next_0502b 37 = .ok (.aload_n 2, 1) := by decide +kernel
theorem dJx35411_next_0502b_38 : decode cJx35411_next_0502b 38 = .ok (.arraylength, 1) := by decide +kernel
theorem dJx35411_next_0502b_39 : decode cJx35411_next_0502b 39 = .ok (.if_icmp .lt 11, 3) := by decide +kernel
theorem dJx35411_next_0502b_42 : decode cJx35411_next_0502b 42 = .ok (.new 41, 3) := by decide +kernel
theorem dJx35411_next_0502b_45 : decode cJx35411_next_0502b 45 = .ok (.dup, 1) := by decide +kernel
theorem dJx35411_next_0502b_46 : decode cJx35411_next_0502b 46 = .ok (.invokespecial 43, 3) := by decide +kernel
theorem dJx35411_next_0502b_49 : decode cJx35411_next_0502b 49 = .ok (.athrow, 1) := by decide +kernel
theorem dJx35411_next_0502b_50 : decode cJx35411_next_0502b 50 = .ok (.aload_n 0, 1) := by decide +kernel
theorem dJx35411_next_0502b_51 : decode cJx35411_next_0502b 51 = .ok (.iload_n 1, 1) := by decide +kernel
theorem dJx35411_next_0502b_52 : decode cJx35411_next_0502b 52 = .ok (.iconst 1, 1) := by decide +kernel
theorem dJx35411_next_0502b_53 : decode cJx35411_next_0502b 53 = .ok (.iadd, 1) := by decide +kernel
theorem dJx35411_next_0502b_54 : decode cJx35411_next_0502b 54 = .ok (.putfield 25, 3) := by decide +kernel
theorem dJx35411_next_0502b_57 : decode cJx35411_next_0502b 57 = .ok (.aload_n 2, 1) := by decide +kernel
theorem dJx35411_next_0502b_58 : decode cJx35411_next_0502b 58 = .ok (.aload_n 0, 1) := by decide +kernel
theorem dJx35411_next_0502b_59 : decode cJx35411_next_0502b 59 = .ok (.iload_n 1, 1) := by decide +kernel
theorem dJx35411_next_0502b_60 : decode cJx35411_next_0502b 60 = .ok (.dup_x1, 1) := by decide +kernel
theorem dJx35411_next_0502b_61 : decode cJx35411_next_0502b 61 = .ok (.putfield 13, 3) := by decide +kernel
theorem dJx35411_next_0502b_64 : decode cJx35411_next_0502b 64 = .ok (.aaload, 1) := by decide +kernel
theorem dJx35411_next_0502b_65 : decode cJx35411_next_0502b 65 = .ok (.areturn, 1) := by decide +kernel
theorem dJx35411_checkForComodification_da8c8_0 : decode cJx35411_checkForComodification_da8c8 0 = .ok (.aload_n 0, 1) := by decide +kernel
theorem dJx35411_checkForComodification_da8c8_1 : decode cJx35411_checkForComodification_da8c8 1 = .ok (.getfield 1, 3) := by decide +kernel
theorem dJx35411_checkForComodification_da8c8_4 : decode cJx35411_checkForComodification_da8c8 4 = .ok (.getfield 17, 3) := by decide +kernel
theorem dJx35411_checkForComodification_da8c8_7 : decode cJx35411_checkForComodification_da8c8 7 = .ok (.aload_n 0, 1) := by decide +kernel
theorem dJx35411_checkForComodification_da8c8_8 : decode cJx35411_checkForComodification_da8c8 8 = .ok (.getfield 22, 3) := by decide +kernel
theorem dJx35411_checkForComodification_da8c8_11 : decode cJx35411_checkForComodification_da8c8 11 = .ok (.if_icmp .eq 11, 3) := by decide +kernel
theorem dJx35411_checkForComodification_da8c8_14 : decode cJx35411_checkForComodification_da8c8 14 = .ok (.new 41, 3) := by decide +kernel
theorem dJx35411_checkForComodification_da8c8_17 : decode cJx35411_checkForComodification_da8c8 17 = .ok (.dup, 1) := by decide +kernel
theorem dJx35411_checkForComodification_da8c8_18 : decode cJx35411_checkForComodification_da8c8 18 = .ok (.invokespecial 43, 3) := by decide +kernel
theorem dJx35411_checkForComodification_da8c8_21 : decode cJx35411_checkForComodification_da8c8 21 = .ok (.athrow, 1) := by decide +kernel
theorem dJx35411_checkForComodification_da8c8_22 : decode cJx35411_checkForComodification_da8c8 22 = .ok (.return_, 1) := by decide +kernel
set_option maxRecDepth 20000 in
theorem ggJx4a65c_init_da8c8_Jxc12de_init_da8c8 : GoodIn wsJx4a65c_init_da8c8 wsJxc12de_init_da8c8 := goodIn_r _ [6, 7, 8, 9, 10, 11, 12, 13, 14, 15, 16, 17] (by decide +kernel) (by decide +kernel)
set_option maxRecDepth 20000 in
theorem gJx4a65c_init_da8c8_Jxc12de_init_da8c8 : GoodIn wsJx4a65c_init_da8c8 (wsJxc12de_init_da8c8) := ggJx4a65c_init_da8c8_Jxc12de_init_da8c8
theorem dJx4a65c_init_da8c8_0 : decode cJx4a65c_init_da8c8 0 = .ok (.aload_n 0, 1) := by decide +kernel
theorem dJx4a65c_init_da8c8_1 : decode cJx4a65c_init_da8c8 1 = .ok (.invokespecial 1, 3) := by decide +kernel
theorem dJx4a65c_init_da8c8_4 : decode cJx4a65c_init_da8c8 4 = .ok (.aload_n 0, 1) := by decide +kernel
theorem dJx4a65c_init_da8c8_5 : decode cJx4a65c_init_da8c8 5 = .ok (.getstatic 39, 3) := by decide +kernel
theorem dJx4a65c_init_da8c8_8 : decode cJx4a65c_init_da8c8 8 = .ok (.putfield 9, 3) := by decide +kernel
theorem dJx4a65c_init_da8c8_11 : decode cJx4a65c_init_da8c8 11 = .ok (.return_, 1) := by decide +kernel
set_option maxRecDepth 20000 in
theorem ggJx4a65c_grow_92f84_J8_newLength_cabcc : GoodIn wsJx4a65c_grow_92f84 wsJ8_newLength_cabcc := goodIn_r _ [11, 12, 4, 5, 6, 13, 14, 15, 10, 16] (by decide +kernel) (by decide +kernel)
set_option maxRecDepth 20000 in
theorem gJx4a65c_grow_92f84_J8_newLength_cabcc : GoodIn wsJx4a65c_grow_92f84 (va_wsS RJx4a65c 73 yJ8_newLength_cabcc wsJ8_newLength_cabcc) := goodIn_app (goodIn_of _ (by decide +kernel)) ggJx4a65c_grow_92f84_J8_newLength_cabcc
set_option maxRecDepth 20000 in
theorem ggJx4a65c_grow_92f84_J7_copyOf_1904c : GoodIn wsJx4a65c_grow_92f84 wsJ7_copyOf_1904c := goodIn_r _ [20, 21, 22, 23, 24, 25, 26, 19, 27, 28, 29, 30, 31, 5, 32, 33, 34, 35, 36] (by decide +kernel) (by decide +kernel)
set_option maxRecDepth 20000 in
theorem gJx4a65c_grow_92f84_J7_copyOf_1904c : GoodIn wsJx4a65c_grow_92f84 (va_wsS RJx4a65c 66 yJ7_copyOf_1904c wsJ7_copyOf_1904c) := goodIn_app (goodIn_of _ (by decide +kernel)) ggJx4a65c_grow_92f84_J7_copyOf_1904c
theorem dJx4a65c_grow_92f84_0 : decode cJx4a65c_grow_92f84 0 = .ok (.aload_n 0, 1) := by decide +kernel
theorem dJx4a65c_grow_92f84_1 : decode cJx4a65c_grow_92f84 1 = .ok (.getfield 9, 3) := by decide +kernel
theorem dJx4a65c_grow_92f84_4 : decode cJx4a65c_grow_92f84 4 = .ok (.arraylength, 1) := by decide +kernel
theorem dJx4a65c_grow_92f84_5 : decode cJx4a65c_grow_92f84 5 = .ok (.istore_n 2, 1) := by decide +kernel
theorem dJx4a65c_grow_92f84_6 : decode cJx4a65c_grow_92f84 6 = .ok (.iload_n 2, 1) := by decide +kernel
theorem dJx4a65c_grow_92f84_7 : decode cJx4a65c_grow_92f84 7 = .ok (.ifCond .gt 13, 3) := by decide +kernel
theorem dJx4a65c_grow_92f84_10 : decode cJx4a65c_grow_92f84 10 = .ok (.aload_n 0, 1) := by decide +kernel
theorem dJx4a65c_grow_92f84_11 : decode cJx4a65c_grow_92f84 11 = .ok (.getfield 9, 3) := by decide +kernel
theorem dJx4a65c_grow_92f84_14 : decode cJx4a65c_grow_92f84 14 = .ok (.getstatic 39, 3) := by decide +kernel
theorem dJx4a65c_grow_92f84_17 : decode cJx4a65c_grow_92f84 17 = .ok (.if_acmp .eq 28, 3) := by decide +kernel
theorem dJx4a65c_grow_92f84_20 : decode cJx4a65c_grow_92f84 20 = .ok (.iload_n 2, 1) := by decide +kernel
theorem dJx4a65c_grow_92f84_21 : decode cJx4a65c_grow_92f84 21 = .ok (.iload_n 1, 1) := by decide +kernel
theorem dJx4a65c_grow_92f84_22 : decode cJx4a65c_grow_92f84 22 = .ok (.iload_n 2, 1) := by decide +kernel
theorem dJx4a65c_grow_92f84_23 : decode cJx4a65c_grow_92f84 23 = .ok (.isub, 1) := by decide +kernel
theorem dJx4a65c_grow_92f84_24 : decode cJx4a65c_grow_92f84 24 = .ok (.iload_n 2, 1) := by decide +kernel
theorem dJx4a65c_grow_92f84_25 : decode cJx4a65c_grow_92f84 25 = .ok (.iconst 1, 1) := by decide +kernel
theorem dJx4a65c_grow_92f84_26 : decode cJx4a65c_grow_92f84 26 = .ok (.ishr, 1) := by decide +kernel
theorem dJx4a65c_grow_92f84_27 : decode cJx4a65c_grow_92f84 27 = .ok (.invokestatic 73, 3) := by decide +kernel
theorem dJx4a65c_grow_92f84_30 : decode cJx4a65c_grow_92f84 30 = .ok (.istore_n 3, 1) := by decide +kernel
theorem dJx4a65c_grow_92f84_31 : decode cJx4a65c_grow_92f84 31 = .ok (.aload_n 0, 1) := by decide +kernel
theorem dJx4a65c_grow_92f84_32 : decode cJx4a65c_grow_92f84 32 = .ok (.aload_n 0, 1) := by decide +kernel
theorem dJx4a65c_grow_92f84_33 : decode cJx4a65c_grow_92f84 33 = .ok (.getfield 9, 3) := by decide +kernel
theorem dJx4a65c_grow_92f84_36 : decode cJx4a65c_grow_92f84 36 = .ok (.iload_n 3, 1) := by decide +kernel
theorem dJx4a65c_grow_92f84_37 : decode cJx4a65c_grow_92f84 37 = .ok (.invokestatic 66, 3) := by decide +kernel
theorem dJx4a65c_grow_92f84_40 : decode cJx4a65c_grow_92f84 40 = .ok (.dup_x1, 1) := by decide +kernel
theorem dJx4a65c_grow_92f84_41 : decode cJx4a65c_grow_92f84 41 = .ok (.putfield 9, 3) := by decide +kernel
theorem dJx4a65c_grow_92f84_44 : decode cJx4a65c_grow_92f84 44 = .ok (.areturn, 1) := by decide +kernel
theorem dJx4a65c_grow_92f84_45 : decode cJx4a65c_grow_92f84 45 = .ok (.aload_n 0, 1) := by decide +kernel
theorem dJx4a65c_grow_92f84_46 : decode cJx4a65c_grow_92f84 46 = .ok (.bipush 10, 2) := by decide +kernel
theorem dJx4a65c_grow_92f84_48 : decode cJx4a65c_grow_92f84 48 = .ok (.iload_n 1, 1) := by decide +kernel
theorem dJx4a65c_grow_92f84_49 : decode cJx4a65c_grow_92f84 49 = .ok (.invokestatic 79, 3) := by decide +kernel
theorem dJx4a65c_grow_92f84_52 : decode cJx4a65c_grow_92f84 52 = .ok (.anewarray 7, 3) := by decide +kernel
theorem dJx4a65c_grow_92f84_55 : decode cJx4a65c_grow_92f84 55 = .ok (.dup_x1, 1) := by decide +kernel
theorem dJx4a65c_grow_92f84_56 : decode cJx4a65c_grow_92f84 56 = .ok (.putfield 9, 3) := by decide +kernel
theorem dJx4a65c_grow_92f84_59 : decode cJx4a65c_grow_92f84 59 = .ok (.areturn, 1) := by decide +kernel
set_option maxRecDepth 20000 in
theorem ggJx4a65c_grow_d5877_Jx4a65c_grow_92f84 : GoodIn wsJx4a65c_grow_d5877 wsJx4a65c_grow_92f84 := goodIn_r _ [6, 7, 8, 9, 10, 11, 12, 13, 14, 15, 16, 17, 18, 19, 20, 21, 22, 23, 24, 25, 26, 27, 28, 29, 30, 31, 32, 33, 34, 35, 36, 37, 38, 39, 40, 41, 42, 43, 44, 45] (by decide +kernel) (by decide +kernel)
set_option maxRecDepth 20000 in
theorem gJx4a65c_grow_d5877_Jx4a65c_grow_92f84 : GoodIn wsJx4a65c_grow_d5877 (wsV RJx4a65c 69 RJx4a65c yJx4a65c_grow_92f84 wsJx4a65c_grow_92f84) := goodIn_app (goodIn_of _ (by decide +kernel)) ggJx4a65c_grow_d5877_Jx4a65c_grow_92f84
theorem dJx4a65c_grow_d5877_0 : decode cJx4a65c_grow_d5877 0 = .ok (.aload_n 0, 1) := by decide +kernel
theorem dJx4a65c_grow_d5877_1 : decode cJx4a65c_grow_d5877 1 = .ok (.aload_n 0, 1) := by decide +kernel
theorem dJx4a65c_grow_d5877_2 : decode cJx4a65c_grow_d5877 2 = .ok (.getfield 48, 3) := by decide +kernel
theorem dJx4a65c_grow_d5877_5 : decode cJx4a65c_grow_d5877 5 = .ok (.iconst 1, 1) := by decide +kernel
theorem dJx4a65c_grow_d5877_6 : decode cJx4a65c_grow_d5877 6 = .ok (.iadd, 1) := by decide +kernel
theorem dJx4a65c_grow_d5877_7 : decode cJx4a65c_grow_d5877 7 = .ok (.invokevirtual 69, 3) := by decide +kernel
theorem dJx4a65c_grow_d5877_10 : decode cJx4a65c_grow_d5877 10 = .ok (.areturn, 1) := by decide +kernel
theorem dJx4a65c_size_8abf5_0 : decode cJx4a65c_size_8abf5 0 = .ok (.aload_n 0, 1) := by decide +kernel
theorem dJx4a65c_size_8abf5_1 : decode cJx4a65c_size_8abf5 1 = .ok (.getfield 48, 3) := by decide +kernel
theorem dJx4a65c_size_8abf5_4 : decode cJx4a65c_size_8abf5 4 = .ok (.ireturn, 1) := by decide +kernel
theorem dJx4a65c_elementData_915e3_0 : decode cJx4a65c_elementData_915e3 0 = .ok (.aload_n 0, 1) := by decide +kernel
theorem dJx4a65c_elementData_915e3_1 : decode cJx4a65c_elementData_915e3 1 = .ok (.getfield 9, 3) := by decide +kernel
theorem dJx4a65c_elementData_915e3_4 : decode cJx4a65c_elementData_915e3 4 = .ok (.iload_n 1, 1) := by decide +kernel
theorem dJx4a65c_elementData_915e3_5 : decode cJx4a65c_elementData_915e3 5 = .ok (.aaload, 1) := by decide +kernel
theorem dJx4a65c_elementData_915e3_6 : decode cJx4a65c_elementData_915e3 6 = .ok (.areturn, 1) := by decide +kernel
set_option maxRecDepth 20000 in
theorem ggJx4a65c_get_915e3_J15_checkIndex_7cf53 : GoodIn wsJx4a65c_get_915e3 wsJ15_checkIndex_7cf53 := goodIn_r _ [5, 6, 7, 8, 9] (by decide +kernel) (by decide +kernel)
set_option maxRecDepth 20000 in
theorem gJx4a65c_get_915e3_J15_checkIndex_7cf53 : GoodIn wsJx4a65c_get_915e3 (va_wsS RJx4a65c 118 yJ15_checkIndex_7cf53 wsJ15_checkIndex_7cf53) := goodIn_app (goodIn_of _ (by decide +kernel)) ggJx4a65c_get_915e3_J15_checkIndex_7cf53
set_option maxRecDepth 20000 in
theorem ggJx4a65c_get_915e3_Jx4a65c_elementData_915e3 : GoodIn wsJx4a65c_get_915e3 wsJx4a65c_elementData_915e3 := goodIn_r _ [14, 15, 16, 17, 18] (by decide +kernel) (by decide +kernel)
set_option maxRecDepth 20000 in
theorem gJx4a65c_get_915e3_Jx4a65c_elementData_915e3 : GoodIn wsJx4a65c_get_915e3 (wsV RJx4a65c 123 RJx4a65c yJx4a65c_elementData_915e3 wsJx4a65c_elementData_915e3) := goodIn_app (goodIn_of _ (by decide +kernel)) ggJx4a65c_get_915e3_Jx4a65c_elementData_915e3
theorem dJx4a65c_get_915e3_0 : decode cJx4a65c_get_915e3 0 = .ok (.iload_n 1, 1) := by decide +kernel
theorem dJx4a65c_get_915e3_1 : decode cJx4a65c_get_915e3 1 = .ok (.aload_n 0, 1) := by decide +kernel
theorem dJx4a65c_get_915e3_2 : decode cJx4a65c_get_915e3 2 = .ok (.getfield 48, 3) := by decide +kernel
theorem dJx4a65c_get_915e3_5 : decode cJx4a65c_get_915e3 5 = .ok (.invokestatic 118, 3) := by decide +kernel
theorem dJx4a65c_get_915e3_8 : decode cJx4a65c_get_915e3 8 = .ok (.pop, 1) := by decide +kernel
theorem dJx4a65c_get_915e3_9 : decode cJx4a65c_get_915e3 9 = .ok (.aload_n 0, 1) := by decide +kernel
theorem dJx4a65c_get_915e3_10 : decode cJx4a65c_get_915e3 10 = .ok (.iload_n 1, 1) := by decide +kernel
theorem dJx4a65c_get_915e3_11 : decode cJx4a65c_get_915e3 11 = .ok (.invokevirtual 123, 3) := by decide +kernel
theorem dJx4a65c_get_915e3_14 : decode cJx4a65c_get_915e3 14 = .ok (.areturn, 1) := by decide +kernel
set_option maxRecDepth 20000 in
theorem ggJx4a65c_add_72be8_Jx4a65c_grow_d5877 : GoodIn wsJx4a65c_add_72be8 wsJx4a65c_grow_d5877 := goodIn_r _ [6, 1, 7, 8, 9, 5, 10, 11, 12, 13, 14, 15, 16, 17, 18, 19, 20, 21, 22, 23, 24, 25, 26, 27, 28, 29, 30, 31, 32, 33, 34, 35, 36, 37, 38, 39, 40, 41, 42, 43, 44, 45, 46, 47, 48, 49] (by decide +kernel) (by decide +kernel)
set_option maxRecDepth 20000 in
theorem gJx4a65c_add_72be8_Jx4a65c_grow_d5877 : GoodIn wsJx4a65c_add_72be8 (wsV RJx4a65c 129 RJx4a65c yJx4a65c_grow_d5877 wsJx4a65c_grow_d5877) := goodIn_app (goodIn_of _ (by decide +kernel)) ggJx4a65c_add_72be8_Jx4a65c_grow_d5877
theorem dJx4a65c_add_72be8_0 : decode cJx4a65c_add_72be8 0 = .ok (.iload_n 3, 1) := by decide +kernel
theorem dJx4a65c_add_72be8_1 : decode cJx4a65c_add_72be8 1 = .ok (.aload_n 2, 1) := by decide +kernel
theorem dJx4a65c_add_72be8_2 : decode cJx4a65c_add_72be8 2 = .ok (.arraylength, 1) := by decide +kernel
theorem dJx4a65c_add_72be8_3 : decode cJx4a65c_add_72be8 3 = .ok (.if_icmp .ne 8, 3) := by decide +kernel
theorem dJx4a65c_add_72be8_6 : decode cJx4a65c_add_72be8 6 = .ok (.aload_n 0, 1) := by decide +kernel
theorem dJx4a65c_add_72be8_7 : decode cJx4a65c_add_72be8 7 = .ok (.invokevirtual 129, 3) := by decide +kernel
theorem dJx4a65c_add_72be8_10 : decode cJx4a65c_add_72be8 10 = .ok (.astore_n 2, 1) := by decide +kernel
theorem dJx4a65c_add_72be8_11 : decode cJx4a65c_add_72be8 11 = .ok (.aload_n 2, 1) := by decide +kernel
theorem dJx4a65c_add_72be8_12 : decode cJx4a65c_add_72be8 12 = .ok (.iload_n 3, 1) := by decide +kernel
theorem dJx4a65c_add_72be8_13 : decode cJx4a65c_add_72be8 13 = .ok (.aload_n 1, 1) := by decide +kernel
theorem dJx4a65c_add_72be8_14 : decode cJx4a65c_add_72be8 14 = .ok (.aastore, 1) := by decide +kernel
theorem dJx4a65c_add_72be8_15 : decode cJx4a65c_add_72be8 15 = .ok (.aload_n 0, 1) := by decide +kernel
theorem dJx4a65c_add_72be8_16 : decode cJx4a65c_add_72be8 16 = .ok (.iload_n 3, 1) := by decide +kernel
theorem dJx4a65c_add_72be8_17 : decode cJx4a65c_add_72be8 17 = .ok (.iconst 1, 1) := by decide +kernel
theorem dJx4a65c_add_72be8_18 : decode cJx4a65c_add_72be8 18 = .ok (.iadd, 1) := by decide +kernel
theorem dJx4a65c_add_72be8_19 : decode cJx4a65c_add_72be8 19 = .ok (.putfield 48, 3) := by decide +kernel
theorem dJx4a65c_add_72be8_22 : decode cJx4a65c_add_72be8 22 = .ok (.return_, 1) := by decide +kernel
set_option maxRecDepth 20000 in
theorem ggJx4a65c_add_9ea2d_Jx4a65c_add_72be8 : GoodIn wsJx4a65c_add_9ea2d wsJx4a65c_add_72be8 := goodIn_r _ [9, 4, 10, 11, 12, 8, 13, 14, 15, 16, 17, 3, 18, 19, 20, 21, 22, 23, 24, 25, 26, 27, 28, 29, 30, 31, 32, 33, 34, 35, 36, 37, 38, 39, 40, 41, 42, 43, 44, 45, 46, 47, 48, 49, 50, 51, 52, 53, 54, 55] (by decide +kernel) (by decide +kernel)
set_option maxRecDepth 20000 in
theorem gJx4a65c_add_9ea2d_Jx4a65c_add_72be8 : GoodIn wsJx4a65c_add_9ea2d (wsV RJx4a65c 131 RJx4a65c yJx4a65c_add_72be8 wsJx4a65c_add_72be8) := goodIn_app (goodIn_of _ (by decide +kernel)) ggJx4a65c_add_9ea2d_Jx4a65c_add_72be8
theorem dJx4a65c_add_9ea2d_0 : decode cJx4a65c_add_9ea2d 0 = .ok (.aload_n 0, 1) := by decide +kernel
theorem dJx4a65c_add_9ea2d_1 : decode cJx4a65c_add_9ea2d 1 = .ok (.dup, 1) := by decide +kernel
theorem dJx4a65c_add_9ea2d_2 : decode cJx4a65c_add_9ea2d 2 = .ok (.getfield 63, 3) := by decide +kernel
theorem dJx4a65c_add_9ea2d_5 : decode cJx4a65c_add_9ea2d 5 = .ok (.iconst 1, 1) := by decide +kernel
theorem dJx4a65c_add_9ea2d_6 : decode cJx4a65c_add_9ea2d 6 = .ok (.iadd, 1) := by decide +kernel
theorem dJx4a65c_add_9ea2d_7 : decode cJx4a65c_add_9ea2d 7 = .ok (.putfield 63, 3) := by decide +kernel
theorem dJx4a65c_add_9ea2d_10 : decode cJx4a65c_add_9ea2d 10 = .ok (.aload_n 0, 1) := by decide +kernel
theorem dJx4a65c_add_9ea2d_11 : decode cJx4a65c_add_9ea2d 11 = .ok (.aload_n 1, 1) := by decide +kernel
theorem dJx4a65c_add_9ea2d_12 : decode cJx4a65c_add_9ea2d 12 = .ok (.aload_n 0, 1) := by decide +kernel
theorem dJx4a65c_add_9ea2d_13 : decode cJx4a65c_add_9ea2d 13 = .ok (.getfield 9, 3) := by decide +kernel
theorem dJx4a65c_add_9ea2d_16 : decode cJx4a65c_add_9ea2d 16 = .ok (.aload_n 0, 1) := by decide +kernel
theorem dJx4a65c_add_9ea2d_17 : decode cJx4a65c_add_9ea2d 17 = .ok (.getfield 48, 3) := by decide +kernel
theorem dJx4a65c_add_9ea2d_20 : decode cJx4a65c_add_9ea2d 20 = .ok (.invokevirtual 131, 3) := by decide +kernel
theorem dJx4a65c_add_9ea2d_23 : decode cJx4a65c_add_9ea2d 23 = .ok (.iconst 1, 1) := by decide +kernel
theorem dJx4a65c_add_9ea2d_24 : decode cJx4a65c_add_9ea2d 24 = .ok (.ireturn, 1) := by decide +kernel
set_option maxRecDepth 20000 in
theorem ggJx4a65c_iterator_32c93_Jx35411_init_45d68 : GoodIn wsJx4a65c_iterator_32c93 wsJx35411_init_45d68 := goodIn_r _ [6, 7, 8, 9, 10, 11, 12, 13, 14, 15, 16, 17, 18, 19, 20, 21] (by decide +kernel) (by decide +kernel)
set_option maxRecDepth 20000 in
theorem gJx4a65c_iterator_32c93_Jx35411_init_45d68 : GoodIn wsJx4a65c_iterator_32c93 (wsJx35411_init_45d68) := ggJx4a65c_iterator_32c93_Jx35411_init_45d68
theorem dJx4a65c_iterator_32c93_0 : decode cJx4a65c_iterator_32c93 0 = .ok (.new 267, 3) := by decide +kernel
theorem dJx4a65c_iterator_32c93_3 : decode cJx4a65c_iterator_32c93 3 = .ok (.dup, 1) := by decide +kernel
theorem dJx4a65c_iterator_32c93_4 : decode cJx4a65c_iterator_32c93 4 = .ok (.aload_n 0, 1) := by decide +kernel
theorem dJx4a65c_iterator_32c93_5 : decode cJx4a65c_iterator_32c93 5 = .ok (.invokespecial 269, 3) := by decide +kernel
theorem dJx4a65c_iterator_32c93_8 : decode cJx4a65c_iterator_32c93 8 = .ok (.areturn, 1) := by decide +kernel
set_option maxRecDepth 20000 in
theorem ggJ15_checkIndex_7cf53_J3_checkIndex_8e157 : GoodIn wsJ15_checkIndex_7cf53 wsJ3_checkIndex_8e157 := goodIn_r _ [4] (by decide +kernel) (by decide +kernel)
set_option maxRecDepth 20000 in
theorem gJ15_checkIndex_7cf53_J3_checkIndex_8e157 : GoodIn wsJ15_checkIndex_7cf53 (va_wsS RJ15 105 yJ3_checkIndex_8e157 wsJ3_checkIndex_8e157) := goodIn_app (goodIn_of _ (by decide +kernel)) ggJ15_checkIndex_7cf53_J3_checkIndex_8e157
theorem dJ15_checkIndex_7cf53_0 : decode cJ15_checkIndex_7cf53 0 = .ok (.iload_n 0, 1) := by decide +kernel
theorem dJ15_checkIndex_7cf53_1 : decode cJ15_checkIndex_7cf53 1 = .ok (.iload_n 1, 1) := by decide +kernel
theorem dJ15_checkIndex_7cf53_2 : decode cJ15_checkIndex_7cf53 2 = .ok (.aconst_null, 1) := by decide +kernel
theorem dJ15_checkIndex_7cf53_3 : decode cJ15_checkIndex_7cf53 3 = .ok (.invokestatic 105, 3) := by decide +kernel
theorem dJ15_checkIndex_7cf53_6 : decode cJ15_checkIndex_7cf53 6 = .ok (.ireturn, 1) := by decide +kernel
set_option maxRecDepth 20000 in
theorem ggJ8_newLength_cabcc_J8_hugeLength_7cf53 : GoodIn wsJ8_newLength_cabcc wsJ8_hugeLength_7cf53 := goodIn_r _ [9, 5] (by decide +kernel) (by decide +kernel)
set_option maxRecDepth 20000 in
theorem gJ8_newLength_cabcc_J8_hugeLength_7cf53 : GoodIn wsJ8_newLength_cabcc (va_wsS RJ8 201 yJ8_hugeLength_7cf53 wsJ8_hugeLength_7cf53) := goodIn_app (goodIn_of _ (by decide +kernel)) ggJ8_newLength_cabcc_J8_hugeLength_7cf53
theorem dJ8_newLength_cabcc_0 : decode cJ8_newLength_cabcc 0 = .ok (.iload_n 0, 1) := by decide +kernel
theorem dJ8_newLength_cabcc_1 : decode cJ8_newLength_cabcc 1 = .ok (.iload_n 1, 1) := by decide +kernel
theorem dJ8_newLength_cabcc_2 : decode cJ8_newLength_cabcc 2 = .ok (.iload_n 2, 1) := by decide +kernel
theorem dJ8_newLength_cabcc_3 : decode cJ8_newLength_cabcc 3 = .ok (.invokestatic 194, 3) := by decide +kernel
theorem dJ8_newLength_cabcc_6 : decode cJ8_newLength_cabcc 6 = .ok (.iadd, 1) := by decide +kernel
theorem dJ8_newLength_cabcc_7 : decode cJ8_newLength_cabcc 7 = .ok (.istore_n 3, 1) := by decide +kernel
theorem dJ8_newLength_cabcc_8 : decode cJ8_newLength_cabcc 8 = .ok (.iconst 0, 1) := by decide +kernel
theorem dJ8_newLength_cabcc_9 : decode cJ8_newLength_cabcc 9 = .ok (.iload_n 3, 1) := by decide +kernel
theorem dJ8_newLength_cabcc_10 : decode cJ8_newLength_cabcc 10 = .ok (.if_icmp .ge 11, 3) := by decide +kernel
theorem dJ8_newLength_cabcc_13 : decode cJ8_newLength_cabcc 13 = .ok (.iload_n 3, 1) := by decide +kernel
theorem dJ8_newLength_cabcc_14 : decode cJ8_newLength_cabcc 14 = .ok (.ldc 200, 2) := by decide +kernel
theorem dJ8_newLength_cabcc_16 : decode cJ8_newLength_cabcc 16 = .ok (.if_icmp .gt 5, 3) := by decide +kernel
theorem dJ8_newLength_cabcc_19 : decode cJ8_newLength_cabcc 19 = .ok (.iload_n 3, 1) := by decide +kernel
theorem dJ8_newLength_cabcc_20 : decode cJ8_newLength_cabcc 20 = .ok (.ireturn, 1) := by decide +kernel
theorem dJ8_newLength_cabcc_21 : decode cJ8_newLength_cabcc 21 = .ok (.iload_n 0, 1) := by decide +kernel
theorem dJ8_newLength_cabcc_22 : decode cJ8_newLength_cabcc 22 = .ok (.iload_n 1, 1) := by decide +kernel
theorem dJ8_newLength_cabcc_23 : decode cJ8_newLength_cabcc 23 = .ok (.invokestatic 201, 3) := by decide +kernel
theorem dJ8_newLength_cabcc_26 : decode cJ8_newLength_cabcc 26 = .ok (.ireturn, 1) := by decide +kernel
theorem dJ8_hugeLength_7cf53_0 : decode cJ8_hugeLength_7cf53 0 = .ok (.iload_n 0, 1) := by decide +kernel
theorem dJ8_hugeLength_7cf53_1 : decode cJ8_hugeLength_7cf53 1 = .ok (.iload_n 1, 1) := by decide +kernel
theorem dJ8_hugeLength_7cf53_2 : decode cJ8_hugeLength_7cf53 2 = .ok (.iadd, 1) := by decide +kernel
theorem dJ8_hugeLength_7cf53_3 : decode cJ8_hugeLength_7cf53 3 = .ok (.istore_n 2, 1) := by decide +kernel
theorem dJ8_hugeLength_7cf53_4 : decode cJ8_hugeLength_7cf53 4 = .ok (.iload_n 2, 1) := by decide +kernel
theorem dJ8_hugeLength_7cf53_5 : decode cJ8_hugeLength_7cf53 5 = .ok (.ifCond .ge 44, 3) := by decide +kernel
theorem dJ8_hugeLength_7cf53_8 : decode cJ8_hugeLength_7cf53 8 = .ok (.new 204, 3) := by decide +kernel
theorem dJ8_hugeLength_7cf53_11 : decode cJ8_hugeLength_7cf53 11 = .ok (.dup, 1) := by decide +kernel
theorem dJ8_hugeLength_7cf53_12 : decode cJ8_hugeLength_7cf53 12 = .ok (.new 89, 3) := by decide +kernel
