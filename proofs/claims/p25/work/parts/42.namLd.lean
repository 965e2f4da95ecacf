theorem dL_isDrawn_0 : decode cL_isDrawn 0 = .ok (.aload_n 0, 1) := by decide +kernel
theorem dL_isDrawn_1 : decode cL_isDrawn 1 = .ok (.invokestatic 37, 3) := by decide +kernel
theorem dL_isDrawn_4 : decode cL_isDrawn 4 = .ok (.lstore_n 3, 1) := by decide +kernel
theorem dL_isDrawn_5 : decode cL_isDrawn 5 = .ok (.aload_n 0, 1) := by decide +kernel
theorem dL_isDrawn_6 : decode cL_isDrawn 6 = .ok (.iload_n 1, 1) := by decide +kernel
theorem dL_isDrawn_7 : decode cL_isDrawn 7 = .ok (.invokevirtual 70, 3) := by decide +kernel
theorem dL_isDrawn_10 : decode cL_isDrawn 10 = .ok (.istore 5, 2) := by decide +kernel
theorem dL_isDrawn_12 : decode cL_isDrawn 12 = .ok (.iload_n 2, 1) := by decide +kernel
theorem dL_isDrawn_13 : decode cL_isDrawn 13 = .ok (.iload 5, 2) := by decide +kernel
theorem dL_isDrawn_15 : decode cL_isDrawn 15 = .ok (.if_icmp .le 50, 3) := by decide +kernel
theorem dL_isDrawn_18 : decode cL_isDrawn 18 = .ok (.aload_n 0, 1) := by decide +kernel
theorem dL_isDrawn_19 : decode cL_isDrawn 19 = .ok (.iload_n 1, 1) := by decide +kernel
theorem dL_isDrawn_20 : decode cL_isDrawn 20 = .ok (.iload_n 2, 1) := by decide +kernel
theorem dL_isDrawn_21 : decode cL_isDrawn 21 = .ok (.invokevirtual 55, 3) := by decide +kernel
theorem dL_isDrawn_24 : decode cL_isDrawn 24 = .ok (.bipush (-2), 2) := by decide +kernel
theorem dL_isDrawn_26 : decode cL_isDrawn 26 = .ok (.if_icmp .ne 37, 3) := by decide +kernel
theorem dL_isDrawn_29 : decode cL_isDrawn 29 = .ok (.aload_n 0, 1) := by decide +kernel
theorem dL_isDrawn_30 : decode cL_isDrawn 30 = .ok (.iload_n 1, 1) := by decide +kernel
theorem dL_isDrawn_31 : decode cL_isDrawn 31 = .ok (.iload_n 2, 1) := by decide +kernel
theorem dL_isDrawn_32 : decode cL_isDrawn 32 = .ok (.iload_n 1, 1) := by decide +kernel
theorem dL_isDrawn_33 : decode cL_isDrawn 33 = .ok (.invokevirtual 73, 3) := by decide +kernel
theorem dL_isDrawn_36 : decode cL_isDrawn 36 = .ok (.bipush (-2), 2) := by decide +kernel
theorem dL_isDrawn_38 : decode cL_isDrawn 38 = .ok (.if_icmp .ne 25, 3) := by decide +kernel
theorem dL_isDrawn_41 : decode cL_isDrawn 41 = .ok (.aload_n 0, 1) := by decide +kernel
theorem dL_isDrawn_42 : decode cL_isDrawn 42 = .ok (.iload_n 1, 1) := by decide +kernel
theorem dL_isDrawn_43 : decode cL_isDrawn 43 = .ok (.iload_n 2, 1) := by decide +kernel
theorem dL_isDrawn_44 : decode cL_isDrawn 44 = .ok (.invokevirtual 76, 3) := by decide +kernel
theorem dL_isDrawn_47 : decode cL_isDrawn 47 = .ok (.ifCond .eq 16, 3) := by decide +kernel
theorem dL_isDrawn_50 : decode cL_isDrawn 50 = .ok (.aload_n 0, 1) := by decide +kernel
theorem dL_isDrawn_51 : decode cL_isDrawn 51 = .ok (.invokestatic 37, 3) := by decide +kernel
theorem dL_isDrawn_54 : decode cL_isDrawn 54 = .ok (.lload_n 3, 1) := by decide +kernel
theorem dL_isDrawn_55 : decode cL_isDrawn 55 = .ok (.lcmp, 1) := by decide +kernel
theorem dL_isDrawn_56 : decode cL_isDrawn 56 = .ok (.ifCond .ne 7, 3) := by decide +kernel
theorem dL_isDrawn_59 : decode cL_isDrawn 59 = .ok (.iconst 1, 1) := by decide +kernel
theorem dL_isDrawn_60 : decode cL_isDrawn 60 = .ok (.goto 4, 3) := by decide +kernel
theorem dL_isDrawn_63 : decode cL_isDrawn 63 = .ok (.iconst 0, 1) := by decide +kernel
theorem dL_isDrawn_64 : decode cL_isDrawn 64 = .ok (.ireturn, 1) := by decide +kernel
theorem dL_isDrawn_65 : decode cL_isDrawn 65 = .ok (.iconst 0, 1) := by decide +kernel
theorem dL_isDrawn_66 : decode cL_isDrawn 66 = .ok (.istore 6, 2) := by decide +kernel
theorem dL_isDrawn_68 : decode cL_isDrawn 68 = .ok (.aload_n 0, 1) := by decide +kernel
theorem dL_isDrawn_69 : decode cL_isDrawn 69 = .ok (.iload_n 1, 1) := by decide +kernel
theorem dL_isDrawn_70 : decode cL_isDrawn 70 = .ok (.iload_n 2, 1) := by decide +kernel
theorem dL_isDrawn_71 : decode cL_isDrawn 71 = .ok (.iload_n 1, 1) := by decide +kernel
theorem dL_isDrawn_72 : decode cL_isDrawn 72 = .ok (.invokevirtual 73, 3) := by decide +kernel
theorem dL_isDrawn_75 : decode cL_isDrawn 75 = .ok (.istore 7, 2) := by decide +kernel
theorem dL_isDrawn_77 : decode cL_isDrawn 77 = .ok (.aload_n 0, 1) := by decide +kernel
theorem dL_isDrawn_78 : decode cL_isDrawn 78 = .ok (.iload_n 1, 1) := by decide +kernel
theorem dL_isDrawn_79 : decode cL_isDrawn 79 = .ok (.iload_n 2, 1) := by decide +kernel
theorem dL_isDrawn_80 : decode cL_isDrawn 80 = .ok (.invokevirtual 76, 3) := by decide +kernel
theorem dL_isDrawn_83 : decode cL_isDrawn 83 = .ok (.ifCond .ne 7, 3) := by decide +kernel
theorem dL_isDrawn_86 : decode cL_isDrawn 86 = .ok (.iconst 1, 1) := by decide +kernel
theorem dL_isDrawn_87 : decode cL_isDrawn 87 = .ok (.goto 4, 3) := by decide +kernel
theorem dL_isDrawn_90 : decode cL_isDrawn 90 = .ok (.iconst 0, 1) := by decide +kernel
theorem dL_isDrawn_91 : decode cL_isDrawn 91 = .ok (.istore 8, 2) := by decide +kernel
theorem dL_isDrawn_93 : decode cL_isDrawn 93 = .ok (.iconst 0, 1) := by decide +kernel
theorem dL_isDrawn_94 : decode cL_isDrawn 94 = .ok (.istore 9, 2) := by decide +kernel
theorem dL_isDrawn_96 : decode cL_isDrawn 96 = .ok (.iload 9, 2) := by decide +kernel
theorem dL_isDrawn_98 : decode cL_isDrawn 98 = .ok (.aload_n 0, 1) := by decide +kernel
theorem dL_isDrawn_99 : decode cL_isDrawn 99 = .ok (.iconst 0, 1) := by decide +kernel
theorem dL_isDrawn_100 : decode cL_isDrawn 100 = .ok (.invokevirtual 13, 3) := by decide +kernel
theorem dL_isDrawn_103 : decode cL_isDrawn 103 = .ok (.if_icmp .ge 73, 3) := by decide +kernel
theorem dL_isDrawn_106 : decode cL_isDrawn 106 = .ok (.iload 8, 2) := by decide +kernel
theorem dL_isDrawn_108 : decode cL_isDrawn 108 = .ok (.ifCond .eq 68, 3) := by decide +kernel
theorem dL_isDrawn_111 : decode cL_isDrawn 111 = .ok (.aload_n 0, 1) := by decide +kernel
theorem dL_isDrawn_112 : decode cL_isDrawn 112 = .ok (.iload_n 1, 1) := by decide +kernel
theorem dL_isDrawn_113 : decode cL_isDrawn 113 = .ok (.iload_n 2, 1) := by decide +kernel
theorem dL_isDrawn_114 : decode cL_isDrawn 114 = .ok (.iload 9, 2) := by decide +kernel
theorem dL_isDrawn_116 : decode cL_isDrawn 116 = .ok (.invokevirtual 73, 3) := by decide +kernel
theorem dL_isDrawn_119 : decode cL_isDrawn 119 = .ok (.istore 10, 2) := by decide +kernel
theorem dL_isDrawn_121 : decode cL_isDrawn 121 = .ok (.iload 6, 2) := by decide +kernel
theorem dL_isDrawn_123 : decode cL_isDrawn 123 = .ok (.iload 10, 2) := by decide +kernel
theorem dL_isDrawn_125 : decode cL_isDrawn 125 = .ok (.iadd, 1) := by decide +kernel
theorem dL_isDrawn_126 : decode cL_isDrawn 126 = .ok (.istore 6, 2) := by decide +kernel
theorem dL_isDrawn_128 : decode cL_isDrawn 128 = .ok (.iload 10, 2) := by decide +kernel
theorem dL_isDrawn_130 : decode cL_isDrawn 130 = .ok (.ifCond .lt 37, 3) := by decide +kernel
theorem dL_isDrawn_133 : decode cL_isDrawn 133 = .ok (.iload 10, 2) := by decide +kernel
theorem dL_isDrawn_135 : decode cL_isDrawn 135 = .ok (.aload_n 0, 1) := by decide +kernel
theorem dL_isDrawn_136 : decode cL_isDrawn 136 = .ok (.iload 9, 2) := by decide +kernel
theorem dL_isDrawn_138 : decode cL_isDrawn 138 = .ok (.iconst 4, 1) := by decide +kernel
theorem dL_isDrawn_139 : decode cL_isDrawn 139 = .ok (.invokevirtual 21, 3) := by decide +kernel
theorem dL_isDrawn_142 : decode cL_isDrawn 142 = .ok (.if_icmp .gt 25, 3) := by decide +kernel
theorem dL_isDrawn_145 : decode cL_isDrawn 145 = .ok (.iload 9, 2) := by decide +kernel
theorem dL_isDrawn_147 : decode cL_isDrawn 147 = .ok (.iload_n 1, 1) := by decide +kernel
theorem dL_isDrawn_148 : decode cL_isDrawn 148 = .ok (.if_icmp .eq 15, 3) := by decide +kernel
theorem dL_isDrawn_151 : decode cL_isDrawn 151 = .ok (.iload 10, 2) := by decide +kernel
theorem dL_isDrawn_153 : decode cL_isDrawn 153 = .ok (.aload_n 0, 1) := by decide +kernel
theorem dL_isDrawn_154 : decode cL_isDrawn 154 = .ok (.iload 9, 2) := by decide +kernel
theorem dL_isDrawn_156 : decode cL_isDrawn 156 = .ok (.iconst 3, 1) := by decide +kernel
theorem dL_isDrawn_157 : decode cL_isDrawn 157 = .ok (.invokevirtual 21, 3) := by decide +kernel
theorem dL_isDrawn_160 : decode cL_isDrawn 160 = .ok (.if_icmp .gt 7, 3) := by decide +kernel
theorem dL_isDrawn_163 : decode cL_isDrawn 163 = .ok (.iconst 1, 1) := by decide +kernel
theorem dL_isDrawn_164 : decode cL_isDrawn 164 = .ok (.goto 4, 3) := by decide +kernel
theorem dL_isDrawn_167 : decode cL_isDrawn 167 = .ok (.iconst 0, 1) := by decide +kernel
theorem dL_isDrawn_168 : decode cL_isDrawn 168 = .ok (.istore 8, 2) := by decide +kernel
theorem dL_isDrawn_170 : decode cL_isDrawn 170 = .ok (.iinc 9 1, 3) := by decide +kernel
theorem dL_isDrawn_173 : decode cL_isDrawn 173 = .ok (.goto (-77), 3) := by decide +kernel
theorem dL_isDrawn_176 : decode cL_isDrawn 176 = .ok (.aload_n 0, 1) := by decide +kernel
theorem dL_isDrawn_177 : decode cL_isDrawn 177 = .ok (.bipush 6, 2) := by decide +kernel
theorem dL_isDrawn_179 : decode cL_isDrawn 179 = .ok (.invokevirtual 13, 3) := by decide +kernel
theorem dL_isDrawn_182 : decode cL_isDrawn 182 = .ok (.istore 9, 2) := by decide +kernel
theorem dL_isDrawn_184 : decode cL_isDrawn 184 = .ok (.aload_n 0, 1) := by decide +kernel
theorem dL_isDrawn_185 : decode cL_isDrawn 185 = .ok (.iload_n 1, 1) := by decide +kernel
theorem dL_isDrawn_186 : decode cL_isDrawn 186 = .ok (.iconst 4, 1) := by decide +kernel
theorem dL_isDrawn_187 : decode cL_isDrawn 187 = .ok (.invokevirtual 21, 3) := by decide +kernel
theorem dL_isDrawn_190 : decode cL_isDrawn 190 = .ok (.istore 10, 2) := by decide +kernel
theorem dL_isDrawn_192 : decode cL_isDrawn 192 = .ok (.iload 8, 2) := by decide +kernel
theorem dL_isDrawn_194 : decode cL_isDrawn 194 = .ok (.ifCond .eq 99, 3) := by decide +kernel
theorem dL_isDrawn_197 : decode cL_isDrawn 197 = .ok (.iload 6, 2) := by decide +kernel
theorem dL_isDrawn_199 : decode cL_isDrawn 199 = .ok (.iload_n 2, 1) := by decide +kernel
theorem dL_isDrawn_200 : decode cL_isDrawn 200 = .ok (.if_icmp .ne 93, 3) := by decide +kernel
theorem dL_isDrawn_203 : decode cL_isDrawn 203 = .ok (.iload 7, 2) := by decide +kernel
theorem dL_isDrawn_205 : decode cL_isDrawn 205 = .ok (.iload 10, 2) := by decide +kernel
theorem dL_isDrawn_207 : decode cL_isDrawn 207 = .ok (.iload_n 2, 1) := by decide +kernel
theorem dL_isDrawn_208 : decode cL_isDrawn 208 = .ok (.if_icmp .ge 8, 3) := by decide +kernel
theorem dL_isDrawn_211 : decode cL_isDrawn 211 = .ok (.iload 10, 2) := by decide +kernel
theorem dL_isDrawn_213 : decode cL_isDrawn 213 = .ok (.goto 4, 3) := by decide +kernel
theorem dL_isDrawn_216 : decode cL_isDrawn 216 = .ok (.iload_n 2, 1) := by decide +kernel
theorem dL_isDrawn_217 : decode cL_isDrawn 217 = .ok (.if_icmp .ne 76, 3) := by decide +kernel
theorem dL_isDrawn_220 : decode cL_isDrawn 220 = .ok (.aload_n 0, 1) := by decide +kernel
theorem dL_isDrawn_221 : decode cL_isDrawn 221 = .ok (.iload_n 1, 1) := by decide +kernel
theorem dL_isDrawn_222 : decode cL_isDrawn 222 = .ok (.iload_n 2, 1) := by decide +kernel
theorem dL_isDrawn_223 : decode cL_isDrawn 223 = .ok (.invokevirtual 55, 3) := by decide +kernel
theorem dL_isDrawn_226 : decode cL_isDrawn 226 = .ok (.iload_n 2, 1) := by decide +kernel
theorem dL_isDrawn_227 : decode cL_isDrawn 227 = .ok (.iload 7, 2) := by decide +kernel
theorem dL_isDrawn_229 : decode cL_isDrawn 229 = .ok (.isub, 1) := by decide +kernel
theorem dL_isDrawn_230 : decode cL_isDrawn 230 = .ok (.if_icmp .ne 63, 3) := by decide +kernel
theorem dL_isDrawn_233 : decode cL_isDrawn 233 = .ok (.aload_n 0, 1) := by decide +kernel
theorem dL_isDrawn_234 : decode cL_isDrawn 234 = .ok (.bipush 6, 2) := by decide +kernel
theorem dL_isDrawn_236 : decode cL_isDrawn 236 = .ok (.invokevirtual 13, 3) := by decide +kernel
theorem dL_isDrawn_239 : decode cL_isDrawn 239 = .ok (.iload 9, 2) := by decide +kernel
theorem dL_isDrawn_241 : decode cL_isDrawn 241 = .ok (.iload_n 2, 1) := by decide +kernel
theorem dL_isDrawn_242 : decode cL_isDrawn 242 = .ok (.iadd, 1) := by decide +kernel
theorem dL_isDrawn_243 : decode cL_isDrawn 243 = .ok (.if_icmp .ne 50, 3) := by decide +kernel
theorem dL_isDrawn_246 : decode cL_isDrawn 246 = .ok (.aload_n 0, 1) := by decide +kernel
theorem dL_isDrawn_247 : decode cL_isDrawn 247 = .ok (.iload_n 1, 1) := by decide +kernel
theorem dL_isDrawn_248 : decode cL_isDrawn 248 = .ok (.invokevirtual 70, 3) := by decide +kernel
theorem dL_isDrawn_251 : decode cL_isDrawn 251 = .ok (.iload 5, 2) := by decide +kernel
theorem dL_isDrawn_253 : decode cL_isDrawn 253 = .ok (.iload 7, 2) := by decide +kernel
theorem dL_isDrawn_255 : decode cL_isDrawn 255 = .ok (.isub, 1) := by decide +kernel
theorem dL_isDrawn_256 : decode cL_isDrawn 256 = .ok (.if_icmp .gt 37, 3) := by decide +kernel
theorem dL_isDrawn_259 : decode cL_isDrawn 259 = .ok (.aload_n 0, 1) := by decide +kernel
theorem dL_isDrawn_260 : decode cL_isDrawn 260 = .ok (.iload_n 1, 1) := by decide +kernel
theorem dL_isDrawn_261 : decode cL_isDrawn 261 = .ok (.iconst 4, 1) := by decide +kernel
theorem dL_isDrawn_262 : decode cL_isDrawn 262 = .ok (.invokevirtual 21, 3) := by decide +kernel
theorem dL_isDrawn_265 : decode cL_isDrawn 265 = .ok (.iload 10, 2) := by decide +kernel
theorem dL_isDrawn_267 : decode cL_isDrawn 267 = .ok (.iload 7, 2) := by decide +kernel
theorem dL_isDrawn_269 : decode cL_isDrawn 269 = .ok (.isub, 1) := by decide +kernel
theorem dL_isDrawn_270 : decode cL_isDrawn 270 = .ok (.if_icmp .ne 23, 3) := by decide +kernel
theorem dL_isDrawn_273 : decode cL_isDrawn 273 = .ok (.aload_n 0, 1) := by decide +kernel
theorem dL_isDrawn_274 : decode cL_isDrawn 274 = .ok (.invokevirtual 89, 3) := by decide +kernel
theorem dL_isDrawn_277 : decode cL_isDrawn 277 = .ok (.ifCond .lt 16, 3) := by decide +kernel
theorem dL_isDrawn_280 : decode cL_isDrawn 280 = .ok (.aload_n 0, 1) := by decide +kernel
theorem dL_isDrawn_281 : decode cL_isDrawn 281 = .ok (.invokestatic 37, 3) := by decide +kernel
theorem dL_isDrawn_284 : decode cL_isDrawn 284 = .ok (.lload_n 3, 1) := by decide +kernel
theorem dL_isDrawn_285 : decode cL_isDrawn 285 = .ok (.lcmp, 1) := by decide +kernel
theorem dL_isDrawn_286 : decode cL_isDrawn 286 = .ok (.ifCond .ne 7, 3) := by decide +kernel
theorem dL_isDrawn_289 : decode cL_isDrawn 289 = .ok (.iconst 1, 1) := by decide +kernel
theorem dL_isDrawn_290 : decode cL_isDrawn 290 = .ok (.goto 4, 3) := by decide +kernel
theorem dL_isDrawn_293 : decode cL_isDrawn 293 = .ok (.iconst 0, 1) := by decide +kernel
theorem dL_isDrawn_294 : decode cL_isDrawn 294 = .ok (.ireturn, 1) := by decide +kernel
set_option maxRecDepth 20000 in
theorem ggL_isAhead_L_print : GoodIn wsL_isAhead wsL_print := goodIn_r _ [4, 5, 6, 7, 8, 9, 10, 11, 12, 13, 14, 15, 16, 17, 18, 19, 20, 21, 22, 23, 24, 25, 26, 27, 28, 29, 30, 31, 32, 33, 34, 35, 36, 37, 38, 39, 40, 41, 42, 43, 44, 45, 46, 47, 48, 49, 50, 51, 52, 53, 54, 55, 56, 57, 58, 59, 60, 61, 62, 179, 180, 181, 182, 183, 184, 185, 186, 187, 188, 189, 190, 191, 192, 193, 194, 195, 196, 197, 198, 199, 200, 201, 202] (by decide +kernel) (by decide +kernel)
set_option maxRecDepth 20000 in
theorem gL_isAhead_L_print : GoodIn wsL_isAhead (va_wsS RL 37 yL_print wsL_print) := goodIn_app (goodIn_of _ (by decide +kernel)) ggL_isAhead_L_print
set_option maxRecDepth 20000 in
theorem ggL_isAhead_X3_waterIn : GoodIn wsL_isAhead wsX3_waterIn := goodIn_r _ [66, 16, 67, 36, 37, 38, 22, 39, 24, 68, 69, 70, 71, 25, 49, 72, 30, 48, 62, 31, 73, 74, 75, 76, 77, 78, 79, 80, 81, 82, 83, 84, 85, 86, 87, 88, 89, 90, 91, 92, 44, 45, 46, 47, 93, 94, 95, 96, 97, 27, 28, 29, 98, 99, 100, 101, 102, 103, 104, 105, 106, 107, 108, 109, 110, 111, 112, 113, 114, 115, 116, 117, 118, 119, 120, 121, 122, 123, 124, 125, 126, 127, 128, 129, 130, 131, 179, 180, 181, 182, 183, 184, 185, 186, 187, 188, 189, 190, 191, 192] (by decide +kernel) (by decide +kernel)
set_option maxRecDepth 20000 in
theorem gL_isAhead_X3_waterIn : GoodIn wsL_isAhead (wsV RL 79 RX3 yX3_waterIn wsX3_waterIn) := goodIn_app (goodIn_of _ (by decide +kernel)) ggL_isAhead_X3_waterIn
set_option maxRecDepth 20000 in
theorem ggL_isAhead_X3_possibleIn : GoodIn wsL_isAhead wsX3_possibleIn := goodIn_r _ [135, 16, 67, 36, 37, 38, 22, 39, 24, 136, 137, 14, 138, 68, 69, 70, 71, 25, 49, 72, 30, 48, 62, 31, 73, 74, 75, 76, 77, 78, 79, 80, 81, 82, 83, 84, 139, 116, 117, 118, 119, 120, 121, 122, 123, 102, 85, 86, 87, 88, 89, 90, 91, 92, 44, 45, 46, 47, 93, 94, 95, 96, 97, 27, 28, 29, 98, 99, 100, 101, 103, 104, 105, 106, 107, 108, 109, 110, 111, 112, 113, 114, 115, 124, 125, 126, 127, 128, 129, 130, 131, 179, 180, 181, 182, 183, 184, 185, 186, 187, 188, 189, 190, 191, 192] (by decide +kernel) (by decide +kernel)
set_option maxRecDepth 20000 in
theorem gL_isAhead_X3_possibleIn : GoodIn wsL_isAhead (wsV RL 76 RX3 yX3_possibleIn wsX3_possibleIn) := goodIn_app (goodIn_of _ (by decide +kernel)) ggL_isAhead_X3_possibleIn
set_option maxRecDepth 20000 in
theorem ggL_isAhead_X3_count : GoodIn wsL_isAhead wsX3_count := goodIn_r _ [15, 16, 17, 18, 19, 20, 21, 22, 23, 24, 25, 26, 27, 28, 29, 30, 31, 179, 180, 181, 182, 183, 184, 185, 186, 187, 188, 189, 190, 191, 192, 193, 194, 195, 196, 197, 198, 199, 200, 201, 202] (by decide +kernel) (by decide +kernel)
set_option maxRecDepth 20000 in
theorem gL_isAhead_X3_count : GoodIn wsL_isAhead (wsV RL 13 RX3 yX3_count wsX3_count) := goodIn_app (goodIn_of _ (by decide +kernel)) ggL_isAhead_X3_count
set_option maxRecDepth 20000 in
theorem ggL_isAhead_X3_wellOf : GoodIn wsL_isAhead wsX3_wellOf := goodIn_r _ [35, 16, 36, 37, 38, 22, 39, 24, 40, 41, 42, 43, 44, 45, 46, 47, 48, 49, 179, 180, 181, 182, 183, 184, 185, 186, 187, 188, 189, 190, 191, 192] (by decide +kernel) (by decide +kernel)
set_option maxRecDepth 20000 in
theorem gL_isAhead_X3_wellOf : GoodIn wsL_isAhead (wsV RL 21 RX3 yX3_wellOf wsX3_wellOf) := goodIn_app (goodIn_of _ (by decide +kernel)) ggL_isAhead_X3_wellOf
set_option maxRecDepth 20000 in
theorem ggL_isAhead_X3_tick : GoodIn wsL_isAhead wsX3_tick := goodIn_r _ [143, 17, 16, 144, 145, 146, 147, 148, 149, 150, 151, 152, 69, 70, 22, 71, 25, 49, 72, 30, 24, 48, 62, 31, 73, 74, 75, 76, 77, 78, 79, 80, 81, 82, 83, 84, 153, 154, 155, 156, 157, 158, 86, 87, 88, 89, 90, 91, 92, 44, 45, 46, 47, 93, 94, 95, 96, 97, 27, 28, 29, 98, 99, 100, 101, 102, 37, 38, 39, 103, 104, 105, 106, 107, 108, 109, 110, 111, 112, 113, 114, 115, 116, 117, 118, 119, 120, 121, 122, 123, 124, 125, 126, 127, 128, 129, 130, 131, 159, 160, 161, 14, 162, 163, 164, 165, 166, 179, 180, 181, 182, 193, 194, 195, 183, 184, 185, 186, 187, 188, 189, 190, 191, 192] (by decide +kernel) (by decide +kernel)
set_option maxRecDepth 20000 in
theorem gL_isAhead_X3_tick : GoodIn wsL_isAhead (wsV RL 64 RX3 yX3_tick wsX3_tick) := goodIn_app (goodIn_of _ (by decide +kernel)) ggL_isAhead_X3_tick
set_option maxRecDepth 20000 in
theorem ggL_isAhead_X3_able : GoodIn wsL_isAhead wsX3_able := goodIn_r _ [170, 16, 36, 37, 38, 22, 39, 24, 139, 116, 117, 118, 119, 25, 77, 78, 79, 80, 120, 121, 122, 123, 102, 179, 180, 181, 182, 183, 184, 185, 186, 187, 188, 189, 190, 191, 192] (by decide +kernel) (by decide +kernel)
set_option maxRecDepth 20000 in
theorem gL_isAhead_X3_able : GoodIn wsL_isAhead (wsV RL 70 RX3 yX3_able wsX3_able) := goodIn_app (goodIn_of _ (by decide +kernel)) ggL_isAhead_X3_able
set_option maxRecDepth 20000 in
theorem ggL_isAhead_X3_undo : GoodIn wsL_isAhead wsX3_undo := goodIn_r _ [174, 17, 16, 175, 176, 177, 147, 178, 151, 149, 150, 152, 69, 70, 22, 71, 25, 49, 72, 30, 24, 48, 62, 31, 73, 74, 75, 76, 77, 78, 79, 80, 81, 82, 83, 84, 179, 180, 181, 182, 193, 194, 195, 183, 184, 185, 186, 187, 188, 189, 190, 191, 192] (by decide +kernel) (by decide +kernel)
set_option maxRecDepth 20000 in
theorem gL_isAhead_X3_undo : GoodIn wsL_isAhead (wsV RL 89 RX3 yX3_undo wsX3_undo) := goodIn_app (goodIn_of _ (by decide +kernel)) ggL_isAhead_X3_undo
