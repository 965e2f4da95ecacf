theorem dL_isAhead_0 : decode cL_isAhead 0 = .ok (.aload_n 0, 1) := by decide +kernel
theorem dL_isAhead_1 : decode cL_isAhead 1 = .ok (.invokestatic 37, 3) := by decide +kernel
theorem dL_isAhead_4 : decode cL_isAhead 4 = .ok (.lstore 4, 2) := by decide +kernel
theorem dL_isAhead_6 : decode cL_isAhead 6 = .ok (.aload_n 0, 1) := by decide +kernel
theorem dL_isAhead_7 : decode cL_isAhead 7 = .ok (.iload_n 1, 1) := by decide +kernel
theorem dL_isAhead_8 : decode cL_isAhead 8 = .ok (.iload_n 2, 1) := by decide +kernel
theorem dL_isAhead_9 : decode cL_isAhead 9 = .ok (.invokevirtual 79, 3) := by decide +kernel
theorem dL_isAhead_12 : decode cL_isAhead 12 = .ok (.istore 6, 2) := by decide +kernel
theorem dL_isAhead_14 : decode cL_isAhead 14 = .ok (.aload_n 0, 1) := by decide +kernel
theorem dL_isAhead_15 : decode cL_isAhead 15 = .ok (.iload_n 1, 1) := by decide +kernel
theorem dL_isAhead_16 : decode cL_isAhead 16 = .ok (.iload_n 3, 1) := by decide +kernel
theorem dL_isAhead_17 : decode cL_isAhead 17 = .ok (.invokevirtual 76, 3) := by decide +kernel
theorem dL_isAhead_20 : decode cL_isAhead 20 = .ok (.istore 7, 2) := by decide +kernel
theorem dL_isAhead_22 : decode cL_isAhead 22 = .ok (.aload_n 0, 1) := by decide +kernel
theorem dL_isAhead_23 : decode cL_isAhead 23 = .ok (.bipush 11, 2) := by decide +kernel
theorem dL_isAhead_25 : decode cL_isAhead 25 = .ok (.invokevirtual 13, 3) := by decide +kernel
theorem dL_isAhead_28 : decode cL_isAhead 28 = .ok (.istore 8, 2) := by decide +kernel
theorem dL_isAhead_30 : decode cL_isAhead 30 = .ok (.aload_n 0, 1) := by decide +kernel
theorem dL_isAhead_31 : decode cL_isAhead 31 = .ok (.iload_n 1, 1) := by decide +kernel
theorem dL_isAhead_32 : decode cL_isAhead 32 = .ok (.iconst 0, 1) := by decide +kernel
theorem dL_isAhead_33 : decode cL_isAhead 33 = .ok (.invokevirtual 79, 3) := by decide +kernel
theorem dL_isAhead_36 : decode cL_isAhead 36 = .ok (.aload_n 0, 1) := by decide +kernel
theorem dL_isAhead_37 : decode cL_isAhead 37 = .ok (.iload_n 1, 1) := by decide +kernel
theorem dL_isAhead_38 : decode cL_isAhead 38 = .ok (.iconst 4, 1) := by decide +kernel
theorem dL_isAhead_39 : decode cL_isAhead 39 = .ok (.invokevirtual 21, 3) := by decide +kernel
theorem dL_isAhead_42 : decode cL_isAhead 42 = .ok (.if_icmp .ne 89, 3) := by decide +kernel
theorem dL_isAhead_45 : decode cL_isAhead 45 = .ok (.aload_n 0, 1) := by decide +kernel
theorem dL_isAhead_46 : decode cL_isAhead 46 = .ok (.iload_n 2, 1) := by decide +kernel
theorem dL_isAhead_47 : decode cL_isAhead 47 = .ok (.invokevirtual 64, 3) := by decide +kernel
theorem dL_isAhead_50 : decode cL_isAhead 50 = .ok (.aload_n 0, 1) := by decide +kernel
theorem dL_isAhead_51 : decode cL_isAhead 51 = .ok (.bipush 11, 2) := by decide +kernel
theorem dL_isAhead_53 : decode cL_isAhead 53 = .ok (.invokevirtual 13, 3) := by decide +kernel
theorem dL_isAhead_56 : decode cL_isAhead 56 = .ok (.iload 8, 2) := by decide +kernel
theorem dL_isAhead_58 : decode cL_isAhead 58 = .ok (.isub, 1) := by decide +kernel
theorem dL_isAhead_59 : decode cL_isAhead 59 = .ok (.if_icmp .ne 72, 3) := by decide +kernel
theorem dL_isAhead_62 : decode cL_isAhead 62 = .ok (.aload_n 0, 1) := by decide +kernel
theorem dL_isAhead_63 : decode cL_isAhead 63 = .ok (.iload_n 1, 1) := by decide +kernel
theorem dL_isAhead_64 : decode cL_isAhead 64 = .ok (.iconst 4, 1) := by decide +kernel
theorem dL_isAhead_65 : decode cL_isAhead 65 = .ok (.invokevirtual 21, 3) := by decide +kernel
theorem dL_isAhead_68 : decode cL_isAhead 68 = .ok (.iload 6, 2) := by decide +kernel
theorem dL_isAhead_70 : decode cL_isAhead 70 = .ok (.if_icmp .ne 61, 3) := by decide +kernel
theorem dL_isAhead_73 : decode cL_isAhead 73 = .ok (.iload 7, 2) := by decide +kernel
theorem dL_isAhead_75 : decode cL_isAhead 75 = .ok (.iload_n 2, 1) := by decide +kernel
theorem dL_isAhead_76 : decode cL_isAhead 76 = .ok (.if_icmp .ne 12, 3) := by decide +kernel
theorem dL_isAhead_79 : decode cL_isAhead 79 = .ok (.aload_n 0, 1) := by decide +kernel
theorem dL_isAhead_80 : decode cL_isAhead 80 = .ok (.iload_n 1, 1) := by decide +kernel
theorem dL_isAhead_81 : decode cL_isAhead 81 = .ok (.invokevirtual 70, 3) := by decide +kernel
theorem dL_isAhead_84 : decode cL_isAhead 84 = .ok (.iload_n 3, 1) := by decide +kernel
theorem dL_isAhead_85 : decode cL_isAhead 85 = .ok (.if_icmp .lt 46, 3) := by decide +kernel
theorem dL_isAhead_88 : decode cL_isAhead 88 = .ok (.iload 7, 2) := by decide +kernel
theorem dL_isAhead_90 : decode cL_isAhead 90 = .ok (.bipush (-4), 2) := by decide +kernel
theorem dL_isAhead_92 : decode cL_isAhead 92 = .ok (.if_icmp .eq 18, 3) := by decide +kernel
theorem dL_isAhead_95 : decode cL_isAhead 95 = .ok (.iload 7, 2) := by decide +kernel
theorem dL_isAhead_97 : decode cL_isAhead 97 = .ok (.iload_n 2, 1) := by decide +kernel
theorem dL_isAhead_98 : decode cL_isAhead 98 = .ok (.if_icmp .le 12, 3) := by decide +kernel
theorem dL_isAhead_101 : decode cL_isAhead 101 = .ok (.aload_n 0, 1) := by decide +kernel
theorem dL_isAhead_102 : decode cL_isAhead 102 = .ok (.iload_n 1, 1) := by decide +kernel
theorem dL_isAhead_103 : decode cL_isAhead 103 = .ok (.invokevirtual 70, 3) := by decide +kernel
theorem dL_isAhead_106 : decode cL_isAhead 106 = .ok (.iload_n 3, 1) := by decide +kernel
theorem dL_isAhead_107 : decode cL_isAhead 107 = .ok (.if_icmp .ge 24, 3) := by decide +kernel
theorem dL_isAhead_110 : decode cL_isAhead 110 = .ok (.aload_n 0, 1) := by decide +kernel
theorem dL_isAhead_111 : decode cL_isAhead 111 = .ok (.invokevirtual 89, 3) := by decide +kernel
theorem dL_isAhead_114 : decode cL_isAhead 114 = .ok (.ifCond .lt 17, 3) := by decide +kernel
theorem dL_isAhead_117 : decode cL_isAhead 117 = .ok (.aload_n 0, 1) := by decide +kernel
theorem dL_isAhead_118 : decode cL_isAhead 118 = .ok (.invokestatic 37, 3) := by decide +kernel
theorem dL_isAhead_121 : decode cL_isAhead 121 = .ok (.lload 4, 2) := by decide +kernel
theorem dL_isAhead_123 : decode cL_isAhead 123 = .ok (.lcmp, 1) := by decide +kernel
theorem dL_isAhead_124 : decode cL_isAhead 124 = .ok (.ifCond .ne 7, 3) := by decide +kernel
theorem dL_isAhead_127 : decode cL_isAhead 127 = .ok (.iconst 1, 1) := by decide +kernel
theorem dL_isAhead_128 : decode cL_isAhead 128 = .ok (.goto 4, 3) := by decide +kernel
theorem dL_isAhead_131 : decode cL_isAhead 131 = .ok (.iconst 0, 1) := by decide +kernel
theorem dL_isAhead_132 : decode cL_isAhead 132 = .ok (.istore 9, 2) := by decide +kernel
theorem dL_isAhead_134 : decode cL_isAhead 134 = .ok (.iload 9, 2) := by decide +kernel
theorem dL_isAhead_136 : decode cL_isAhead 136 = .ok (.ifCond .eq 75, 3) := by decide +kernel
theorem dL_isAhead_139 : decode cL_isAhead 139 = .ok (.iload 7, 2) := by decide +kernel
theorem dL_isAhead_141 : decode cL_isAhead 141 = .ok (.iconst 1, 1) := by decide +kernel
theorem dL_isAhead_142 : decode cL_isAhead 142 = .ok (.if_icmp .le 69, 3) := by decide +kernel
theorem dL_isAhead_145 : decode cL_isAhead 145 = .ok (.iload 7, 2) := by decide +kernel
theorem dL_isAhead_147 : decode cL_isAhead 147 = .ok (.sipush 200, 3) := by decide +kernel
theorem dL_isAhead_150 : decode cL_isAhead 150 = .ok (.if_icmp .gt 61, 3) := by decide +kernel
theorem dL_isAhead_153 : decode cL_isAhead 153 = .ok (.aload_n 0, 1) := by decide +kernel
theorem dL_isAhead_154 : decode cL_isAhead 154 = .ok (.iload 7, 2) := by decide +kernel
theorem dL_isAhead_156 : decode cL_isAhead 156 = .ok (.iconst 1, 1) := by decide +kernel
theorem dL_isAhead_157 : decode cL_isAhead 157 = .ok (.isub, 1) := by decide +kernel
theorem dL_isAhead_158 : decode cL_isAhead 158 = .ok (.invokevirtual 64, 3) := by decide +kernel
theorem dL_isAhead_161 : decode cL_isAhead 161 = .ok (.ifCond .lt 47, 3) := by decide +kernel
theorem dL_isAhead_164 : decode cL_isAhead 164 = .ok (.aload_n 0, 1) := by decide +kernel
theorem dL_isAhead_165 : decode cL_isAhead 165 = .ok (.iload_n 1, 1) := by decide +kernel
theorem dL_isAhead_166 : decode cL_isAhead 166 = .ok (.invokevirtual 70, 3) := by decide +kernel
theorem dL_isAhead_169 : decode cL_isAhead 169 = .ok (.iload_n 3, 1) := by decide +kernel
theorem dL_isAhead_170 : decode cL_isAhead 170 = .ok (.if_icmp .ge 38, 3) := by decide +kernel
theorem dL_isAhead_173 : decode cL_isAhead 173 = .ok (.aload_n 0, 1) := by decide +kernel
theorem dL_isAhead_174 : decode cL_isAhead 174 = .ok (.iconst 1, 1) := by decide +kernel
theorem dL_isAhead_175 : decode cL_isAhead 175 = .ok (.invokevirtual 64, 3) := by decide +kernel
theorem dL_isAhead_178 : decode cL_isAhead 178 = .ok (.ifCond .lt 30, 3) := by decide +kernel
theorem dL_isAhead_181 : decode cL_isAhead 181 = .ok (.aload_n 0, 1) := by decide +kernel
theorem dL_isAhead_182 : decode cL_isAhead 182 = .ok (.iload_n 1, 1) := by decide +kernel
theorem dL_isAhead_183 : decode cL_isAhead 183 = .ok (.invokevirtual 70, 3) := by decide +kernel
theorem dL_isAhead_186 : decode cL_isAhead 186 = .ok (.iload_n 3, 1) := by decide +kernel
theorem dL_isAhead_187 : decode cL_isAhead 187 = .ok (.if_icmp .lt 21, 3) := by decide +kernel
theorem dL_isAhead_190 : decode cL_isAhead 190 = .ok (.aload_n 0, 1) := by decide +kernel
theorem dL_isAhead_191 : decode cL_isAhead 191 = .ok (.invokevirtual 89, 3) := by decide +kernel
theorem dL_isAhead_194 : decode cL_isAhead 194 = .ok (.ifCond .lt 14, 3) := by decide +kernel
theorem dL_isAhead_197 : decode cL_isAhead 197 = .ok (.aload_n 0, 1) := by decide +kernel
theorem dL_isAhead_198 : decode cL_isAhead 198 = .ok (.invokevirtual 89, 3) := by decide +kernel
theorem dL_isAhead_201 : decode cL_isAhead 201 = .ok (.ifCond .lt 7, 3) := by decide +kernel
theorem dL_isAhead_204 : decode cL_isAhead 204 = .ok (.iconst 1, 1) := by decide +kernel
theorem dL_isAhead_205 : decode cL_isAhead 205 = .ok (.goto 4, 3) := by decide +kernel
theorem dL_isAhead_208 : decode cL_isAhead 208 = .ok (.iconst 0, 1) := by decide +kernel
theorem dL_isAhead_209 : decode cL_isAhead 209 = .ok (.istore 9, 2) := by decide +kernel
theorem dL_isAhead_211 : decode cL_isAhead 211 = .ok (.iload 9, 2) := by decide +kernel
theorem dL_isAhead_213 : decode cL_isAhead 213 = .ok (.ifCond .eq 17, 3) := by decide +kernel
theorem dL_isAhead_216 : decode cL_isAhead 216 = .ok (.aload_n 0, 1) := by decide +kernel
theorem dL_isAhead_217 : decode cL_isAhead 217 = .ok (.invokestatic 37, 3) := by decide +kernel
theorem dL_isAhead_220 : decode cL_isAhead 220 = .ok (.lload 4, 2) := by decide +kernel
theorem dL_isAhead_222 : decode cL_isAhead 222 = .ok (.lcmp, 1) := by decide +kernel
theorem dL_isAhead_223 : decode cL_isAhead 223 = .ok (.ifCond .ne 7, 3) := by decide +kernel
theorem dL_isAhead_226 : decode cL_isAhead 226 = .ok (.iconst 1, 1) := by decide +kernel
theorem dL_isAhead_227 : decode cL_isAhead 227 = .ok (.goto 4, 3) := by decide +kernel
theorem dL_isAhead_230 : decode cL_isAhead 230 = .ok (.iconst 0, 1) := by decide +kernel
theorem dL_isAhead_231 : decode cL_isAhead 231 = .ok (.ireturn, 1) := by decide +kernel
set_option maxRecDepth 20000 in
theorem ggL_law_X3_init : GoodIn wsL_law wsX3_init := goodIn_r _ [5, 6, 7, 8, 9, 10, 11, 12, 13, 14, 15, 16, 17, 18, 19, 20, 21, 22, 23, 24, 25, 26, 27, 28, 29, 30, 31, 32, 33, 34, 35, 36, 37, 38, 39, 40, 41, 42, 43, 44, 45, 355, 356, 357, 358, 359, 360, 361, 362, 363, 364, 351, 352, 353, 354, 365, 366, 367, 368, 369, 370, 371, 372, 373, 374] (by decide +kernel) (by decide +kernel)
set_option maxRecDepth 20000 in
theorem gL_law_X3_init : GoodIn wsL_law (wsX3_init) := ggL_law_X3_init
set_option maxRecDepth 20000 in
theorem ggL_law_X3_undo : GoodIn wsL_law wsX3_undo := goodIn_r _ [49, 17, 12, 50, 51, 52, 16, 53, 54, 38, 55, 56, 57, 58, 11, 59, 28, 29, 30, 31, 60, 61, 62, 63, 64, 65, 66, 67, 68, 69, 70, 71, 72, 73, 74, 75, 351, 352, 353, 354, 365, 366, 367, 355, 356, 357, 358, 359, 360, 361, 362, 363, 364] (by decide +kernel) (by decide +kernel)
set_option maxRecDepth 20000 in
theorem gL_law_X3_undo : GoodIn wsL_law (wsV RL 89 RX3 yX3_undo wsX3_undo) := goodIn_app (goodIn_of _ (by decide +kernel)) ggL_law_X3_undo
set_option maxRecDepth 20000 in
theorem ggL_law_X3_count : GoodIn wsL_law wsX3_count := goodIn_r _ [79, 12, 17, 21, 80, 81, 82, 11, 83, 60, 28, 84, 85, 86, 87, 31, 63, 351, 352, 353, 354, 355, 356, 357, 358, 359, 360, 361, 362, 363, 364, 365, 366, 367, 368, 369, 370, 371, 372, 373, 374] (by decide +kernel) (by decide +kernel)
set_option maxRecDepth 20000 in
theorem gL_law_X3_count : GoodIn wsL_law (wsV RL 13 RX3 yX3_count wsX3_count) := goodIn_app (goodIn_of _ (by decide +kernel)) ggL_law_X3_count
set_option maxRecDepth 20000 in
theorem ggL_law_X3_fault : GoodIn wsL_law wsX3_fault := goodIn_r _ [91, 13, 12, 21, 92, 57, 58, 11, 59, 28, 29, 30, 31, 60, 61, 62, 63, 64, 65, 66, 67, 68, 69, 70, 71, 72, 73, 74, 75, 93, 94, 95, 20, 96, 97, 98, 99, 100, 101, 44, 102, 103, 104, 105, 106, 107, 108, 109, 110, 111, 112, 45, 113, 114, 115, 116, 117, 118, 119, 120, 121, 122, 123, 124, 125, 126, 127, 128, 2, 129, 130, 131, 132, 133, 32, 134, 135, 136, 137, 138, 139, 140, 141, 142, 143, 144, 145, 146, 147, 148, 149, 150, 151, 152, 153, 154, 155, 156, 157, 158, 159, 160, 161, 162, 163, 164, 165, 166, 167, 85, 86, 87, 168, 169, 170, 171, 172, 173, 174, 175, 176, 177, 178, 179, 180, 181, 182, 183, 184, 185, 186, 187, 188, 189, 190, 191, 192, 351, 352, 353, 354, 368, 369, 370, 371, 372, 373, 374, 355, 356, 357, 358, 359, 360, 361, 362, 363, 364] (by decide +kernel) (by decide +kernel)
set_option maxRecDepth 20000 in
theorem gL_law_X3_fault : GoodIn wsL_law (wsV RL 85 RX3 yX3_fault wsX3_fault) := goodIn_app (goodIn_of _ (by decide +kernel)) ggL_law_X3_fault
set_option maxRecDepth 20000 in
theorem ggL_law_X3_play : GoodIn wsL_law wsX3_play := goodIn_r _ [196, 17, 12, 13, 21, 197, 198, 199, 16, 200, 38, 55, 54, 56, 57, 58, 11, 59, 28, 29, 30, 31, 60, 61, 62, 63, 64, 65, 66, 67, 68, 69, 70, 71, 72, 73, 74, 75, 92, 93, 94, 95, 20, 96, 97, 98, 99, 100, 101, 44, 102, 103, 104, 105, 106, 107, 108, 109, 110, 111, 112, 45, 113, 114, 115, 116, 117, 118, 119, 120, 121, 122, 123, 124, 125, 126, 127, 128, 2, 129, 130, 131, 132, 133, 32, 134, 135, 136, 137, 138, 139, 140, 141, 142, 143, 144, 145, 146, 147, 148, 149, 150, 151, 152, 153, 154, 155, 156, 157, 158, 159, 160, 161, 162, 163, 164, 165, 166, 167, 85, 86, 87, 168, 169, 170, 171, 172, 173, 174, 175, 176, 177, 178, 179, 180, 181, 182, 183, 184, 185, 186, 187, 188, 189, 190, 191, 192, 201, 202, 203, 204, 205, 206, 207, 208, 351, 352, 353, 354, 368, 369, 370, 371, 372, 373, 374, 365, 366, 367, 355, 356, 357, 358, 359, 360, 361, 362, 363, 364] (by decide +kernel) (by decide +kernel)
set_option maxRecDepth 20000 in
theorem gL_law_X3_play : GoodIn wsL_law (wsV RL 94 RX3 yX3_play wsX3_play) := goodIn_app (goodIn_of _ (by decide +kernel)) ggL_law_X3_play
set_option maxRecDepth 20000 in
theorem ggL_law_X3_lenders : GoodIn wsL_law wsX3_lenders := goodIn_r _ [212, 13, 12, 92, 57, 58, 11, 59, 28, 29, 30, 31, 60, 61, 62, 63, 64, 65, 66, 67, 68, 69, 70, 71, 72, 73, 74, 75, 213, 169, 170, 171, 124, 125, 126, 127, 163, 164, 165, 166, 351, 352, 353, 354, 355, 356, 357, 358, 359, 360, 361, 362, 363, 364] (by decide +kernel) (by decide +kernel)
set_option maxRecDepth 20000 in
theorem gL_law_X3_lenders : GoodIn wsL_law (wsV RL 97 RX3 yX3_lenders wsX3_lenders) := goodIn_app (goodIn_of _ (by decide +kernel)) ggL_law_X3_lenders
set_option maxRecDepth 20000 in
theorem ggL_law_L_refused : GoodIn wsL_law wsL_refused := goodIn_r _ [217, 218, 219, 220, 221, 216, 222, 223, 224, 225, 226, 227, 228, 76, 77, 78, 2, 79, 12, 17, 21, 80, 81, 82, 11, 83, 60, 28, 84, 85, 86, 87, 31, 63, 229, 230, 231, 232, 233, 125, 126, 127, 234, 235, 236, 237, 159, 160, 161, 162, 61, 29, 238, 239, 240, 241, 242, 243, 244, 245, 246, 247, 248, 249, 62, 250, 251, 252, 253, 197, 198, 199, 16, 200, 38, 55, 54, 56, 57, 58, 59, 30, 64, 65, 66, 67, 68, 69, 70, 71, 72, 73, 74, 75, 254, 255, 256, 257, 124, 201, 202, 203, 204, 205, 206, 207, 208, 258, 259, 260, 261, 262, 189, 190, 191, 192, 263, 264, 265, 266, 267, 268, 269, 270, 271, 272, 273, 274, 275, 121, 122, 123, 128, 129, 130, 131, 132, 133, 32, 134, 135, 136, 137, 138, 139, 140, 141, 276, 277, 278, 279, 280, 143, 144, 145, 281, 282, 283, 284, 285, 286, 287, 288, 289, 184, 185, 186, 187, 290, 291, 292, 293, 294, 147, 148, 149, 150, 151, 152, 153, 154, 155, 156, 157, 158, 163, 164, 165, 166, 167, 168, 169, 170, 171, 172, 173, 174, 175, 176, 177, 178, 179, 180, 181, 182, 183, 295, 296, 297, 298, 299, 300, 301, 302, 303, 304, 305, 306, 307, 308, 309, 310, 311, 312, 313, 314, 315, 316, 13, 92, 317, 318, 319, 320, 321, 322, 323, 324, 325, 326, 327, 328, 20, 329, 101, 44, 88, 89, 90, 91, 93, 94, 95, 96, 97, 98, 99, 100, 102, 103, 104, 105, 106, 107, 108, 109, 110, 111, 112, 45, 113, 114, 115, 116, 117, 118, 119, 120, 142, 146, 188, 351, 352, 353, 354, 355, 356, 357, 358, 359, 360, 361, 362, 363, 364, 365, 366, 367, 368, 369, 370, 371, 372, 373, 374] rfl (by decide +kernel)
set_option maxRecDepth 20000 in
theorem gL_law_L_refused : GoodIn wsL_law (va_wsS RL 100 yL_refused wsL_refused) := goodIn_app (goodIn_of _ (by decide +kernel)) ggL_law_L_refused
set_option maxRecDepth 20000 in
theorem ggL_law_L_cell : GoodIn wsL_law wsL_cell := goodIn_r _ [332, 333] rfl (by decide +kernel)
set_option maxRecDepth 20000 in
theorem gL_law_L_cell : GoodIn wsL_law (va_wsS RL 104 yL_cell wsL_cell) := goodIn_app (goodIn_of _ (by decide +kernel)) ggL_law_L_cell
set_option maxRecDepth 20000 in
theorem ggL_law_L_low : GoodIn wsL_law wsL_low := goodIn_r _ [336, 337] rfl (by decide +kernel)
set_option maxRecDepth 20000 in
theorem gL_law_L_low : GoodIn wsL_law (va_wsS RL 108 yL_low wsL_low) := goodIn_app (goodIn_of _ (by decide +kernel)) ggL_law_L_low
set_option maxRecDepth 20000 in
theorem ggL_law_X3_well : GoodIn wsL_law wsX3_well := goodIn_r _ [253, 17, 12, 197, 198, 199, 16, 200, 38, 55, 54, 56, 57, 58, 11, 59, 28, 29, 30, 31, 60, 61, 62, 63, 64, 65, 66, 67, 68, 69, 70, 71, 72, 73, 74, 75, 254, 255, 256, 257, 124, 125, 126, 127, 201, 202, 203, 2, 204, 205, 206, 207, 208, 351, 352, 353, 354, 365, 366, 367, 355, 356, 357, 358, 359, 360, 361, 362, 363, 364] (by decide +kernel) (by decide +kernel)
set_option maxRecDepth 20000 in
theorem gL_law_X3_well : GoodIn wsL_law (wsV RL 43 RX3 yX3_well wsX3_well) := goodIn_app (goodIn_of _ (by decide +kernel)) ggL_law_X3_well
set_option maxRecDepth 20000 in
theorem ggL_law_X3_wellOf : GoodIn wsL_law wsX3_wellOf := goodIn_r _ [232, 12, 233, 125, 126, 11, 127, 60, 234, 235, 236, 237, 159, 160, 161, 162, 61, 29, 351, 352, 353, 354, 355, 356, 357, 358, 359, 360, 361, 362, 363, 364] (by decide +kernel) (by decide +kernel)
set_option maxRecDepth 20000 in
theorem gL_law_X3_wellOf : GoodIn wsL_law (wsV RL 21 RX3 yX3_wellOf wsX3_wellOf) := goodIn_app (goodIn_of _ (by decide +kernel)) ggL_law_X3_wellOf
set_option maxRecDepth 20000 in
theorem ggL_law_X3_drought : GoodIn wsL_law wsX3_drought := goodIn_r _ [261, 17, 12, 197, 198, 199, 16, 200, 38, 55, 54, 56, 57, 58, 11, 59, 28, 29, 30, 31, 60, 61, 62, 63, 64, 65, 66, 67, 68, 69, 70, 71, 72, 73, 74, 75, 262, 189, 190, 191, 192, 124, 125, 126, 127, 201, 202, 203, 2, 204, 205, 206, 207, 208, 351, 352, 353, 354, 365, 366, 367, 355, 356, 357, 358, 359, 360, 361, 362, 363, 364] (by decide +kernel) (by decide +kernel)
set_option maxRecDepth 20000 in
theorem gL_law_X3_drought : GoodIn wsL_law (wsV RL 48 RX3 yX3_drought wsX3_drought) := goodIn_app (goodIn_of _ (by decide +kernel)) ggL_law_X3_drought
set_option maxRecDepth 20000 in
theorem ggL_law_X3_droughtOf : GoodIn wsL_law wsX3_droughtOf := goodIn_r _ [241, 12, 351, 352, 353, 354, 355, 356, 357, 358, 359, 360, 361, 362, 363, 364] (by decide +kernel) (by decide +kernel)
set_option maxRecDepth 20000 in
theorem gL_law_X3_droughtOf : GoodIn wsL_law (wsV RL 25 RX3 yX3_droughtOf wsX3_droughtOf) := goodIn_app (goodIn_of _ (by decide +kernel)) ggL_law_X3_droughtOf
set_option maxRecDepth 20000 in
theorem ggL_law_X3_able : GoodIn wsL_law wsX3_able := goodIn_r _ [306, 12, 233, 125, 126, 11, 127, 60, 307, 131, 132, 133, 32, 28, 68, 69, 70, 71, 134, 135, 136, 137, 124, 351, 352, 353, 354, 355, 356, 357, 358, 359, 360, 361, 362, 363, 364] (by decide +kernel) (by decide +kernel)
set_option maxRecDepth 20000 in
theorem gL_law_X3_able : GoodIn wsL_law (wsV RL 70 RX3 yX3_able wsX3_able) := goodIn_app (goodIn_of _ (by decide +kernel)) ggL_law_X3_able
set_option maxRecDepth 20000 in
theorem ggL_law_X3_draw : GoodIn wsL_law wsX3_draw := goodIn_r _ [274, 17, 12, 197, 198, 199, 16, 200, 38, 55, 54, 56, 57, 58, 11, 59, 28, 29, 30, 31, 60, 61, 62, 63, 64, 65, 66, 67, 68, 69, 70, 71, 72, 73, 74, 75, 275, 121, 122, 123, 124, 125, 126, 127, 128, 2, 129, 130, 131, 132, 133, 32, 134, 135, 136, 137, 138, 139, 140, 141, 201, 202, 203, 204, 205, 206, 207, 208, 351, 352, 353, 354, 365, 366, 367, 355, 356, 357, 358, 359, 360, 361, 362, 363, 364] (by decide +kernel) (by decide +kernel)
set_option maxRecDepth 20000 in
theorem gL_law_X3_draw : GoodIn wsL_law (wsV RL 55 RX3 yX3_draw wsX3_draw) := goodIn_app (goodIn_of _ (by decide +kernel)) ggL_law_X3_draw
set_option maxRecDepth 20000 in
theorem ggL_law_X3_request : GoodIn wsL_law wsX3_request := goodIn_r _ [279, 17, 12, 197, 198, 199, 16, 200, 38, 55, 54, 56, 57, 58, 11, 59, 28, 29, 30, 31, 60, 61, 62, 63, 64, 65, 66, 67, 68, 69, 70, 71, 72, 73, 74, 75, 280, 143, 144, 145, 124, 125, 126, 127, 128, 2, 129, 130, 131, 132, 133, 32, 134, 135, 136, 137, 138, 139, 140, 141, 201, 202, 203, 204, 205, 206, 207, 208, 351, 352, 353, 354, 365, 366, 367, 355, 356, 357, 358, 359, 360, 361, 362, 363, 364] (by decide +kernel) (by decide +kernel)
set_option maxRecDepth 20000 in
theorem gL_law_X3_request : GoodIn wsL_law (wsV RL 58 RX3 yX3_request wsX3_request) := goodIn_app (goodIn_of _ (by decide +kernel)) ggL_law_X3_request
set_option maxRecDepth 20000 in
theorem ggL_law_X3_requestAt : GoodIn wsL_law wsX3_requestAt := goodIn_r _ [245, 12, 246, 247, 248, 11, 249, 62, 351, 352, 353, 354, 355, 356, 357, 358, 359, 360, 361, 362, 363, 364] (by decide +kernel) (by decide +kernel)
set_option maxRecDepth 20000 in
theorem gL_law_X3_requestAt : GoodIn wsL_law (wsV RL 32 RX3 yX3_requestAt wsX3_requestAt) := goodIn_app (goodIn_of _ (by decide +kernel)) ggL_law_X3_requestAt
set_option maxRecDepth 20000 in
theorem ggL_law_X3_cancel : GoodIn wsL_law wsX3_cancel := goodIn_r _ [284, 17, 12, 197, 198, 199, 16, 200, 38, 55, 54, 56, 57, 58, 11, 59, 28, 29, 30, 31, 60, 61, 62, 63, 64, 65, 66, 67, 68, 69, 70, 71, 72, 73, 74, 75, 285, 286, 287, 288, 289, 247, 248, 249, 184, 185, 186, 187, 201, 202, 203, 2, 204, 205, 206, 207, 208, 351, 352, 353, 354, 365, 366, 367, 355, 356, 357, 358, 359, 360, 361, 362, 363, 364] (by decide +kernel) (by decide +kernel)
set_option maxRecDepth 20000 in
theorem gL_law_X3_cancel : GoodIn wsL_law (wsV RL 61 RX3 yX3_cancel wsX3_cancel) := goodIn_app (goodIn_of _ (by decide +kernel)) ggL_law_X3_cancel
set_option maxRecDepth 20000 in
theorem ggL_law_X3_tick : GoodIn wsL_law wsX3_tick := goodIn_r _ [293, 17, 12, 197, 198, 199, 16, 200, 38, 55, 54, 56, 57, 58, 11, 59, 28, 29, 30, 31, 60, 61, 62, 63, 64, 65, 66, 67, 68, 69, 70, 71, 72, 73, 74, 75, 294, 147, 148, 149, 150, 151, 152, 153, 154, 155, 156, 157, 158, 159, 160, 161, 162, 163, 164, 165, 166, 167, 85, 86, 87, 168, 169, 170, 171, 124, 125, 126, 127, 172, 173, 174, 175, 176, 177, 178, 179, 180, 181, 182, 183, 130, 131, 132, 133, 32, 134, 135, 136, 137, 138, 139, 140, 141, 184, 185, 186, 187, 201, 202, 203, 2, 204, 205, 206, 207, 208, 351, 352, 353, 354, 365, 366, 367, 355, 356, 357, 358, 359, 360, 361, 362, 363, 364] (by decide +kernel) (by decide +kernel)
set_option maxRecDepth 20000 in
theorem gL_law_X3_tick : GoodIn wsL_law (wsV RL 64 RX3 yX3_tick wsX3_tick) := goodIn_app (goodIn_of _ (by decide +kernel)) ggL_law_X3_tick
set_option maxRecDepth 20000 in
theorem ggL_law_X3_set : GoodIn wsL_law wsX3_set := goodIn_r _ [298, 17, 12, 197, 198, 199, 16, 200, 38, 55, 54, 56, 57, 58, 11, 59, 28, 29, 30, 31, 60, 61, 62, 63, 64, 65, 66, 67, 68, 69, 70, 71, 72, 73, 74, 75, 299, 300, 301, 302, 201, 202, 203, 2, 204, 205, 206, 207, 208, 351, 352, 353, 354, 365, 366, 367, 355, 356, 357, 358, 359, 360, 361, 362, 363, 364] (by decide +kernel) (by decide +kernel)
set_option maxRecDepth 20000 in
theorem gL_law_X3_set : GoodIn wsL_law (wsV RL 67 RX3 yX3_set wsX3_set) := goodIn_app (goodIn_of _ (by decide +kernel)) ggL_law_X3_set
set_option maxRecDepth 20000 in
theorem ggL_law_X3_clearText : GoodIn wsL_law wsX3_clearText := goodIn_r _ [341, 21, 351, 352, 353, 354, 368, 369, 370, 371, 372, 373, 374] (by decide +kernel) (by decide +kernel)
set_option maxRecDepth 20000 in
theorem gL_law_X3_clearText : GoodIn wsL_law (wsV RL 111 RX3 yX3_clearText wsX3_clearText) := goodIn_app (goodIn_of _ (by decide +kernel)) ggL_law_X3_clearText
set_option maxRecDepth 20000 in
theorem ggL_law_X3_type : GoodIn wsL_law wsX3_type := goodIn_r _ [325, 21, 326, 327, 328, 20, 329, 101, 44, 351, 352, 353, 354, 368, 369, 370, 371, 372, 373, 374] (by decide +kernel) (by decide +kernel)
set_option maxRecDepth 20000 in
theorem gL_law_X3_type : GoodIn wsL_law (wsV RL 82 RX3 yX3_type wsX3_type) := goodIn_app (goodIn_of _ (by decide +kernel)) ggL_law_X3_type
set_option maxRecDepth 20000 in
theorem ggL_law_L_print : GoodIn wsL_law wsL_print := goodIn_r _ [222, 223, 224, 225, 226, 227, 228, 76, 77, 78, 2, 79, 12, 17, 21, 80, 81, 82, 11, 83, 60, 28, 84, 85, 86, 87, 31, 63, 229, 230, 231, 232, 233, 125, 126, 127, 234, 235, 236, 237, 159, 160, 161, 162, 61, 29, 238, 239, 240, 241, 242, 243, 244, 245, 246, 247, 248, 249, 62, 351, 352, 353, 354, 355, 356, 357, 358, 359, 360, 361, 362, 363, 364, 365, 366, 367, 368, 369, 370, 371, 372, 373, 374] rfl (by decide +kernel)
set_option maxRecDepth 20000 in
theorem gL_law_L_print : GoodIn wsL_law (va_wsS RL 37 yL_print wsL_print) := goodIn_app (goodIn_of _ (by decide +kernel)) ggL_law_L_print
set_option maxRecDepth 20000 in
theorem ggL_law_L_addsUp : GoodIn wsL_law wsL_addsUp := goodIn_r _ [344, 76, 77, 78, 2, 79, 12, 17, 21, 80, 81, 82, 11, 83, 60, 28, 84, 85, 86, 87, 31, 63, 229, 230, 231, 232, 233, 125, 126, 127, 234, 235, 236, 237, 159, 160, 161, 162, 61, 29, 263, 264, 265, 266, 267, 268, 269, 270, 68, 69, 70, 71, 124, 242, 243, 244, 245, 246, 247, 248, 249, 62, 351, 352, 353, 354, 355, 356, 357, 358, 359, 360, 361, 362, 363, 364, 365, 366, 367, 368, 369, 370, 371, 372, 373, 374] rfl (by decide +kernel)
set_option maxRecDepth 20000 in
theorem gL_law_L_addsUp : GoodIn wsL_law (va_wsS RL 114 yL_addsUp wsL_addsUp) := goodIn_app (goodIn_of _ (by decide +kernel)) ggL_law_L_addsUp
set_option maxRecDepth 20000 in
theorem ggL_law_L_isDrawn : GoodIn wsL_law wsL_isDrawn := goodIn_r _ [347, 220, 221, 216, 222, 223, 224, 225, 226, 227, 228, 76, 77, 78, 2, 79, 12, 17, 21, 80, 81, 82, 11, 83, 60, 28, 84, 85, 86, 87, 31, 63, 229, 230, 231, 232, 233, 125, 126, 127, 234, 235, 236, 237, 159, 160, 161, 162, 61, 29, 238, 239, 240, 241, 242, 243, 244, 245, 246, 247, 248, 249, 62, 303, 304, 305, 306, 307, 131, 132, 133, 32, 68, 69, 70, 71, 134, 135, 136, 137, 124, 271, 272, 273, 274, 197, 198, 199, 16, 200, 38, 55, 54, 56, 57, 58, 59, 30, 64, 65, 66, 67, 72, 73, 74, 75, 275, 121, 122, 123, 128, 129, 130, 138, 139, 140, 141, 201, 202, 203, 204, 205, 206, 207, 208, 308, 309, 310, 311, 312, 313, 314, 315, 316, 13, 92, 317, 152, 153, 154, 155, 156, 157, 158, 163, 164, 165, 166, 167, 168, 169, 170, 171, 172, 173, 174, 175, 176, 177, 178, 179, 180, 181, 182, 183, 184, 185, 186, 187, 46, 47, 48, 49, 50, 51, 52, 53, 351, 352, 353, 354, 355, 356, 357, 358, 359, 360, 361, 362, 363, 364, 365, 366, 367, 368, 369, 370, 371, 372, 373, 374] rfl (by decide +kernel)
set_option maxRecDepth 20000 in
theorem gL_law_L_isDrawn : GoodIn wsL_law (va_wsS RL 117 yL_isDrawn wsL_isDrawn) := goodIn_app (goodIn_of _ (by decide +kernel)) ggL_law_L_isDrawn
set_option maxRecDepth 20000 in
theorem ggL_law_L_isAhead : GoodIn wsL_law wsL_isAhead := goodIn_r _ [350, 220, 221, 216, 222, 223, 224, 225, 226, 227, 228, 76, 77, 78, 2, 79, 12, 17, 21, 80, 81, 82, 11, 83, 60, 28, 84, 85, 86, 87, 31, 63, 229, 230, 231, 232, 233, 125, 126, 127, 234, 235, 236, 237, 159, 160, 161, 162, 61, 29, 238, 239, 240, 241, 242, 243, 244, 245, 246, 247, 248, 249, 62, 318, 319, 320, 321, 13, 92, 57, 58, 59, 30, 64, 65, 66, 67, 68, 69, 70, 71, 72, 73, 74, 75, 317, 152, 153, 154, 155, 156, 157, 158, 163, 164, 165, 166, 167, 168, 169, 170, 171, 124, 172, 173, 174, 175, 176, 177, 178, 179, 180, 181, 182, 183, 130, 131, 132, 133, 32, 134, 135, 136, 137, 138, 139, 140, 141, 184, 185, 186, 187, 313, 314, 315, 316, 312, 128, 129, 307, 290, 291, 292, 293, 197, 198, 199, 16, 200, 38, 55, 54, 56, 294, 147, 148, 149, 150, 151, 201, 202, 203, 204, 205, 206, 207, 208, 303, 304, 305, 306, 46, 47, 48, 49, 50, 51, 52, 53, 351, 352, 353, 354, 355, 356, 357, 358, 359, 360, 361, 362, 363, 364, 365, 366, 367, 368, 369, 370, 371, 372, 373, 374] rfl (by decide +kernel)
set_option maxRecDepth 20000 in
theorem gL_law_L_isAhead : GoodIn wsL_law (va_wsS RL 121 yL_isAhead wsL_isAhead) := goodIn_app (goodIn_of _ (by decide +kernel)) ggL_law_L_isAhead
