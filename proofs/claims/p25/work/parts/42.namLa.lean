theorem dL_cell_0 : decode cL_cell 0 = .ok (.iload_n 1, 1) := by decide +kernel
theorem dL_cell_1 : decode cL_cell 1 = .ok (.aload_n 0, 1) := by decide +kernel
theorem dL_cell_2 : decode cL_cell 2 = .ok (.arraylength, 1) := by decide +kernel
theorem dL_cell_3 : decode cL_cell 3 = .ok (.if_icmp .ge 9, 3) := by decide +kernel
theorem dL_cell_6 : decode cL_cell 6 = .ok (.aload_n 0, 1) := by decide +kernel
theorem dL_cell_7 : decode cL_cell 7 = .ok (.iload_n 1, 1) := by decide +kernel
theorem dL_cell_8 : decode cL_cell 8 = .ok (.iaload, 1) := by decide +kernel
theorem dL_cell_9 : decode cL_cell 9 = .ok (.goto 9, 3) := by decide +kernel
theorem dL_cell_12 : decode cL_cell 12 = .ok (.ldc 7, 2) := by decide +kernel
theorem dL_cell_14 : decode cL_cell 14 = .ok (.iload_n 1, 1) := by decide +kernel
theorem dL_cell_15 : decode cL_cell 15 = .ok (.iconst 1, 1) := by decide +kernel
theorem dL_cell_16 : decode cL_cell 16 = .ok (.iadd, 1) := by decide +kernel
theorem dL_cell_17 : decode cL_cell 17 = .ok (.imul, 1) := by decide +kernel
theorem dL_cell_18 : decode cL_cell 18 = .ok (.ireturn, 1) := by decide +kernel
theorem dL_low_0 : decode cL_low 0 = .ok (.iload_n 0, 1) := by decide +kernel
theorem dL_low_1 : decode cL_low 1 = .ok (.ldc 8, 2) := by decide +kernel
theorem dL_low_3 : decode cL_low 3 = .ok (.iand, 1) := by decide +kernel
theorem dL_low_4 : decode cL_low 4 = .ok (.iload_n 1, 1) := by decide +kernel
theorem dL_low_5 : decode cL_low 5 = .ok (.irem, 1) := by decide +kernel
theorem dL_low_6 : decode cL_low 6 = .ok (.ireturn, 1) := by decide +kernel
set_option maxRecDepth 20000 in
theorem ggL_print_X3_count : GoodIn wsL_print wsX3_count := goodIn_r _ [11, 12, 13, 14, 15, 16, 17, 18, 19, 20, 21, 22, 23, 24, 25, 26, 27, 59, 60, 61, 62, 63, 64, 65, 66, 67, 68, 69, 70, 71, 72, 73, 74, 75, 76, 77, 78, 79, 80, 81, 82] (by decide +kernel) (by decide +kernel)
set_option maxRecDepth 20000 in
theorem gL_print_X3_count : GoodIn wsL_print (wsV RL 13 RX3 yX3_count wsX3_count) := goodIn_app (goodIn_of _ (by decide +kernel)) ggL_print_X3_count
set_option maxRecDepth 20000 in
theorem ggL_print_X3_wellOf : GoodIn wsL_print wsX3_wellOf := goodIn_r _ [31, 12, 32, 33, 34, 18, 35, 20, 36, 37, 38, 39, 40, 41, 42, 43, 44, 45, 59, 60, 61, 62, 63, 64, 65, 66, 67, 68, 69, 70, 71, 72] (by decide +kernel) (by decide +kernel)
set_option maxRecDepth 20000 in
theorem gL_print_X3_wellOf : GoodIn wsL_print (wsV RL 21 RX3 yX3_wellOf wsX3_wellOf) := goodIn_app (goodIn_of _ (by decide +kernel)) ggL_print_X3_wellOf
set_option maxRecDepth 20000 in
theorem ggL_print_X3_droughtOf : GoodIn wsL_print wsX3_droughtOf := goodIn_r _ [49, 12, 59, 60, 61, 62, 63, 64, 65, 66, 67, 68, 69, 70, 71, 72] (by decide +kernel) (by decide +kernel)
set_option maxRecDepth 20000 in
theorem gL_print_X3_droughtOf : GoodIn wsL_print (wsV RL 25 RX3 yX3_droughtOf wsX3_droughtOf) := goodIn_app (goodIn_of _ (by decide +kernel)) ggL_print_X3_droughtOf
set_option maxRecDepth 20000 in
theorem ggL_print_X3_requestAt : GoodIn wsL_print wsX3_requestAt := goodIn_r _ [53, 12, 54, 55, 56, 18, 57, 58, 59, 60, 61, 62, 63, 64, 65, 66, 67, 68, 69, 70, 71, 72] (by decide +kernel) (by decide +kernel)
set_option maxRecDepth 20000 in
theorem gL_print_X3_requestAt : GoodIn wsL_print (wsV RL 32 RX3 yX3_requestAt wsX3_requestAt) := goodIn_app (goodIn_of _ (by decide +kernel)) ggL_print_X3_requestAt
theorem dL_print_0 : decode cL_print 0 = .ok (.ldc2_w 9, 3) := by decide +kernel
theorem dL_print_3 : decode cL_print 3 = .ok (.lstore_n 1, 1) := by decide +kernel
theorem dL_print_4 : decode cL_print 4 = .ok (.iconst 0, 1) := by decide +kernel
theorem dL_print_5 : decode cL_print 5 = .ok (.istore_n 3, 1) := by decide +kernel
theorem dL_print_6 : decode cL_print 6 = .ok (.iload_n 3, 1) := by decide +kernel
theorem dL_print_7 : decode cL_print 7 = .ok (.bipush 13, 2) := by decide +kernel
theorem dL_print_9 : decode cL_print 9 = .ok (.if_icmp .ge 22, 3) := by decide +kernel
theorem dL_print_12 : decode cL_print 12 = .ok (.ldc2_w 11, 3) := by decide +kernel
theorem dL_print_15 : decode cL_print 15 = .ok (.lload_n 1, 1) := by decide +kernel
theorem dL_print_16 : decode cL_print 16 = .ok (.lmul, 1) := by decide +kernel
theorem dL_print_17 : decode cL_print 17 = .ok (.aload_n 0, 1) := by decide +kernel
theorem dL_print_18 : decode cL_print 18 = .ok (.iload_n 3, 1) := by decide +kernel
theorem dL_print_19 : decode cL_print 19 = .ok (.invokevirtual 13, 3) := by decide +kernel
theorem dL_print_22 : decode cL_print 22 = .ok (.i2l, 1) := by decide +kernel
theorem dL_print_23 : decode cL_print 23 = .ok (.ladd, 1) := by decide +kernel
theorem dL_print_24 : decode cL_print 24 = .ok (.lstore_n 1, 1) := by decide +kernel
theorem dL_print_25 : decode cL_print 25 = .ok (.iinc 3 1, 3) := by decide +kernel
theorem dL_print_28 : decode cL_print 28 = .ok (.goto (-22), 3) := by decide +kernel
theorem dL_print_31 : decode cL_print 31 = .ok (.ldc2_w 11, 3) := by decide +kernel
theorem dL_print_34 : decode cL_print 34 = .ok (.lload_n 1, 1) := by decide +kernel
theorem dL_print_35 : decode cL_print 35 = .ok (.lmul, 1) := by decide +kernel
theorem dL_print_36 : decode cL_print 36 = .ok (.aload_n 0, 1) := by decide +kernel
theorem dL_print_37 : decode cL_print 37 = .ok (.bipush 20, 2) := by decide +kernel
theorem dL_print_39 : decode cL_print 39 = .ok (.invokevirtual 13, 3) := by decide +kernel
theorem dL_print_42 : decode cL_print 42 = .ok (.i2l, 1) := by decide +kernel
theorem dL_print_43 : decode cL_print 43 = .ok (.ladd, 1) := by decide +kernel
theorem dL_print_44 : decode cL_print 44 = .ok (.ldc2_w 19, 3) := by decide +kernel
theorem dL_print_47 : decode cL_print 47 = .ok (.aload_n 0, 1) := by decide +kernel
theorem dL_print_48 : decode cL_print 48 = .ok (.bipush 21, 2) := by decide +kernel
theorem dL_print_50 : decode cL_print 50 = .ok (.invokevirtual 13, 3) := by decide +kernel
theorem dL_print_53 : decode cL_print 53 = .ok (.i2l, 1) := by decide +kernel
theorem dL_print_54 : decode cL_print 54 = .ok (.lmul, 1) := by decide +kernel
theorem dL_print_55 : decode cL_print 55 = .ok (.ladd, 1) := by decide +kernel
theorem dL_print_56 : decode cL_print 56 = .ok (.lstore_n 1, 1) := by decide +kernel
theorem dL_print_57 : decode cL_print 57 = .ok (.iconst 0, 1) := by decide +kernel
theorem dL_print_58 : decode cL_print 58 = .ok (.istore_n 3, 1) := by decide +kernel
theorem dL_print_59 : decode cL_print 59 = .ok (.iload_n 3, 1) := by decide +kernel
theorem dL_print_60 : decode cL_print 60 = .ok (.aload_n 0, 1) := by decide +kernel
theorem dL_print_61 : decode cL_print 61 = .ok (.iconst 0, 1) := by decide +kernel
theorem dL_print_62 : decode cL_print 62 = .ok (.invokevirtual 13, 3) := by decide +kernel
theorem dL_print_65 : decode cL_print 65 = .ok (.if_icmp .ge 40, 3) := by decide +kernel
theorem dL_print_68 : decode cL_print 68 = .ok (.iconst 0, 1) := by decide +kernel
theorem dL_print_69 : decode cL_print 69 = .ok (.istore 4, 2) := by decide +kernel
theorem dL_print_71 : decode cL_print 71 = .ok (.iload 4, 2) := by decide +kernel
theorem dL_print_73 : decode cL_print 73 = .ok (.bipush 14, 2) := by decide +kernel
theorem dL_print_75 : decode cL_print 75 = .ok (.if_icmp .ge 24, 3) := by decide +kernel
theorem dL_print_78 : decode cL_print 78 = .ok (.ldc2_w 11, 3) := by decide +kernel
theorem dL_print_81 : decode cL_print 81 = .ok (.lload_n 1, 1) := by decide +kernel
theorem dL_print_82 : decode cL_print 82 = .ok (.lmul, 1) := by decide +kernel
theorem dL_print_83 : decode cL_print 83 = .ok (.aload_n 0, 1) := by decide +kernel
theorem dL_print_84 : decode cL_print 84 = .ok (.iload_n 3, 1) := by decide +kernel
theorem dL_print_85 : decode cL_print 85 = .ok (.iload 4, 2) := by decide +kernel
theorem dL_print_87 : decode cL_print 87 = .ok (.invokevirtual 21, 3) := by decide +kernel
theorem dL_print_90 : decode cL_print 90 = .ok (.i2l, 1) := by decide +kernel
theorem dL_print_91 : decode cL_print 91 = .ok (.ladd, 1) := by decide +kernel
theorem dL_print_92 : decode cL_print 92 = .ok (.lstore_n 1, 1) := by decide +kernel
theorem dL_print_93 : decode cL_print 93 = .ok (.iinc 4 1, 3) := by decide +kernel
theorem dL_print_96 : decode cL_print 96 = .ok (.goto (-25), 3) := by decide +kernel
theorem dL_print_99 : decode cL_print 99 = .ok (.iinc 3 1, 3) := by decide +kernel
theorem dL_print_102 : decode cL_print 102 = .ok (.goto (-43), 3) := by decide +kernel
theorem dL_print_105 : decode cL_print 105 = .ok (.iconst 0, 1) := by decide +kernel
theorem dL_print_106 : decode cL_print 106 = .ok (.istore_n 3, 1) := by decide +kernel
theorem dL_print_107 : decode cL_print 107 = .ok (.iload_n 3, 1) := by decide +kernel
theorem dL_print_108 : decode cL_print 108 = .ok (.aload_n 0, 1) := by decide +kernel
theorem dL_print_109 : decode cL_print 109 = .ok (.iconst 1, 1) := by decide +kernel
theorem dL_print_110 : decode cL_print 110 = .ok (.invokevirtual 13, 3) := by decide +kernel
theorem dL_print_113 : decode cL_print 113 = .ok (.if_icmp .ge 47, 3) := by decide +kernel
theorem dL_print_116 : decode cL_print 116 = .ok (.ldc2_w 11, 3) := by decide +kernel
theorem dL_print_119 : decode cL_print 119 = .ok (.lload_n 1, 1) := by decide +kernel
theorem dL_print_120 : decode cL_print 120 = .ok (.lmul, 1) := by decide +kernel
theorem dL_print_121 : decode cL_print 121 = .ok (.aload_n 0, 1) := by decide +kernel
theorem dL_print_122 : decode cL_print 122 = .ok (.iload_n 3, 1) := by decide +kernel
theorem dL_print_123 : decode cL_print 123 = .ok (.iconst 0, 1) := by decide +kernel
theorem dL_print_124 : decode cL_print 124 = .ok (.invokevirtual 25, 3) := by decide +kernel
theorem dL_print_127 : decode cL_print 127 = .ok (.i2l, 1) := by decide +kernel
theorem dL_print_128 : decode cL_print 128 = .ok (.ladd, 1) := by decide +kernel
theorem dL_print_129 : decode cL_print 129 = .ok (.ldc2_w 28, 3) := by decide +kernel
theorem dL_print_132 : decode cL_print 132 = .ok (.aload_n 0, 1) := by decide +kernel
theorem dL_print_133 : decode cL_print 133 = .ok (.iload_n 3, 1) := by decide +kernel
theorem dL_print_134 : decode cL_print 134 = .ok (.iconst 1, 1) := by decide +kernel
theorem dL_print_135 : decode cL_print 135 = .ok (.invokevirtual 25, 3) := by decide +kernel
theorem dL_print_138 : decode cL_print 138 = .ok (.i2l, 1) := by decide +kernel
theorem dL_print_139 : decode cL_print 139 = .ok (.lmul, 1) := by decide +kernel
theorem dL_print_140 : decode cL_print 140 = .ok (.ladd, 1) := by decide +kernel
theorem dL_print_141 : decode cL_print 141 = .ok (.ldc2_w 30, 3) := by decide +kernel
theorem dL_print_144 : decode cL_print 144 = .ok (.aload_n 0, 1) := by decide +kernel
theorem dL_print_145 : decode cL_print 145 = .ok (.iload_n 3, 1) := by decide +kernel
theorem dL_print_146 : decode cL_print 146 = .ok (.iconst 2, 1) := by decide +kernel
theorem dL_print_147 : decode cL_print 147 = .ok (.invokevirtual 25, 3) := by decide +kernel
theorem dL_print_150 : decode cL_print 150 = .ok (.i2l, 1) := by decide +kernel
theorem dL_print_151 : decode cL_print 151 = .ok (.lmul, 1) := by decide +kernel
theorem dL_print_152 : decode cL_print 152 = .ok (.ladd, 1) := by decide +kernel
theorem dL_print_153 : decode cL_print 153 = .ok (.lstore_n 1, 1) := by decide +kernel
theorem dL_print_154 : decode cL_print 154 = .ok (.iinc 3 1, 3) := by decide +kernel
theorem dL_print_157 : decode cL_print 157 = .ok (.goto (-50), 3) := by decide +kernel
theorem dL_print_160 : decode cL_print 160 = .ok (.iconst 1, 1) := by decide +kernel
theorem dL_print_161 : decode cL_print 161 = .ok (.istore_n 3, 1) := by decide +kernel
theorem dL_print_162 : decode cL_print 162 = .ok (.iload_n 3, 1) := by decide +kernel
theorem dL_print_163 : decode cL_print 163 = .ok (.aload_n 0, 1) := by decide +kernel
theorem dL_print_164 : decode cL_print 164 = .ok (.bipush 10, 2) := by decide +kernel
theorem dL_print_166 : decode cL_print 166 = .ok (.invokevirtual 13, 3) := by decide +kernel
theorem dL_print_169 : decode cL_print 169 = .ok (.if_icmp .gt 47, 3) := by decide +kernel
theorem dL_print_172 : decode cL_print 172 = .ok (.ldc2_w 11, 3) := by decide +kernel
theorem dL_print_175 : decode cL_print 175 = .ok (.lload_n 1, 1) := by decide +kernel
theorem dL_print_176 : decode cL_print 176 = .ok (.lmul, 1) := by decide +kernel
theorem dL_print_177 : decode cL_print 177 = .ok (.aload_n 0, 1) := by decide +kernel
theorem dL_print_178 : decode cL_print 178 = .ok (.iload_n 3, 1) := by decide +kernel
theorem dL_print_179 : decode cL_print 179 = .ok (.iconst 0, 1) := by decide +kernel
theorem dL_print_180 : decode cL_print 180 = .ok (.invokevirtual 32, 3) := by decide +kernel
theorem dL_print_183 : decode cL_print 183 = .ok (.i2l, 1) := by decide +kernel
theorem dL_print_184 : decode cL_print 184 = .ok (.ladd, 1) := by decide +kernel
theorem dL_print_185 : decode cL_print 185 = .ok (.ldc2_w 28, 3) := by decide +kernel
theorem dL_print_188 : decode cL_print 188 = .ok (.aload_n 0, 1) := by decide +kernel
theorem dL_print_189 : decode cL_print 189 = .ok (.iload_n 3, 1) := by decide +kernel
theorem dL_print_190 : decode cL_print 190 = .ok (.iconst 1, 1) := by decide +kernel
theorem dL_print_191 : decode cL_print 191 = .ok (.invokevirtual 32, 3) := by decide +kernel
theorem dL_print_194 : decode cL_print 194 = .ok (.i2l, 1) := by decide +kernel
theorem dL_print_195 : decode cL_print 195 = .ok (.lmul, 1) := by decide +kernel
theorem dL_print_196 : decode cL_print 196 = .ok (.ladd, 1) := by decide +kernel
theorem dL_print_197 : decode cL_print 197 = .ok (.ldc2_w 35, 3) := by decide +kernel
theorem dL_print_200 : decode cL_print 200 = .ok (.aload_n 0, 1) := by decide +kernel
theorem dL_print_201 : decode cL_print 201 = .ok (.iload_n 3, 1) := by decide +kernel
theorem dL_print_202 : decode cL_print 202 = .ok (.iconst 2, 1) := by decide +kernel
theorem dL_print_203 : decode cL_print 203 = .ok (.invokevirtual 32, 3) := by decide +kernel
theorem dL_print_206 : decode cL_print 206 = .ok (.i2l, 1) := by decide +kernel
theorem dL_print_207 : decode cL_print 207 = .ok (.lmul, 1) := by decide +kernel
theorem dL_print_208 : decode cL_print 208 = .ok (.ladd, 1) := by decide +kernel
theorem dL_print_209 : decode cL_print 209 = .ok (.lstore_n 1, 1) := by decide +kernel
theorem dL_print_210 : decode cL_print 210 = .ok (.iinc 3 1, 3) := by decide +kernel
theorem dL_print_213 : decode cL_print 213 = .ok (.goto (-51), 3) := by decide +kernel
theorem dL_print_216 : decode cL_print 216 = .ok (.lload_n 1, 1) := by decide +kernel
theorem dL_print_217 : decode cL_print 217 = .ok (.lreturn, 1) := by decide +kernel
set_option maxRecDepth 20000 in
theorem ggL_refused_L_print : GoodIn wsL_refused wsL_print := goodIn_r _ [6, 7, 8, 9, 10, 11, 12, 13, 14, 15, 16, 17, 18, 19, 20, 21, 22, 23, 24, 25, 26, 27, 28, 29, 30, 31, 32, 33, 34, 35, 36, 37, 38, 39, 40, 41, 42, 43, 44, 45, 46, 47, 48, 49, 50, 51, 52, 53, 54, 55, 56, 57, 58, 59, 60, 61, 62, 63, 64, 281, 282, 283, 284, 285, 286, 287, 288, 289, 290, 291, 292, 293, 294, 295, 296, 297, 298, 299, 300, 301, 302, 303, 304] (by decide +kernel) (by decide +kernel)
set_option maxRecDepth 20000 in
theorem gL_refused_L_print : GoodIn wsL_refused (va_wsS RL 37 yL_print wsL_print) := goodIn_app (goodIn_of _ (by decide +kernel)) ggL_refused_L_print
set_option maxRecDepth 20000 in
theorem ggL_refused_X3_count : GoodIn wsL_refused wsX3_count := goodIn_r _ [17, 18, 19, 20, 21, 22, 23, 24, 25, 26, 27, 28, 29, 30, 31, 32, 33, 281, 282, 283, 284, 285, 286, 287, 288, 289, 290, 291, 292, 293, 294, 295, 296, 297, 298, 299, 300, 301, 302, 303, 304] (by decide +kernel) (by decide +kernel)
set_option maxRecDepth 20000 in
theorem gL_refused_X3_count : GoodIn wsL_refused (wsV RL 13 RX3 yX3_count wsX3_count) := goodIn_app (goodIn_of _ (by decide +kernel)) ggL_refused_X3_count
set_option maxRecDepth 20000 in
theorem ggL_refused_X3_well : GoodIn wsL_refused wsX3_well := goodIn_r _ [68, 19, 18, 69, 70, 71, 72, 73, 74, 75, 76, 77, 78, 79, 24, 80, 27, 51, 81, 32, 26, 50, 64, 33, 82, 83, 84, 85, 86, 87, 88, 89, 90, 91, 92, 93, 94, 95, 96, 97, 98, 39, 40, 41, 99, 100, 101, 16, 102, 103, 104, 105, 106, 281, 282, 283, 284, 295, 296, 297, 285, 286, 287, 288, 289, 290, 291, 292, 293, 294] (by decide +kernel) (by decide +kernel)
set_option maxRecDepth 20000 in
theorem gL_refused_X3_well : GoodIn wsL_refused (wsV RL 43 RX3 yX3_well wsX3_well) := goodIn_app (goodIn_of _ (by decide +kernel)) ggL_refused_X3_well
set_option maxRecDepth 20000 in
theorem ggL_refused_X3_drought : GoodIn wsL_refused wsX3_drought := goodIn_r _ [110, 19, 18, 69, 70, 71, 72, 73, 74, 75, 76, 77, 78, 79, 24, 80, 27, 51, 81, 32, 26, 50, 64, 33, 82, 83, 84, 85, 86, 87, 88, 89, 90, 91, 92, 93, 111, 112, 113, 114, 115, 98, 39, 40, 41, 99, 100, 101, 16, 102, 103, 104, 105, 106, 281, 282, 283, 284, 295, 296, 297, 285, 286, 287, 288, 289, 290, 291, 292, 293, 294] (by decide +kernel) (by decide +kernel)
set_option maxRecDepth 20000 in
theorem gL_refused_X3_drought : GoodIn wsL_refused (wsV RL 48 RX3 yX3_drought wsX3_drought) := goodIn_app (goodIn_of _ (by decide +kernel)) ggL_refused_X3_drought
set_option maxRecDepth 20000 in
theorem ggL_refused_X3_droughtOf : GoodIn wsL_refused wsX3_droughtOf := goodIn_r _ [55, 18, 281, 282, 283, 284, 285, 286, 287, 288, 289, 290, 291, 292, 293, 294] (by decide +kernel) (by decide +kernel)
set_option maxRecDepth 20000 in
theorem gL_refused_X3_droughtOf : GoodIn wsL_refused (wsV RL 25 RX3 yX3_droughtOf wsX3_droughtOf) := goodIn_app (goodIn_of _ (by decide +kernel)) ggL_refused_X3_droughtOf
set_option maxRecDepth 20000 in
theorem ggL_refused_X3_wellOf : GoodIn wsL_refused wsX3_wellOf := goodIn_r _ [37, 18, 38, 39, 40, 24, 41, 26, 42, 43, 44, 45, 46, 47, 48, 49, 50, 51, 281, 282, 283, 284, 285, 286, 287, 288, 289, 290, 291, 292, 293, 294] (by decide +kernel) (by decide +kernel)
set_option maxRecDepth 20000 in
theorem gL_refused_X3_wellOf : GoodIn wsL_refused (wsV RL 21 RX3 yX3_wellOf wsX3_wellOf) := goodIn_app (goodIn_of _ (by decide +kernel)) ggL_refused_X3_wellOf
set_option maxRecDepth 20000 in
theorem ggL_refused_X3_aboveAt : GoodIn wsL_refused wsX3_aboveAt := goodIn_r _ [119, 18, 38, 39, 40, 24, 41, 26, 120, 121, 122, 123, 86, 87, 88, 89, 27, 98, 281, 282, 283, 284, 285, 286, 287, 288, 289, 290, 291, 292, 293, 294] (by decide +kernel) (by decide +kernel)
set_option maxRecDepth 20000 in
theorem gL_refused_X3_aboveAt : GoodIn wsL_refused (wsV RL 52 RX3 yX3_aboveAt wsX3_aboveAt) := goodIn_app (goodIn_of _ (by decide +kernel)) ggL_refused_X3_aboveAt
set_option maxRecDepth 20000 in
theorem ggL_refused_X3_draw : GoodIn wsL_refused wsX3_draw := goodIn_r _ [127, 19, 18, 69, 70, 71, 72, 73, 74, 75, 76, 77, 78, 79, 24, 80, 27, 51, 81, 32, 26, 50, 64, 33, 82, 83, 84, 85, 86, 87, 88, 89, 90, 91, 92, 93, 128, 129, 130, 131, 98, 39, 40, 41, 132, 16, 133, 134, 135, 136, 137, 138, 139, 140, 141, 142, 143, 144, 145, 146, 99, 100, 101, 102, 103, 104, 105, 106, 281, 282, 283, 284, 295, 296, 297, 285, 286, 287, 288, 289, 290, 291, 292, 293, 294] (by decide +kernel) (by decide +kernel)
set_option maxRecDepth 20000 in
theorem gL_refused_X3_draw : GoodIn wsL_refused (wsV RL 55 RX3 yX3_draw wsX3_draw) := goodIn_app (goodIn_of _ (by decide +kernel)) ggL_refused_X3_draw
set_option maxRecDepth 20000 in
theorem ggL_refused_X3_request : GoodIn wsL_refused wsX3_request := goodIn_r _ [150, 19, 18, 69, 70, 71, 72, 73, 74, 75, 76, 77, 78, 79, 24, 80, 27, 51, 81, 32, 26, 50, 64, 33, 82, 83, 84, 85, 86, 87, 88, 89, 90, 91, 92, 93, 151, 152, 153, 154, 98, 39, 40, 41, 132, 16, 133, 134, 135, 136, 137, 138, 139, 140, 141, 142, 143, 144, 145, 146, 99, 100, 101, 102, 103, 104, 105, 106, 281, 282, 283, 284, 295, 296, 297, 285, 286, 287, 288, 289, 290, 291, 292, 293, 294] (by decide +kernel) (by decide +kernel)
set_option maxRecDepth 20000 in
theorem gL_refused_X3_request : GoodIn wsL_refused (wsV RL 58 RX3 yX3_request wsX3_request) := goodIn_app (goodIn_of _ (by decide +kernel)) ggL_refused_X3_request
set_option maxRecDepth 20000 in
theorem ggL_refused_X3_cancel : GoodIn wsL_refused wsX3_cancel := goodIn_r _ [158, 19, 18, 69, 70, 71, 72, 73, 74, 75, 76, 77, 78, 79, 24, 80, 27, 51, 81, 32, 26, 50, 64, 33, 82, 83, 84, 85, 86, 87, 88, 89, 90, 91, 92, 93, 159, 160, 161, 162, 163, 61, 62, 63, 164, 165, 166, 167, 99, 100, 101, 16, 102, 103, 104, 105, 106, 281, 282, 283, 284, 295, 296, 297, 285, 286, 287, 288, 289, 290, 291, 292, 293, 294] (by decide +kernel) (by decide +kernel)
set_option maxRecDepth 20000 in
theorem gL_refused_X3_cancel : GoodIn wsL_refused (wsV RL 61 RX3 yX3_cancel wsX3_cancel) := goodIn_app (goodIn_of _ (by decide +kernel)) ggL_refused_X3_cancel
set_option maxRecDepth 20000 in
theorem ggL_refused_X3_requestAt : GoodIn wsL_refused wsX3_requestAt := goodIn_r _ [59, 18, 60, 61, 62, 24, 63, 64, 281, 282, 283, 284, 285, 286, 287, 288, 289, 290, 291, 292, 293, 294] (by decide +kernel) (by decide +kernel)
set_option maxRecDepth 20000 in
theorem gL_refused_X3_requestAt : GoodIn wsL_refused (wsV RL 32 RX3 yX3_requestAt wsX3_requestAt) := goodIn_app (goodIn_of _ (by decide +kernel)) ggL_refused_X3_requestAt
set_option maxRecDepth 20000 in
theorem ggL_refused_X3_tick : GoodIn wsL_refused wsX3_tick := goodIn_r _ [171, 19, 18, 69, 70, 71, 72, 73, 74, 75, 76, 77, 78, 79, 24, 80, 27, 51, 81, 32, 26, 50, 64, 33, 82, 83, 84, 85, 86, 87, 88, 89, 90, 91, 92, 93, 172, 173, 174, 175, 176, 177, 178, 179, 180, 181, 182, 183, 184, 46, 47, 48, 49, 185, 186, 187, 188, 189, 29, 30, 31, 190, 191, 192, 193, 98, 39, 40, 41, 194, 195, 196, 197, 198, 199, 200, 201, 202, 203, 204, 205, 134, 135, 136, 137, 138, 139, 140, 141, 142, 143, 144, 145, 146, 164, 165, 166, 167, 99, 100, 101, 16, 102, 103, 104, 105, 106, 281, 282, 283, 284, 295, 296, 297, 285, 286, 287, 288, 289, 290, 291, 292, 293, 294] (by decide +kernel) (by decide +kernel)
set_option maxRecDepth 20000 in
theorem gL_refused_X3_tick : GoodIn wsL_refused (wsV RL 64 RX3 yX3_tick wsX3_tick) := goodIn_app (goodIn_of _ (by decide +kernel)) ggL_refused_X3_tick
set_option maxRecDepth 20000 in
theorem ggL_refused_X3_set : GoodIn wsL_refused wsX3_set := goodIn_r _ [209, 19, 18, 69, 70, 71, 72, 73, 74, 75, 76, 77, 78, 79, 24, 80, 27, 51, 81, 32, 26, 50, 64, 33, 82, 83, 84, 85, 86, 87, 88, 89, 90, 91, 92, 93, 210, 211, 212, 213, 99, 100, 101, 16, 102, 103, 104, 105, 106, 281, 282, 283, 284, 295, 296, 297, 285, 286, 287, 288, 289, 290, 291, 292, 293, 294] (by decide +kernel) (by decide +kernel)
set_option maxRecDepth 20000 in
theorem gL_refused_X3_set : GoodIn wsL_refused (wsV RL 67 RX3 yX3_set wsX3_set) := goodIn_app (goodIn_of _ (by decide +kernel)) ggL_refused_X3_set
set_option maxRecDepth 20000 in
theorem ggL_refused_X3_able : GoodIn wsL_refused wsX3_able := goodIn_r _ [217, 18, 38, 39, 40, 24, 41, 26, 218, 135, 136, 137, 138, 27, 86, 87, 88, 89, 139, 140, 141, 142, 98, 281, 282, 283, 284, 285, 286, 287, 288, 289, 290, 291, 292, 293, 294] (by decide +kernel) (by decide +kernel)
set_option maxRecDepth 20000 in
theorem gL_refused_X3_able : GoodIn wsL_refused (wsV RL 70 RX3 yX3_able wsX3_able) := goodIn_app (goodIn_of _ (by decide +kernel)) ggL_refused_X3_able
set_option maxRecDepth 20000 in
theorem ggL_refused_X3_gives : GoodIn wsL_refused wsX3_gives := goodIn_r _ [222, 18, 38, 39, 40, 24, 41, 26, 223, 132, 16, 133, 218, 135, 136, 137, 138, 27, 86, 87, 88, 89, 139, 140, 141, 142, 98, 281, 282, 283, 284, 285, 286, 287, 288, 289, 290, 291, 292, 293, 294] (by decide +kernel) (by decide +kernel)
set_option maxRecDepth 20000 in
theorem gL_refused_X3_gives : GoodIn wsL_refused (wsV RL 73 RX3 yX3_gives wsX3_gives) := goodIn_app (goodIn_of _ (by decide +kernel)) ggL_refused_X3_gives
set_option maxRecDepth 20000 in
theorem ggL_refused_X3_possibleIn : GoodIn wsL_refused wsX3_possibleIn := goodIn_r _ [227, 18, 228, 38, 39, 40, 24, 41, 26, 223, 132, 16, 133, 229, 78, 79, 80, 27, 51, 81, 32, 50, 64, 33, 82, 83, 84, 85, 86, 87, 88, 89, 90, 91, 92, 93, 218, 135, 136, 137, 138, 139, 140, 141, 142, 98, 230, 178, 179, 180, 181, 182, 183, 184, 46, 47, 48, 49, 185, 186, 187, 188, 189, 29, 30, 31, 190, 191, 192, 193, 194, 195, 196, 197, 198, 199, 200, 201, 202, 203, 204, 205, 134, 143, 144, 145, 146, 164, 165, 166, 167, 281, 282, 283, 284, 285, 286, 287, 288, 289, 290, 291, 292, 293, 294] (by decide +kernel) (by decide +kernel)
set_option maxRecDepth 20000 in
theorem gL_refused_X3_possibleIn : GoodIn wsL_refused (wsV RL 76 RX3 yX3_possibleIn wsX3_possibleIn) := goodIn_app (goodIn_of _ (by decide +kernel)) ggL_refused_X3_possibleIn
set_option maxRecDepth 20000 in
theorem ggL_refused_X3_waterIn : GoodIn wsL_refused wsX3_waterIn := goodIn_r _ [234, 18, 228, 38, 39, 40, 24, 41, 26, 229, 78, 79, 80, 27, 51, 81, 32, 50, 64, 33, 82, 83, 84, 85, 86, 87, 88, 89, 90, 91, 92, 93, 230, 178, 179, 180, 181, 182, 183, 184, 46, 47, 48, 49, 185, 186, 187, 188, 189, 29, 30, 31, 190, 191, 192, 193, 98, 194, 195, 196, 197, 198, 199, 200, 201, 202, 203, 204, 205, 134, 135, 136, 137, 138, 139, 140, 141, 142, 143, 144, 145, 146, 164, 165, 166, 167, 281, 282, 283, 284, 285, 286, 287, 288, 289, 290, 291, 292, 293, 294] (by decide +kernel) (by decide +kernel)
set_option maxRecDepth 20000 in
theorem gL_refused_X3_waterIn : GoodIn wsL_refused (wsV RL 79 RX3 yX3_waterIn wsX3_waterIn) := goodIn_app (goodIn_of _ (by decide +kernel)) ggL_refused_X3_waterIn
set_option maxRecDepth 20000 in
theorem ggL_refused_X3_type : GoodIn wsL_refused wsX3_type := goodIn_r _ [238, 20, 239, 240, 241, 242, 243, 244, 245, 281, 282, 283, 284, 298, 299, 300, 301, 302, 303, 304] (by decide +kernel) (by decide +kernel)
set_option maxRecDepth 20000 in
theorem gL_refused_X3_type : GoodIn wsL_refused (wsV RL 82 RX3 yX3_type wsX3_type) := goodIn_app (goodIn_of _ (by decide +kernel)) ggL_refused_X3_type
set_option maxRecDepth 20000 in
theorem ggL_refused_X3_fault : GoodIn wsL_refused wsX3_fault := goodIn_r _ [249, 228, 18, 20, 229, 78, 79, 24, 80, 27, 51, 81, 32, 26, 50, 64, 33, 82, 83, 84, 85, 86, 87, 88, 89, 90, 91, 92, 93, 250, 251, 252, 242, 253, 254, 255, 256, 257, 244, 245, 258, 259, 260, 261, 262, 263, 264, 265, 266, 267, 268, 269, 270, 271, 272, 273, 274, 275, 276, 277, 129, 130, 131, 98, 39, 40, 41, 132, 16, 133, 134, 135, 136, 137, 138, 139, 140, 141, 142, 143, 144, 145, 146, 278, 152, 153, 154, 279, 173, 174, 175, 176, 177, 178, 179, 180, 181, 182, 183, 184, 46, 47, 48, 49, 185, 186, 187, 188, 189, 29, 30, 31, 190, 191, 192, 193, 194, 195, 196, 197, 198, 199, 200, 201, 202, 203, 204, 205, 164, 165, 166, 167, 280, 112, 113, 114, 115, 281, 282, 283, 284, 298, 299, 300, 301, 302, 303, 304, 285, 286, 287, 288, 289, 290, 291, 292, 293, 294] (by decide +kernel) (by decide +kernel)
set_option maxRecDepth 20000 in
theorem gL_refused_X3_fault : GoodIn wsL_refused (wsV RL 85 RX3 yX3_fault wsX3_fault) := goodIn_app (goodIn_of _ (by decide +kernel)) ggL_refused_X3_fault
