theorem dL_addsUp_0 : decode cL_addsUp 0 = .ok (.iconst 0, 1) := by decide +kernel
theorem dL_addsUp_1 : decode cL_addsUp 1 = .ok (.istore_n 1, 1) := by decide +kernel
theorem dL_addsUp_2 : decode cL_addsUp 2 = .ok (.iconst 0, 1) := by decide +kernel
theorem dL_addsUp_3 : decode cL_addsUp 3 = .ok (.istore_n 2, 1) := by decide +kernel
theorem dL_addsUp_4 : decode cL_addsUp 4 = .ok (.iconst 0, 1) := by decide +kernel
theorem dL_addsUp_5 : decode cL_addsUp 5 = .ok (.istore_n 3, 1) := by decide +kernel
theorem dL_addsUp_6 : decode cL_addsUp 6 = .ok (.iconst 0, 1) := by decide +kernel
theorem dL_addsUp_7 : decode cL_addsUp 7 = .ok (.istore 4, 2) := by decide +kernel
theorem dL_addsUp_9 : decode cL_addsUp 9 = .ok (.iconst 0, 1) := by decide +kernel
theorem dL_addsUp_10 : decode cL_addsUp 10 = .ok (.istore 5, 2) := by decide +kernel
theorem dL_addsUp_12 : decode cL_addsUp 12 = .ok (.iconst 0, 1) := by decide +kernel
theorem dL_addsUp_13 : decode cL_addsUp 13 = .ok (.istore 6, 2) := by decide +kernel
theorem dL_addsUp_15 : decode cL_addsUp 15 = .ok (.iconst 0, 1) := by decide +kernel
theorem dL_addsUp_16 : decode cL_addsUp 16 = .ok (.istore 7, 2) := by decide +kernel
theorem dL_addsUp_18 : decode cL_addsUp 18 = .ok (.iconst 1, 1) := by decide +kernel
theorem dL_addsUp_19 : decode cL_addsUp 19 = .ok (.istore 8, 2) := by decide +kernel
theorem dL_addsUp_21 : decode cL_addsUp 21 = .ok (.iconst 0, 1) := by decide +kernel
theorem dL_addsUp_22 : decode cL_addsUp 22 = .ok (.istore 9, 2) := by decide +kernel
theorem dL_addsUp_24 : decode cL_addsUp 24 = .ok (.iload 9, 2) := by decide +kernel
theorem dL_addsUp_26 : decode cL_addsUp 26 = .ok (.aload_n 0, 1) := by decide +kernel
theorem dL_addsUp_27 : decode cL_addsUp 27 = .ok (.iconst 0, 1) := by decide +kernel
theorem dL_addsUp_28 : decode cL_addsUp 28 = .ok (.invokevirtual 13, 3) := by decide +kernel
theorem dL_addsUp_31 : decode cL_addsUp 31 = .ok (.if_icmp .ge 297, 3) := by decide +kernel
theorem dL_addsUp_34 : decode cL_addsUp 34 = .ok (.iload 8, 2) := by decide +kernel
theorem dL_addsUp_36 : decode cL_addsUp 36 = .ok (.ifCond .eq 292, 3) := by decide +kernel
theorem dL_addsUp_39 : decode cL_addsUp 39 = .ok (.iconst 0, 1) := by decide +kernel
theorem dL_addsUp_40 : decode cL_addsUp 40 = .ok (.istore 10, 2) := by decide +kernel
theorem dL_addsUp_42 : decode cL_addsUp 42 = .ok (.iload 9, 2) := by decide +kernel
theorem dL_addsUp_44 : decode cL_addsUp 44 = .ok (.iconst 1, 1) := by decide +kernel
theorem dL_addsUp_45 : decode cL_addsUp 45 = .ok (.iadd, 1) := by decide +kernel
theorem dL_addsUp_46 : decode cL_addsUp 46 = .ok (.istore 11, 2) := by decide +kernel
theorem dL_addsUp_48 : decode cL_addsUp 48 = .ok (.iload 11, 2) := by decide +kernel
theorem dL_addsUp_50 : decode cL_addsUp 50 = .ok (.aload_n 0, 1) := by decide +kernel
theorem dL_addsUp_51 : decode cL_addsUp 51 = .ok (.iconst 0, 1) := by decide +kernel
theorem dL_addsUp_52 : decode cL_addsUp 52 = .ok (.invokevirtual 13, 3) := by decide +kernel
theorem dL_addsUp_55 : decode cL_addsUp 55 = .ok (.if_icmp .ge 31, 3) := by decide +kernel
theorem dL_addsUp_58 : decode cL_addsUp 58 = .ok (.iload 10, 2) := by decide +kernel
theorem dL_addsUp_60 : decode cL_addsUp 60 = .ok (.aload_n 0, 1) := by decide +kernel
theorem dL_addsUp_61 : decode cL_addsUp 61 = .ok (.iload 11, 2) := by decide +kernel
theorem dL_addsUp_63 : decode cL_addsUp 63 = .ok (.iconst 0, 1) := by decide +kernel
theorem dL_addsUp_64 : decode cL_addsUp 64 = .ok (.invokevirtual 21, 3) := by decide +kernel
theorem dL_addsUp_67 : decode cL_addsUp 67 = .ok (.iload 9, 2) := by decide +kernel
theorem dL_addsUp_69 : decode cL_addsUp 69 = .ok (.if_icmp .ne 7, 3) := by decide +kernel
theorem dL_addsUp_72 : decode cL_addsUp 72 = .ok (.iconst 1, 1) := by decide +kernel
theorem dL_addsUp_73 : decode cL_addsUp 73 = .ok (.goto 4, 3) := by decide +kernel
theorem dL_addsUp_76 : decode cL_addsUp 76 = .ok (.iconst 0, 1) := by decide +kernel
theorem dL_addsUp_77 : decode cL_addsUp 77 = .ok (.iadd, 1) := by decide +kernel
theorem dL_addsUp_78 : decode cL_addsUp 78 = .ok (.istore 10, 2) := by decide +kernel
theorem dL_addsUp_80 : decode cL_addsUp 80 = .ok (.iinc 11 1, 3) := by decide +kernel
theorem dL_addsUp_83 : decode cL_addsUp 83 = .ok (.goto (-35), 3) := by decide +kernel
theorem dL_addsUp_86 : decode cL_addsUp 86 = .ok (.iconst 0, 1) := by decide +kernel
theorem dL_addsUp_87 : decode cL_addsUp 87 = .ok (.istore 11, 2) := by decide +kernel
theorem dL_addsUp_89 : decode cL_addsUp 89 = .ok (.iload 9, 2) := by decide +kernel
theorem dL_addsUp_91 : decode cL_addsUp 91 = .ok (.istore 12, 2) := by decide +kernel
theorem dL_addsUp_93 : decode cL_addsUp 93 = .ok (.iload 12, 2) := by decide +kernel
theorem dL_addsUp_95 : decode cL_addsUp 95 = .ok (.ifCond .le 60, 3) := by decide +kernel
theorem dL_addsUp_98 : decode cL_addsUp 98 = .ok (.iload 8, 2) := by decide +kernel
theorem dL_addsUp_100 : decode cL_addsUp 100 = .ok (.ifCond .eq 55, 3) := by decide +kernel
theorem dL_addsUp_103 : decode cL_addsUp 103 = .ok (.aload_n 0, 1) := by decide +kernel
theorem dL_addsUp_104 : decode cL_addsUp 104 = .ok (.iload 12, 2) := by decide +kernel
theorem dL_addsUp_106 : decode cL_addsUp 106 = .ok (.iconst 0, 1) := by decide +kernel
theorem dL_addsUp_107 : decode cL_addsUp 107 = .ok (.invokevirtual 21, 3) := by decide +kernel
theorem dL_addsUp_110 : decode cL_addsUp 110 = .ok (.iload 12, 2) := by decide +kernel
theorem dL_addsUp_112 : decode cL_addsUp 112 = .ok (.if_icmp .ge 25, 3) := by decide +kernel
theorem dL_addsUp_115 : decode cL_addsUp 115 = .ok (.aload_n 0, 1) := by decide +kernel
theorem dL_addsUp_116 : decode cL_addsUp 116 = .ok (.iload 9, 2) := by decide +kernel
theorem dL_addsUp_118 : decode cL_addsUp 118 = .ok (.iload 11, 2) := by decide +kernel
theorem dL_addsUp_120 : decode cL_addsUp 120 = .ok (.invokevirtual 52, 3) := by decide +kernel
theorem dL_addsUp_123 : decode cL_addsUp 123 = .ok (.aload_n 0, 1) := by decide +kernel
theorem dL_addsUp_124 : decode cL_addsUp 124 = .ok (.iload 12, 2) := by decide +kernel
theorem dL_addsUp_126 : decode cL_addsUp 126 = .ok (.iconst 0, 1) := by decide +kernel
theorem dL_addsUp_127 : decode cL_addsUp 127 = .ok (.invokevirtual 21, 3) := by decide +kernel
theorem dL_addsUp_130 : decode cL_addsUp 130 = .ok (.if_icmp .ne 7, 3) := by decide +kernel
theorem dL_addsUp_133 : decode cL_addsUp 133 = .ok (.iconst 1, 1) := by decide +kernel
theorem dL_addsUp_134 : decode cL_addsUp 134 = .ok (.goto 4, 3) := by decide +kernel
theorem dL_addsUp_137 : decode cL_addsUp 137 = .ok (.iconst 0, 1) := by decide +kernel
theorem dL_addsUp_138 : decode cL_addsUp 138 = .ok (.istore 8, 2) := by decide +kernel
theorem dL_addsUp_140 : decode cL_addsUp 140 = .ok (.aload_n 0, 1) := by decide +kernel
theorem dL_addsUp_141 : decode cL_addsUp 141 = .ok (.iload 12, 2) := by decide +kernel
theorem dL_addsUp_143 : decode cL_addsUp 143 = .ok (.iconst 0, 1) := by decide +kernel
theorem dL_addsUp_144 : decode cL_addsUp 144 = .ok (.invokevirtual 21, 3) := by decide +kernel
theorem dL_addsUp_147 : decode cL_addsUp 147 = .ok (.istore 12, 2) := by decide +kernel
theorem dL_addsUp_149 : decode cL_addsUp 149 = .ok (.iinc 11 1, 3) := by decide +kernel
theorem dL_addsUp_152 : decode cL_addsUp 152 = .ok (.goto (-59), 3) := by decide +kernel
theorem dL_addsUp_155 : decode cL_addsUp 155 = .ok (.iload_n 1, 1) := by decide +kernel
theorem dL_addsUp_156 : decode cL_addsUp 156 = .ok (.aload_n 0, 1) := by decide +kernel
theorem dL_addsUp_157 : decode cL_addsUp 157 = .ok (.iload 9, 2) := by decide +kernel
theorem dL_addsUp_159 : decode cL_addsUp 159 = .ok (.iconst 4, 1) := by decide +kernel
theorem dL_addsUp_160 : decode cL_addsUp 160 = .ok (.invokevirtual 21, 3) := by decide +kernel
theorem dL_addsUp_163 : decode cL_addsUp 163 = .ok (.iadd, 1) := by decide +kernel
theorem dL_addsUp_164 : decode cL_addsUp 164 = .ok (.istore_n 1, 1) := by decide +kernel
theorem dL_addsUp_165 : decode cL_addsUp 165 = .ok (.iload_n 2, 1) := by decide +kernel
theorem dL_addsUp_166 : decode cL_addsUp 166 = .ok (.aload_n 0, 1) := by decide +kernel
theorem dL_addsUp_167 : decode cL_addsUp 167 = .ok (.iload 9, 2) := by decide +kernel
theorem dL_addsUp_169 : decode cL_addsUp 169 = .ok (.bipush 6, 2) := by decide +kernel
theorem dL_addsUp_171 : decode cL_addsUp 171 = .ok (.invokevirtual 21, 3) := by decide +kernel
theorem dL_addsUp_174 : decode cL_addsUp 174 = .ok (.iadd, 1) := by decide +kernel
theorem dL_addsUp_175 : decode cL_addsUp 175 = .ok (.istore_n 2, 1) := by decide +kernel
theorem dL_addsUp_176 : decode cL_addsUp 176 = .ok (.iload_n 3, 1) := by decide +kernel
theorem dL_addsUp_177 : decode cL_addsUp 177 = .ok (.aload_n 0, 1) := by decide +kernel
theorem dL_addsUp_178 : decode cL_addsUp 178 = .ok (.iload 9, 2) := by decide +kernel
theorem dL_addsUp_180 : decode cL_addsUp 180 = .ok (.bipush 7, 2) := by decide +kernel
theorem dL_addsUp_182 : decode cL_addsUp 182 = .ok (.invokevirtual 21, 3) := by decide +kernel
theorem dL_addsUp_185 : decode cL_addsUp 185 = .ok (.iadd, 1) := by decide +kernel
theorem dL_addsUp_186 : decode cL_addsUp 186 = .ok (.istore_n 3, 1) := by decide +kernel
theorem dL_addsUp_187 : decode cL_addsUp 187 = .ok (.iload 4, 2) := by decide +kernel
theorem dL_addsUp_189 : decode cL_addsUp 189 = .ok (.aload_n 0, 1) := by decide +kernel
theorem dL_addsUp_190 : decode cL_addsUp 190 = .ok (.iload 9, 2) := by decide +kernel
theorem dL_addsUp_192 : decode cL_addsUp 192 = .ok (.bipush 8, 2) := by decide +kernel
theorem dL_addsUp_194 : decode cL_addsUp 194 = .ok (.invokevirtual 21, 3) := by decide +kernel
theorem dL_addsUp_197 : decode cL_addsUp 197 = .ok (.aload_n 0, 1) := by decide +kernel
theorem dL_addsUp_198 : decode cL_addsUp 198 = .ok (.iload 9, 2) := by decide +kernel
theorem dL_addsUp_200 : decode cL_addsUp 200 = .ok (.bipush 9, 2) := by decide +kernel
theorem dL_addsUp_202 : decode cL_addsUp 202 = .ok (.invokevirtual 21, 3) := by decide +kernel
theorem dL_addsUp_205 : decode cL_addsUp 205 = .ok (.iadd, 1) := by decide +kernel
theorem dL_addsUp_206 : decode cL_addsUp 206 = .ok (.iadd, 1) := by decide +kernel
theorem dL_addsUp_207 : decode cL_addsUp 207 = .ok (.istore 4, 2) := by decide +kernel
theorem dL_addsUp_209 : decode cL_addsUp 209 = .ok (.iload 5, 2) := by decide +kernel
theorem dL_addsUp_211 : decode cL_addsUp 211 = .ok (.aload_n 0, 1) := by decide +kernel
theorem dL_addsUp_212 : decode cL_addsUp 212 = .ok (.iload 9, 2) := by decide +kernel
theorem dL_addsUp_214 : decode cL_addsUp 214 = .ok (.bipush 10, 2) := by decide +kernel
theorem dL_addsUp_216 : decode cL_addsUp 216 = .ok (.invokevirtual 21, 3) := by decide +kernel
theorem dL_addsUp_219 : decode cL_addsUp 219 = .ok (.iadd, 1) := by decide +kernel
theorem dL_addsUp_220 : decode cL_addsUp 220 = .ok (.istore 5, 2) := by decide +kernel
theorem dL_addsUp_222 : decode cL_addsUp 222 = .ok (.iload 6, 2) := by decide +kernel
theorem dL_addsUp_224 : decode cL_addsUp 224 = .ok (.aload_n 0, 1) := by decide +kernel
theorem dL_addsUp_225 : decode cL_addsUp 225 = .ok (.iload 9, 2) := by decide +kernel
theorem dL_addsUp_227 : decode cL_addsUp 227 = .ok (.bipush 11, 2) := by decide +kernel
theorem dL_addsUp_229 : decode cL_addsUp 229 = .ok (.invokevirtual 21, 3) := by decide +kernel
theorem dL_addsUp_232 : decode cL_addsUp 232 = .ok (.iadd, 1) := by decide +kernel
theorem dL_addsUp_233 : decode cL_addsUp 233 = .ok (.istore 6, 2) := by decide +kernel
theorem dL_addsUp_235 : decode cL_addsUp 235 = .ok (.iload 7, 2) := by decide +kernel
theorem dL_addsUp_237 : decode cL_addsUp 237 = .ok (.aload_n 0, 1) := by decide +kernel
theorem dL_addsUp_238 : decode cL_addsUp 238 = .ok (.iload 9, 2) := by decide +kernel
theorem dL_addsUp_240 : decode cL_addsUp 240 = .ok (.iconst 5, 1) := by decide +kernel
theorem dL_addsUp_241 : decode cL_addsUp 241 = .ok (.invokevirtual 21, 3) := by decide +kernel
theorem dL_addsUp_244 : decode cL_addsUp 244 = .ok (.iadd, 1) := by decide +kernel
theorem dL_addsUp_245 : decode cL_addsUp 245 = .ok (.istore 7, 2) := by decide +kernel
theorem dL_addsUp_247 : decode cL_addsUp 247 = .ok (.iload 8, 2) := by decide +kernel
theorem dL_addsUp_249 : decode cL_addsUp 249 = .ok (.ifCond .eq 70, 3) := by decide +kernel
theorem dL_addsUp_252 : decode cL_addsUp 252 = .ok (.aload_n 0, 1) := by decide +kernel
theorem dL_addsUp_253 : decode cL_addsUp 253 = .ok (.iload 9, 2) := by decide +kernel
theorem dL_addsUp_255 : decode cL_addsUp 255 = .ok (.iload 11, 2) := by decide +kernel
theorem dL_addsUp_257 : decode cL_addsUp 257 = .ok (.invokevirtual 52, 3) := by decide +kernel
theorem dL_addsUp_260 : decode cL_addsUp 260 = .ok (.bipush (-4), 2) := by decide +kernel
theorem dL_addsUp_262 : decode cL_addsUp 262 = .ok (.if_icmp .ne 57, 3) := by decide +kernel
theorem dL_addsUp_265 : decode cL_addsUp 265 = .ok (.aload_n 0, 1) := by decide +kernel
theorem dL_addsUp_266 : decode cL_addsUp 266 = .ok (.iload 9, 2) := by decide +kernel
theorem dL_addsUp_268 : decode cL_addsUp 268 = .ok (.iconst 4, 1) := by decide +kernel
theorem dL_addsUp_269 : decode cL_addsUp 269 = .ok (.invokevirtual 21, 3) := by decide +kernel
theorem dL_addsUp_272 : decode cL_addsUp 272 = .ok (.ifCond .lt 47, 3) := by decide +kernel
theorem dL_addsUp_275 : decode cL_addsUp 275 = .ok (.aload_n 0, 1) := by decide +kernel
theorem dL_addsUp_276 : decode cL_addsUp 276 = .ok (.iload 9, 2) := by decide +kernel
theorem dL_addsUp_278 : decode cL_addsUp 278 = .ok (.iconst 4, 1) := by decide +kernel
theorem dL_addsUp_279 : decode cL_addsUp 279 = .ok (.invokevirtual 21, 3) := by decide +kernel
theorem dL_addsUp_282 : decode cL_addsUp 282 = .ok (.aload_n 0, 1) := by decide +kernel
theorem dL_addsUp_283 : decode cL_addsUp 283 = .ok (.iload 9, 2) := by decide +kernel
theorem dL_addsUp_285 : decode cL_addsUp 285 = .ok (.iconst 1, 1) := by decide +kernel
theorem dL_addsUp_286 : decode cL_addsUp 286 = .ok (.invokevirtual 21, 3) := by decide +kernel
theorem dL_addsUp_289 : decode cL_addsUp 289 = .ok (.if_icmp .gt 30, 3) := by decide +kernel
theorem dL_addsUp_292 : decode cL_addsUp 292 = .ok (.aload_n 0, 1) := by decide +kernel
theorem dL_addsUp_293 : decode cL_addsUp 293 = .ok (.iload 9, 2) := by decide +kernel
theorem dL_addsUp_295 : decode cL_addsUp 295 = .ok (.iconst 5, 1) := by decide +kernel
theorem dL_addsUp_296 : decode cL_addsUp 296 = .ok (.invokevirtual 21, 3) := by decide +kernel
theorem dL_addsUp_299 : decode cL_addsUp 299 = .ok (.ifCond .lt 20, 3) := by decide +kernel
theorem dL_addsUp_302 : decode cL_addsUp 302 = .ok (.aload_n 0, 1) := by decide +kernel
theorem dL_addsUp_303 : decode cL_addsUp 303 = .ok (.iload 9, 2) := by decide +kernel
theorem dL_addsUp_305 : decode cL_addsUp 305 = .ok (.bipush 12, 2) := by decide +kernel
theorem dL_addsUp_307 : decode cL_addsUp 307 = .ok (.invokevirtual 21, 3) := by decide +kernel
theorem dL_addsUp_310 : decode cL_addsUp 310 = .ok (.iload 10, 2) := by decide +kernel
theorem dL_addsUp_312 : decode cL_addsUp 312 = .ok (.if_icmp .ne 7, 3) := by decide +kernel
theorem dL_addsUp_315 : decode cL_addsUp 315 = .ok (.iconst 1, 1) := by decide +kernel
theorem dL_addsUp_316 : decode cL_addsUp 316 = .ok (.goto 4, 3) := by decide +kernel
theorem dL_addsUp_319 : decode cL_addsUp 319 = .ok (.iconst 0, 1) := by decide +kernel
theorem dL_addsUp_320 : decode cL_addsUp 320 = .ok (.istore 8, 2) := by decide +kernel
theorem dL_addsUp_322 : decode cL_addsUp 322 = .ok (.iinc 9 1, 3) := by decide +kernel
theorem dL_addsUp_325 : decode cL_addsUp 325 = .ok (.goto (-301), 3) := by decide +kernel
theorem dL_addsUp_328 : decode cL_addsUp 328 = .ok (.iconst 1, 1) := by decide +kernel
theorem dL_addsUp_329 : decode cL_addsUp 329 = .ok (.istore 9, 2) := by decide +kernel
theorem dL_addsUp_331 : decode cL_addsUp 331 = .ok (.iload 9, 2) := by decide +kernel
theorem dL_addsUp_333 : decode cL_addsUp 333 = .ok (.aload_n 0, 1) := by decide +kernel
theorem dL_addsUp_334 : decode cL_addsUp 334 = .ok (.bipush 10, 2) := by decide +kernel
theorem dL_addsUp_336 : decode cL_addsUp 336 = .ok (.invokevirtual 13, 3) := by decide +kernel
theorem dL_addsUp_339 : decode cL_addsUp 339 = .ok (.if_icmp .gt 61, 3) := by decide +kernel
theorem dL_addsUp_342 : decode cL_addsUp 342 = .ok (.iload 8, 2) := by decide +kernel
theorem dL_addsUp_344 : decode cL_addsUp 344 = .ok (.ifCond .eq 56, 3) := by decide +kernel
theorem dL_addsUp_347 : decode cL_addsUp 347 = .ok (.aload_n 0, 1) := by decide +kernel
theorem dL_addsUp_348 : decode cL_addsUp 348 = .ok (.iload 9, 2) := by decide +kernel
theorem dL_addsUp_350 : decode cL_addsUp 350 = .ok (.iconst 2, 1) := by decide +kernel
theorem dL_addsUp_351 : decode cL_addsUp 351 = .ok (.invokevirtual 32, 3) := by decide +kernel
theorem dL_addsUp_354 : decode cL_addsUp 354 = .ok (.aload_n 0, 1) := by decide +kernel
theorem dL_addsUp_355 : decode cL_addsUp 355 = .ok (.iconst 2, 1) := by decide +kernel
theorem dL_addsUp_356 : decode cL_addsUp 356 = .ok (.invokevirtual 13, 3) := by decide +kernel
theorem dL_addsUp_359 : decode cL_addsUp 359 = .ok (.if_icmp .gt 32, 3) := by decide +kernel
theorem dL_addsUp_362 : decode cL_addsUp 362 = .ok (.iload 9, 2) := by decide +kernel
theorem dL_addsUp_364 : decode cL_addsUp 364 = .ok (.iconst 1, 1) := by decide +kernel
theorem dL_addsUp_365 : decode cL_addsUp 365 = .ok (.if_icmp .eq 22, 3) := by decide +kernel
theorem dL_addsUp_368 : decode cL_addsUp 368 = .ok (.aload_n 0, 1) := by decide +kernel
theorem dL_addsUp_369 : decode cL_addsUp 369 = .ok (.iload 9, 2) := by decide +kernel
theorem dL_addsUp_371 : decode cL_addsUp 371 = .ok (.iconst 2, 1) := by decide +kernel
theorem dL_addsUp_372 : decode cL_addsUp 372 = .ok (.invokevirtual 32, 3) := by decide +kernel
theorem dL_addsUp_375 : decode cL_addsUp 375 = .ok (.aload_n 0, 1) := by decide +kernel
theorem dL_addsUp_376 : decode cL_addsUp 376 = .ok (.iload 9, 2) := by decide +kernel
theorem dL_addsUp_378 : decode cL_addsUp 378 = .ok (.iconst 1, 1) := by decide +kernel
theorem dL_addsUp_379 : decode cL_addsUp 379 = .ok (.isub, 1) := by decide +kernel
theorem dL_addsUp_380 : decode cL_addsUp 380 = .ok (.iconst 2, 1) := by decide +kernel
theorem dL_addsUp_381 : decode cL_addsUp 381 = .ok (.invokevirtual 32, 3) := by decide +kernel
theorem dL_addsUp_384 : decode cL_addsUp 384 = .ok (.if_icmp .lt 7, 3) := by decide +kernel
theorem dL_addsUp_387 : decode cL_addsUp 387 = .ok (.iconst 1, 1) := by decide +kernel
theorem dL_addsUp_388 : decode cL_addsUp 388 = .ok (.goto 4, 3) := by decide +kernel
theorem dL_addsUp_391 : decode cL_addsUp 391 = .ok (.iconst 0, 1) := by decide +kernel
theorem dL_addsUp_392 : decode cL_addsUp 392 = .ok (.istore 8, 2) := by decide +kernel
theorem dL_addsUp_394 : decode cL_addsUp 394 = .ok (.iinc 9 1, 3) := by decide +kernel
theorem dL_addsUp_397 : decode cL_addsUp 397 = .ok (.goto (-66), 3) := by decide +kernel
theorem dL_addsUp_400 : decode cL_addsUp 400 = .ok (.iload 8, 2) := by decide +kernel
theorem dL_addsUp_402 : decode cL_addsUp 402 = .ok (.ifCond .eq 136, 3) := by decide +kernel
theorem dL_addsUp_405 : decode cL_addsUp 405 = .ok (.iload_n 1, 1) := by decide +kernel
theorem dL_addsUp_406 : decode cL_addsUp 406 = .ok (.aload_n 0, 1) := by decide +kernel
theorem dL_addsUp_407 : decode cL_addsUp 407 = .ok (.iconst 3, 1) := by decide +kernel
theorem dL_addsUp_408 : decode cL_addsUp 408 = .ok (.invokevirtual 13, 3) := by decide +kernel
theorem dL_addsUp_411 : decode cL_addsUp 411 = .ok (.if_icmp .ne 127, 3) := by decide +kernel
theorem dL_addsUp_414 : decode cL_addsUp 414 = .ok (.iload_n 2, 1) := by decide +kernel
theorem dL_addsUp_415 : decode cL_addsUp 415 = .ok (.aload_n 0, 1) := by decide +kernel
theorem dL_addsUp_416 : decode cL_addsUp 416 = .ok (.iconst 4, 1) := by decide +kernel
theorem dL_addsUp_417 : decode cL_addsUp 417 = .ok (.invokevirtual 13, 3) := by decide +kernel
theorem dL_addsUp_420 : decode cL_addsUp 420 = .ok (.if_icmp .ne 118, 3) := by decide +kernel
theorem dL_addsUp_423 : decode cL_addsUp 423 = .ok (.iload_n 2, 1) := by decide +kernel
theorem dL_addsUp_424 : decode cL_addsUp 424 = .ok (.iload_n 1, 1) := by decide +kernel
theorem dL_addsUp_425 : decode cL_addsUp 425 = .ok (.aload_n 0, 1) := by decide +kernel
theorem dL_addsUp_426 : decode cL_addsUp 426 = .ok (.bipush 6, 2) := by decide +kernel
theorem dL_addsUp_428 : decode cL_addsUp 428 = .ok (.invokevirtual 13, 3) := by decide +kernel
theorem dL_addsUp_431 : decode cL_addsUp 431 = .ok (.iadd, 1) := by decide +kernel
theorem dL_addsUp_432 : decode cL_addsUp 432 = .ok (.if_icmp .ne 106, 3) := by decide +kernel
theorem dL_addsUp_435 : decode cL_addsUp 435 = .ok (.iload_n 3, 1) := by decide +kernel
theorem dL_addsUp_436 : decode cL_addsUp 436 = .ok (.aload_n 0, 1) := by decide +kernel
theorem dL_addsUp_437 : decode cL_addsUp 437 = .ok (.iconst 5, 1) := by decide +kernel
theorem dL_addsUp_438 : decode cL_addsUp 438 = .ok (.invokevirtual 13, 3) := by decide +kernel
theorem dL_addsUp_441 : decode cL_addsUp 441 = .ok (.if_icmp .ne 97, 3) := by decide +kernel
theorem dL_addsUp_444 : decode cL_addsUp 444 = .ok (.iload 4, 2) := by decide +kernel
theorem dL_addsUp_446 : decode cL_addsUp 446 = .ok (.aload_n 0, 1) := by decide +kernel
theorem dL_addsUp_447 : decode cL_addsUp 447 = .ok (.bipush 6, 2) := by decide +kernel
theorem dL_addsUp_449 : decode cL_addsUp 449 = .ok (.invokevirtual 13, 3) := by decide +kernel
theorem dL_addsUp_452 : decode cL_addsUp 452 = .ok (.if_icmp .ne 86, 3) := by decide +kernel
theorem dL_addsUp_455 : decode cL_addsUp 455 = .ok (.iload 5, 2) := by decide +kernel
theorem dL_addsUp_457 : decode cL_addsUp 457 = .ok (.aload_n 0, 1) := by decide +kernel
theorem dL_addsUp_458 : decode cL_addsUp 458 = .ok (.bipush 7, 2) := by decide +kernel
theorem dL_addsUp_460 : decode cL_addsUp 460 = .ok (.invokevirtual 13, 3) := by decide +kernel
theorem dL_addsUp_463 : decode cL_addsUp 463 = .ok (.if_icmp .ne 75, 3) := by decide +kernel
theorem dL_addsUp_466 : decode cL_addsUp 466 = .ok (.iload 6, 2) := by decide +kernel
theorem dL_addsUp_468 : decode cL_addsUp 468 = .ok (.aload_n 0, 1) := by decide +kernel
theorem dL_addsUp_469 : decode cL_addsUp 469 = .ok (.bipush 8, 2) := by decide +kernel
theorem dL_addsUp_471 : decode cL_addsUp 471 = .ok (.invokevirtual 13, 3) := by decide +kernel
theorem dL_addsUp_474 : decode cL_addsUp 474 = .ok (.if_icmp .ne 64, 3) := by decide +kernel
theorem dL_addsUp_477 : decode cL_addsUp 477 = .ok (.iload 7, 2) := by decide +kernel
theorem dL_addsUp_479 : decode cL_addsUp 479 = .ok (.aload_n 0, 1) := by decide +kernel
theorem dL_addsUp_480 : decode cL_addsUp 480 = .ok (.bipush 9, 2) := by decide +kernel
theorem dL_addsUp_482 : decode cL_addsUp 482 = .ok (.invokevirtual 13, 3) := by decide +kernel
theorem dL_addsUp_485 : decode cL_addsUp 485 = .ok (.if_icmp .ne 53, 3) := by decide +kernel
theorem dL_addsUp_488 : decode cL_addsUp 488 = .ok (.iload 5, 2) := by decide +kernel
theorem dL_addsUp_490 : decode cL_addsUp 490 = .ok (.iload 6, 2) := by decide +kernel
theorem dL_addsUp_492 : decode cL_addsUp 492 = .ok (.isub, 1) := by decide +kernel
theorem dL_addsUp_493 : decode cL_addsUp 493 = .ok (.iload 7, 2) := by decide +kernel
theorem dL_addsUp_495 : decode cL_addsUp 495 = .ok (.if_icmp .ne 43, 3) := by decide +kernel
theorem dL_addsUp_498 : decode cL_addsUp 498 = .ok (.aload_n 0, 1) := by decide +kernel
theorem dL_addsUp_499 : decode cL_addsUp 499 = .ok (.bipush 10, 2) := by decide +kernel
theorem dL_addsUp_501 : decode cL_addsUp 501 = .ok (.invokevirtual 13, 3) := by decide +kernel
theorem dL_addsUp_504 : decode cL_addsUp 504 = .ok (.bipush 8, 2) := by decide +kernel
theorem dL_addsUp_506 : decode cL_addsUp 506 = .ok (.if_icmp .gt 32, 3) := by decide +kernel
theorem dL_addsUp_509 : decode cL_addsUp 509 = .ok (.aload_n 0, 1) := by decide +kernel
theorem dL_addsUp_510 : decode cL_addsUp 510 = .ok (.bipush 12, 2) := by decide +kernel
theorem dL_addsUp_512 : decode cL_addsUp 512 = .ok (.invokevirtual 13, 3) := by decide +kernel
theorem dL_addsUp_515 : decode cL_addsUp 515 = .ok (.iconst 1, 1) := by decide +kernel
theorem dL_addsUp_516 : decode cL_addsUp 516 = .ok (.if_icmp .lt 22, 3) := by decide +kernel
theorem dL_addsUp_519 : decode cL_addsUp 519 = .ok (.aload_n 0, 1) := by decide +kernel
theorem dL_addsUp_520 : decode cL_addsUp 520 = .ok (.bipush 12, 2) := by decide +kernel
theorem dL_addsUp_522 : decode cL_addsUp 522 = .ok (.invokevirtual 13, 3) := by decide +kernel
theorem dL_addsUp_525 : decode cL_addsUp 525 = .ok (.aload_n 0, 1) := by decide +kernel
theorem dL_addsUp_526 : decode cL_addsUp 526 = .ok (.bipush 20, 2) := by decide +kernel
theorem dL_addsUp_528 : decode cL_addsUp 528 = .ok (.invokevirtual 13, 3) := by decide +kernel
theorem dL_addsUp_531 : decode cL_addsUp 531 = .ok (.if_icmp .gt 7, 3) := by decide +kernel
theorem dL_addsUp_534 : decode cL_addsUp 534 = .ok (.iconst 1, 1) := by decide +kernel
theorem dL_addsUp_535 : decode cL_addsUp 535 = .ok (.goto 4, 3) := by decide +kernel
theorem dL_addsUp_538 : decode cL_addsUp 538 = .ok (.iconst 0, 1) := by decide +kernel
theorem dL_addsUp_539 : decode cL_addsUp 539 = .ok (.ireturn, 1) := by decide +kernel
set_option maxRecDepth 20000 in
theorem ggL_isDrawn_L_print : GoodIn wsL_isDrawn wsL_print := goodIn_r _ [4, 5, 6, 7, 8, 9, 10, 11, 12, 13, 14, 15, 16, 17, 18, 19, 20, 21, 22, 23, 24, 25, 26, 27, 28, 29, 30, 31, 32, 33, 34, 35, 36, 37, 38, 39, 40, 41, 42, 43, 44, 45, 46, 47, 48, 49, 50, 51, 52, 53, 54, 55, 56, 57, 58, 59, 60, 61, 62, 177, 178, 179, 180, 181, 182, 183, 184, 185, 186, 187, 188, 189, 190, 191, 192, 193, 194, 195, 196, 197, 198, 199, 200] (by decide +kernel) (by decide +kernel)
set_option maxRecDepth 20000 in
theorem gL_isDrawn_L_print : GoodIn wsL_isDrawn (va_wsS RL 37 yL_print wsL_print) := goodIn_app (goodIn_of _ (by decide +kernel)) ggL_isDrawn_L_print
set_option maxRecDepth 20000 in
theorem ggL_isDrawn_X3_able : GoodIn wsL_isDrawn wsX3_able := goodIn_r _ [66, 16, 36, 37, 38, 22, 39, 24, 67, 68, 69, 70, 71, 25, 72, 73, 74, 75, 76, 77, 78, 79, 80, 177, 178, 179, 180, 181, 182, 183, 184, 185, 186, 187, 188, 189, 190] (by decide +kernel) (by decide +kernel)
set_option maxRecDepth 20000 in
theorem gL_isDrawn_X3_able : GoodIn wsL_isDrawn (wsV RL 70 RX3 yX3_able wsX3_able) := goodIn_app (goodIn_of _ (by decide +kernel)) ggL_isDrawn_X3_able
set_option maxRecDepth 20000 in
theorem ggL_isDrawn_X3_draw : GoodIn wsL_isDrawn wsX3_draw := goodIn_r _ [84, 17, 16, 85, 86, 87, 88, 89, 90, 91, 92, 93, 94, 95, 22, 96, 25, 49, 97, 30, 24, 48, 62, 31, 98, 99, 100, 101, 72, 73, 74, 75, 102, 103, 104, 105, 106, 107, 108, 109, 80, 37, 38, 39, 110, 14, 111, 112, 68, 69, 70, 71, 76, 77, 78, 79, 113, 114, 115, 116, 117, 118, 119, 120, 121, 122, 123, 124, 177, 178, 179, 180, 191, 192, 193, 181, 182, 183, 184, 185, 186, 187, 188, 189, 190] (by decide +kernel) (by decide +kernel)
set_option maxRecDepth 20000 in
theorem gL_isDrawn_X3_draw : GoodIn wsL_isDrawn (wsV RL 55 RX3 yX3_draw wsX3_draw) := goodIn_app (goodIn_of _ (by decide +kernel)) ggL_isDrawn_X3_draw
set_option maxRecDepth 20000 in
theorem ggL_isDrawn_X3_gives : GoodIn wsL_isDrawn wsX3_gives := goodIn_r _ [128, 16, 36, 37, 38, 22, 39, 24, 129, 110, 14, 111, 67, 68, 69, 70, 71, 25, 72, 73, 74, 75, 76, 77, 78, 79, 80, 177, 178, 179, 180, 181, 182, 183, 184, 185, 186, 187, 188, 189, 190] (by decide +kernel) (by decide +kernel)
set_option maxRecDepth 20000 in
theorem gL_isDrawn_X3_gives : GoodIn wsL_isDrawn (wsV RL 73 RX3 yX3_gives wsX3_gives) := goodIn_app (goodIn_of _ (by decide +kernel)) ggL_isDrawn_X3_gives
set_option maxRecDepth 20000 in
theorem ggL_isDrawn_X3_possibleIn : GoodIn wsL_isDrawn wsX3_possibleIn := goodIn_r _ [133, 16, 134, 36, 37, 38, 22, 39, 24, 129, 110, 14, 111, 135, 94, 95, 96, 25, 49, 97, 30, 48, 62, 31, 98, 99, 100, 101, 72, 73, 74, 75, 102, 103, 104, 105, 67, 68, 69, 70, 71, 76, 77, 78, 79, 80, 136, 137, 138, 139, 140, 141, 142, 143, 44, 45, 46, 47, 144, 145, 146, 147, 148, 27, 28, 29, 149, 150, 151, 152, 153, 154, 155, 156, 157, 158, 159, 160, 161, 162, 163, 164, 112, 113, 114, 115, 116, 165, 166, 167, 168, 177, 178, 179, 180, 181, 182, 183, 184, 185, 186, 187, 188, 189, 190] (by decide +kernel) (by decide +kernel)
set_option maxRecDepth 20000 in
theorem gL_isDrawn_X3_possibleIn : GoodIn wsL_isDrawn (wsV RL 76 RX3 yX3_possibleIn wsX3_possibleIn) := goodIn_app (goodIn_of _ (by decide +kernel)) ggL_isDrawn_X3_possibleIn
set_option maxRecDepth 20000 in
theorem ggL_isDrawn_X3_count : GoodIn wsL_isDrawn wsX3_count := goodIn_r _ [15, 16, 17, 18, 19, 20, 21, 22, 23, 24, 25, 26, 27, 28, 29, 30, 31, 177, 178, 179, 180, 181, 182, 183, 184, 185, 186, 187, 188, 189, 190, 191, 192, 193, 194, 195, 196, 197, 198, 199, 200] (by decide +kernel) (by decide +kernel)
set_option maxRecDepth 20000 in
theorem gL_isDrawn_X3_count : GoodIn wsL_isDrawn (wsV RL 13 RX3 yX3_count wsX3_count) := goodIn_app (goodIn_of _ (by decide +kernel)) ggL_isDrawn_X3_count
set_option maxRecDepth 20000 in
theorem ggL_isDrawn_X3_wellOf : GoodIn wsL_isDrawn wsX3_wellOf := goodIn_r _ [35, 16, 36, 37, 38, 22, 39, 24, 40, 41, 42, 43, 44, 45, 46, 47, 48, 49, 177, 178, 179, 180, 181, 182, 183, 184, 185, 186, 187, 188, 189, 190] (by decide +kernel) (by decide +kernel)
set_option maxRecDepth 20000 in
theorem gL_isDrawn_X3_wellOf : GoodIn wsL_isDrawn (wsV RL 21 RX3 yX3_wellOf wsX3_wellOf) := goodIn_app (goodIn_of _ (by decide +kernel)) ggL_isDrawn_X3_wellOf
set_option maxRecDepth 20000 in
theorem ggL_isDrawn_X3_undo : GoodIn wsL_isDrawn wsX3_undo := goodIn_r _ [172, 17, 16, 173, 174, 175, 88, 176, 92, 90, 91, 93, 94, 95, 22, 96, 25, 49, 97, 30, 24, 48, 62, 31, 98, 99, 100, 101, 72, 73, 74, 75, 102, 103, 104, 105, 177, 178, 179, 180, 191, 192, 193, 181, 182, 183, 184, 185, 186, 187, 188, 189, 190] (by decide +kernel) (by decide +kernel)
set_option maxRecDepth 20000 in
theorem gL_isDrawn_X3_undo : GoodIn wsL_isDrawn (wsV RL 89 RX3 yX3_undo wsX3_undo) := goodIn_app (goodIn_of _ (by decide +kernel)) ggL_isDrawn_X3_undo
