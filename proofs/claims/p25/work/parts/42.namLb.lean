theorem dL_refused_0 : decode cL_refused 0 = .ok (.aload_n 0, 1) := by decide +kernel
theorem dL_refused_1 : decode cL_refused 1 = .ok (.invokestatic 37, 3) := by decide +kernel
theorem dL_refused_4 : decode cL_refused 4 = .ok (.lstore_n 1, 1) := by decide +kernel
theorem dL_refused_5 : decode cL_refused 5 = .ok (.aload_n 0, 1) := by decide +kernel
theorem dL_refused_6 : decode cL_refused 6 = .ok (.iconst 0, 1) := by decide +kernel
theorem dL_refused_7 : decode cL_refused 7 = .ok (.invokevirtual 13, 3) := by decide +kernel
theorem dL_refused_10 : decode cL_refused 10 = .ok (.istore_n 3, 1) := by decide +kernel
theorem dL_refused_11 : decode cL_refused 11 = .ok (.aload_n 0, 1) := by decide +kernel
theorem dL_refused_12 : decode cL_refused 12 = .ok (.bipush 13, 2) := by decide +kernel
theorem dL_refused_14 : decode cL_refused 14 = .ok (.invokevirtual 13, 3) := by decide +kernel
theorem dL_refused_17 : decode cL_refused 17 = .ok (.istore 4, 2) := by decide +kernel
theorem dL_refused_19 : decode cL_refused 19 = .ok (.iload_n 3, 1) := by decide +kernel
theorem dL_refused_20 : decode cL_refused 20 = .ok (.ifCond .ne 7, 3) := by decide +kernel
theorem dL_refused_23 : decode cL_refused 23 = .ok (.iconst (-1), 1) := by decide +kernel
theorem dL_refused_24 : decode cL_refused 24 = .ok (.goto 4, 3) := by decide +kernel
theorem dL_refused_27 : decode cL_refused 27 = .ok (.iconst 0, 1) := by decide +kernel
theorem dL_refused_28 : decode cL_refused 28 = .ok (.istore 5, 2) := by decide +kernel
theorem dL_refused_30 : decode cL_refused 30 = .ok (.aload_n 0, 1) := by decide +kernel
theorem dL_refused_31 : decode cL_refused 31 = .ok (.iload_n 3, 1) := by decide +kernel
theorem dL_refused_32 : decode cL_refused 32 = .ok (.ifCond .ne 7, 3) := by decide +kernel
theorem dL_refused_35 : decode cL_refused 35 = .ok (.iconst 0, 1) := by decide +kernel
theorem dL_refused_36 : decode cL_refused 36 = .ok (.goto 4, 3) := by decide +kernel
theorem dL_refused_39 : decode cL_refused 39 = .ok (.iconst (-1), 1) := by decide +kernel
theorem dL_refused_40 : decode cL_refused 40 = .ok (.bipush 10, 2) := by decide +kernel
theorem dL_refused_42 : decode cL_refused 42 = .ok (.iconst 1, 1) := by decide +kernel
theorem dL_refused_43 : decode cL_refused 43 = .ok (.iconst 1, 1) := by decide +kernel
theorem dL_refused_44 : decode cL_refused 44 = .ok (.invokevirtual 43, 3) := by decide +kernel
theorem dL_refused_47 : decode cL_refused 47 = .ok (.iconst (-1), 1) := by decide +kernel
theorem dL_refused_48 : decode cL_refused 48 = .ok (.if_icmp .ne 201, 3) := by decide +kernel
theorem dL_refused_51 : decode cL_refused 51 = .ok (.aload_n 0, 1) := by decide +kernel
theorem dL_refused_52 : decode cL_refused 52 = .ok (.iload_n 3, 1) := by decide +kernel
theorem dL_refused_53 : decode cL_refused 53 = .ok (.bipush 10, 2) := by decide +kernel
theorem dL_refused_55 : decode cL_refused 55 = .ok (.iconst 1, 1) := by decide +kernel
theorem dL_refused_56 : decode cL_refused 56 = .ok (.iconst 1, 1) := by decide +kernel
theorem dL_refused_57 : decode cL_refused 57 = .ok (.invokevirtual 43, 3) := by decide +kernel
theorem dL_refused_60 : decode cL_refused 60 = .ok (.iconst (-1), 1) := by decide +kernel
theorem dL_refused_61 : decode cL_refused 61 = .ok (.if_icmp .ne 188, 3) := by decide +kernel
theorem dL_refused_64 : decode cL_refused 64 = .ok (.aload_n 0, 1) := by decide +kernel
theorem dL_refused_65 : decode cL_refused 65 = .ok (.iload 5, 2) := by decide +kernel
theorem dL_refused_67 : decode cL_refused 67 = .ok (.iconst 0, 1) := by decide +kernel
theorem dL_refused_68 : decode cL_refused 68 = .ok (.iconst 1, 1) := by decide +kernel
theorem dL_refused_69 : decode cL_refused 69 = .ok (.iconst 1, 1) := by decide +kernel
theorem dL_refused_70 : decode cL_refused 70 = .ok (.invokevirtual 43, 3) := by decide +kernel
theorem dL_refused_73 : decode cL_refused 73 = .ok (.iconst (-1), 1) := by decide +kernel
theorem dL_refused_74 : decode cL_refused 74 = .ok (.if_icmp .ne 175, 3) := by decide +kernel
theorem dL_refused_77 : decode cL_refused 77 = .ok (.aload_n 0, 1) := by decide +kernel
theorem dL_refused_78 : decode cL_refused 78 = .ok (.iload 5, 2) := by decide +kernel
theorem dL_refused_80 : decode cL_refused 80 = .ok (.sipush 1001, 3) := by decide +kernel
theorem dL_refused_83 : decode cL_refused 83 = .ok (.iconst 1, 1) := by decide +kernel
theorem dL_refused_84 : decode cL_refused 84 = .ok (.iconst 1, 1) := by decide +kernel
theorem dL_refused_85 : decode cL_refused 85 = .ok (.invokevirtual 43, 3) := by decide +kernel
theorem dL_refused_88 : decode cL_refused 88 = .ok (.iconst (-1), 1) := by decide +kernel
theorem dL_refused_89 : decode cL_refused 89 = .ok (.if_icmp .ne 160, 3) := by decide +kernel
theorem dL_refused_92 : decode cL_refused 92 = .ok (.aload_n 0, 1) := by decide +kernel
theorem dL_refused_93 : decode cL_refused 93 = .ok (.iload 5, 2) := by decide +kernel
theorem dL_refused_95 : decode cL_refused 95 = .ok (.bipush 10, 2) := by decide +kernel
theorem dL_refused_97 : decode cL_refused 97 = .ok (.bipush 101, 2) := by decide +kernel
theorem dL_refused_99 : decode cL_refused 99 = .ok (.iconst 1, 1) := by decide +kernel
theorem dL_refused_100 : decode cL_refused 100 = .ok (.invokevirtual 43, 3) := by decide +kernel
theorem dL_refused_103 : decode cL_refused 103 = .ok (.iconst (-1), 1) := by decide +kernel
theorem dL_refused_104 : decode cL_refused 104 = .ok (.if_icmp .ne 145, 3) := by decide +kernel
theorem dL_refused_107 : decode cL_refused 107 = .ok (.aload_n 0, 1) := by decide +kernel
theorem dL_refused_108 : decode cL_refused 108 = .ok (.iload 5, 2) := by decide +kernel
theorem dL_refused_110 : decode cL_refused 110 = .ok (.bipush 10, 2) := by decide +kernel
theorem dL_refused_112 : decode cL_refused 112 = .ok (.iconst 1, 1) := by decide +kernel
theorem dL_refused_113 : decode cL_refused 113 = .ok (.iconst (-1), 1) := by decide +kernel
theorem dL_refused_114 : decode cL_refused 114 = .ok (.invokevirtual 43, 3) := by decide +kernel
theorem dL_refused_117 : decode cL_refused 117 = .ok (.iconst (-1), 1) := by decide +kernel
theorem dL_refused_118 : decode cL_refused 118 = .ok (.if_icmp .ne 131, 3) := by decide +kernel
theorem dL_refused_121 : decode cL_refused 121 = .ok (.aload_n 0, 1) := by decide +kernel
theorem dL_refused_122 : decode cL_refused 122 = .ok (.iload_n 3, 1) := by decide +kernel
theorem dL_refused_123 : decode cL_refused 123 = .ok (.aload_n 0, 1) := by decide +kernel
theorem dL_refused_124 : decode cL_refused 124 = .ok (.iconst 2, 1) := by decide +kernel
theorem dL_refused_125 : decode cL_refused 125 = .ok (.invokevirtual 13, 3) := by decide +kernel
theorem dL_refused_128 : decode cL_refused 128 = .ok (.iconst 1, 1) := by decide +kernel
theorem dL_refused_129 : decode cL_refused 129 = .ok (.iadd, 1) := by decide +kernel
theorem dL_refused_130 : decode cL_refused 130 = .ok (.ldc 47, 2) := by decide +kernel
theorem dL_refused_132 : decode cL_refused 132 = .ok (.invokevirtual 48, 3) := by decide +kernel
theorem dL_refused_135 : decode cL_refused 135 = .ok (.iconst (-1), 1) := by decide +kernel
theorem dL_refused_136 : decode cL_refused 136 = .ok (.if_icmp .ne 113, 3) := by decide +kernel
theorem dL_refused_139 : decode cL_refused 139 = .ok (.aload_n 0, 1) := by decide +kernel
theorem dL_refused_140 : decode cL_refused 140 = .ok (.aload_n 0, 1) := by decide +kernel
theorem dL_refused_141 : decode cL_refused 141 = .ok (.iconst 1, 1) := by decide +kernel
theorem dL_refused_142 : decode cL_refused 142 = .ok (.invokevirtual 13, 3) := by decide +kernel
theorem dL_refused_145 : decode cL_refused 145 = .ok (.iconst 0, 1) := by decide +kernel
theorem dL_refused_146 : decode cL_refused 146 = .ok (.invokevirtual 25, 3) := by decide +kernel
theorem dL_refused_149 : decode cL_refused 149 = .ok (.iconst (-1), 1) := by decide +kernel
theorem dL_refused_150 : decode cL_refused 150 = .ok (.if_icmp .ne 99, 3) := by decide +kernel
theorem dL_refused_153 : decode cL_refused 153 = .ok (.aload_n 0, 1) := by decide +kernel
theorem dL_refused_154 : decode cL_refused 154 = .ok (.iload_n 3, 1) := by decide +kernel
theorem dL_refused_155 : decode cL_refused 155 = .ok (.iconst 0, 1) := by decide +kernel
theorem dL_refused_156 : decode cL_refused 156 = .ok (.invokevirtual 21, 3) := by decide +kernel
theorem dL_refused_159 : decode cL_refused 159 = .ok (.iconst (-1), 1) := by decide +kernel
theorem dL_refused_160 : decode cL_refused 160 = .ok (.if_icmp .ne 89, 3) := by decide +kernel
theorem dL_refused_163 : decode cL_refused 163 = .ok (.aload_n 0, 1) := by decide +kernel
theorem dL_refused_164 : decode cL_refused 164 = .ok (.iload_n 3, 1) := by decide +kernel
theorem dL_refused_165 : decode cL_refused 165 = .ok (.iconst 0, 1) := by decide +kernel
theorem dL_refused_166 : decode cL_refused 166 = .ok (.invokevirtual 52, 3) := by decide +kernel
theorem dL_refused_169 : decode cL_refused 169 = .ok (.iconst (-1), 1) := by decide +kernel
theorem dL_refused_170 : decode cL_refused 170 = .ok (.if_icmp .ne 79, 3) := by decide +kernel
theorem dL_refused_173 : decode cL_refused 173 = .ok (.aload_n 0, 1) := by decide +kernel
theorem dL_refused_174 : decode cL_refused 174 = .ok (.iload_n 3, 1) := by decide +kernel
theorem dL_refused_175 : decode cL_refused 175 = .ok (.iconst 1, 1) := by decide +kernel
theorem dL_refused_176 : decode cL_refused 176 = .ok (.invokevirtual 55, 3) := by decide +kernel
theorem dL_refused_179 : decode cL_refused 179 = .ok (.iconst (-1), 1) := by decide +kernel
theorem dL_refused_180 : decode cL_refused 180 = .ok (.if_icmp .ne 69, 3) := by decide +kernel
theorem dL_refused_183 : decode cL_refused 183 = .ok (.aload_n 0, 1) := by decide +kernel
theorem dL_refused_184 : decode cL_refused 184 = .ok (.iload_n 3, 1) := by decide +kernel
theorem dL_refused_185 : decode cL_refused 185 = .ok (.iconst 1, 1) := by decide +kernel
theorem dL_refused_186 : decode cL_refused 186 = .ok (.invokevirtual 58, 3) := by decide +kernel
theorem dL_refused_189 : decode cL_refused 189 = .ok (.iconst (-1), 1) := by decide +kernel
theorem dL_refused_190 : decode cL_refused 190 = .ok (.if_icmp .ne 59, 3) := by decide +kernel
theorem dL_refused_193 : decode cL_refused 193 = .ok (.aload_n 0, 1) := by decide +kernel
theorem dL_refused_194 : decode cL_refused 194 = .ok (.iconst 0, 1) := by decide +kernel
theorem dL_refused_195 : decode cL_refused 195 = .ok (.invokevirtual 61, 3) := by decide +kernel
theorem dL_refused_198 : decode cL_refused 198 = .ok (.iconst (-1), 1) := by decide +kernel
theorem dL_refused_199 : decode cL_refused 199 = .ok (.if_icmp .ne 50, 3) := by decide +kernel
theorem dL_refused_202 : decode cL_refused 202 = .ok (.aload_n 0, 1) := by decide +kernel
theorem dL_refused_203 : decode cL_refused 203 = .ok (.aload_n 0, 1) := by decide +kernel
theorem dL_refused_204 : decode cL_refused 204 = .ok (.bipush 10, 2) := by decide +kernel
theorem dL_refused_206 : decode cL_refused 206 = .ok (.invokevirtual 13, 3) := by decide +kernel
theorem dL_refused_209 : decode cL_refused 209 = .ok (.iconst 1, 1) := by decide +kernel
theorem dL_refused_210 : decode cL_refused 210 = .ok (.iadd, 1) := by decide +kernel
theorem dL_refused_211 : decode cL_refused 211 = .ok (.invokevirtual 61, 3) := by decide +kernel
theorem dL_refused_214 : decode cL_refused 214 = .ok (.iconst (-1), 1) := by decide +kernel
theorem dL_refused_215 : decode cL_refused 215 = .ok (.if_icmp .ne 34, 3) := by decide +kernel
theorem dL_refused_218 : decode cL_refused 218 = .ok (.aload_n 0, 1) := by decide +kernel
theorem dL_refused_219 : decode cL_refused 219 = .ok (.aload_n 0, 1) := by decide +kernel
theorem dL_refused_220 : decode cL_refused 220 = .ok (.bipush 10, 2) := by decide +kernel
theorem dL_refused_222 : decode cL_refused 222 = .ok (.invokevirtual 13, 3) := by decide +kernel
theorem dL_refused_225 : decode cL_refused 225 = .ok (.iconst 1, 1) := by decide +kernel
theorem dL_refused_226 : decode cL_refused 226 = .ok (.iadd, 1) := by decide +kernel
theorem dL_refused_227 : decode cL_refused 227 = .ok (.iconst 0, 1) := by decide +kernel
theorem dL_refused_228 : decode cL_refused 228 = .ok (.invokevirtual 32, 3) := by decide +kernel
theorem dL_refused_231 : decode cL_refused 231 = .ok (.iconst (-1), 1) := by decide +kernel
theorem dL_refused_232 : decode cL_refused 232 = .ok (.if_icmp .ne 17, 3) := by decide +kernel
theorem dL_refused_235 : decode cL_refused 235 = .ok (.aload_n 0, 1) := by decide +kernel
theorem dL_refused_236 : decode cL_refused 236 = .ok (.iconst 0, 1) := by decide +kernel
theorem dL_refused_237 : decode cL_refused 237 = .ok (.iconst 0, 1) := by decide +kernel
theorem dL_refused_238 : decode cL_refused 238 = .ok (.invokevirtual 32, 3) := by decide +kernel
theorem dL_refused_241 : decode cL_refused 241 = .ok (.iconst (-1), 1) := by decide +kernel
theorem dL_refused_242 : decode cL_refused 242 = .ok (.if_icmp .ne 7, 3) := by decide +kernel
theorem dL_refused_245 : decode cL_refused 245 = .ok (.iconst 1, 1) := by decide +kernel
theorem dL_refused_246 : decode cL_refused 246 = .ok (.goto 4, 3) := by decide +kernel
theorem dL_refused_249 : decode cL_refused 249 = .ok (.iconst 0, 1) := by decide +kernel
theorem dL_refused_250 : decode cL_refused 250 = .ok (.istore 6, 2) := by decide +kernel
theorem dL_refused_252 : decode cL_refused 252 = .ok (.iload 6, 2) := by decide +kernel
theorem dL_refused_254 : decode cL_refused 254 = .ok (.ifCond .eq 157, 3) := by decide +kernel
theorem dL_refused_257 : decode cL_refused 257 = .ok (.aload_n 0, 1) := by decide +kernel
theorem dL_refused_258 : decode cL_refused 258 = .ok (.iconst 0, 1) := by decide +kernel
theorem dL_refused_259 : decode cL_refused 259 = .ok (.invokevirtual 64, 3) := by decide +kernel
theorem dL_refused_262 : decode cL_refused 262 = .ok (.iconst (-1), 1) := by decide +kernel
theorem dL_refused_263 : decode cL_refused 263 = .ok (.if_icmp .ne 148, 3) := by decide +kernel
theorem dL_refused_266 : decode cL_refused 266 = .ok (.aload_n 0, 1) := by decide +kernel
theorem dL_refused_267 : decode cL_refused 267 = .ok (.sipush 201, 3) := by decide +kernel
theorem dL_refused_270 : decode cL_refused 270 = .ok (.invokevirtual 64, 3) := by decide +kernel
theorem dL_refused_273 : decode cL_refused 273 = .ok (.iconst (-1), 1) := by decide +kernel
theorem dL_refused_274 : decode cL_refused 274 = .ok (.if_icmp .ne 137, 3) := by decide +kernel
theorem dL_refused_277 : decode cL_refused 277 = .ok (.aload_n 0, 1) := by decide +kernel
theorem dL_refused_278 : decode cL_refused 278 = .ok (.iconst 2, 1) := by decide +kernel
theorem dL_refused_279 : decode cL_refused 279 = .ok (.iconst 1, 1) := by decide +kernel
theorem dL_refused_280 : decode cL_refused 280 = .ok (.invokevirtual 67, 3) := by decide +kernel
theorem dL_refused_283 : decode cL_refused 283 = .ok (.iconst (-1), 1) := by decide +kernel
theorem dL_refused_284 : decode cL_refused 284 = .ok (.if_icmp .ne 127, 3) := by decide +kernel
theorem dL_refused_287 : decode cL_refused 287 = .ok (.aload_n 0, 1) := by decide +kernel
theorem dL_refused_288 : decode cL_refused 288 = .ok (.iconst 0, 1) := by decide +kernel
theorem dL_refused_289 : decode cL_refused 289 = .ok (.iconst 3, 1) := by decide +kernel
theorem dL_refused_290 : decode cL_refused 290 = .ok (.invokevirtual 67, 3) := by decide +kernel
theorem dL_refused_293 : decode cL_refused 293 = .ok (.iconst (-1), 1) := by decide +kernel
theorem dL_refused_294 : decode cL_refused 294 = .ok (.if_icmp .ne 117, 3) := by decide +kernel
theorem dL_refused_297 : decode cL_refused 297 = .ok (.aload_n 0, 1) := by decide +kernel
theorem dL_refused_298 : decode cL_refused 298 = .ok (.iconst 0, 1) := by decide +kernel
theorem dL_refused_299 : decode cL_refused 299 = .ok (.bipush 101, 2) := by decide +kernel
theorem dL_refused_301 : decode cL_refused 301 = .ok (.invokevirtual 67, 3) := by decide +kernel
theorem dL_refused_304 : decode cL_refused 304 = .ok (.iconst (-1), 1) := by decide +kernel
theorem dL_refused_305 : decode cL_refused 305 = .ok (.if_icmp .ne 106, 3) := by decide +kernel
theorem dL_refused_308 : decode cL_refused 308 = .ok (.aload_n 0, 1) := by decide +kernel
theorem dL_refused_309 : decode cL_refused 309 = .ok (.iconst 1, 1) := by decide +kernel
theorem dL_refused_310 : decode cL_refused 310 = .ok (.iconst 2, 1) := by decide +kernel
theorem dL_refused_311 : decode cL_refused 311 = .ok (.invokevirtual 67, 3) := by decide +kernel
theorem dL_refused_314 : decode cL_refused 314 = .ok (.iconst (-1), 1) := by decide +kernel
theorem dL_refused_315 : decode cL_refused 315 = .ok (.if_icmp .ne 96, 3) := by decide +kernel
theorem dL_refused_318 : decode cL_refused 318 = .ok (.aload_n 0, 1) := by decide +kernel
theorem dL_refused_319 : decode cL_refused 319 = .ok (.iconst 1, 1) := by decide +kernel
theorem dL_refused_320 : decode cL_refused 320 = .ok (.iconst (-1), 1) := by decide +kernel
theorem dL_refused_321 : decode cL_refused 321 = .ok (.invokevirtual 67, 3) := by decide +kernel
theorem dL_refused_324 : decode cL_refused 324 = .ok (.iconst (-1), 1) := by decide +kernel
theorem dL_refused_325 : decode cL_refused 325 = .ok (.if_icmp .ne 86, 3) := by decide +kernel
theorem dL_refused_328 : decode cL_refused 328 = .ok (.aload_n 0, 1) := by decide +kernel
theorem dL_refused_329 : decode cL_refused 329 = .ok (.iload_n 3, 1) := by decide +kernel
theorem dL_refused_330 : decode cL_refused 330 = .ok (.invokevirtual 70, 3) := by decide +kernel
theorem dL_refused_333 : decode cL_refused 333 = .ok (.iconst (-1), 1) := by decide +kernel
theorem dL_refused_334 : decode cL_refused 334 = .ok (.if_icmp .ne 77, 3) := by decide +kernel
theorem dL_refused_337 : decode cL_refused 337 = .ok (.aload_n 0, 1) := by decide +kernel
theorem dL_refused_338 : decode cL_refused 338 = .ok (.iload_n 3, 1) := by decide +kernel
theorem dL_refused_339 : decode cL_refused 339 = .ok (.iconst 1, 1) := by decide +kernel
theorem dL_refused_340 : decode cL_refused 340 = .ok (.iconst 0, 1) := by decide +kernel
theorem dL_refused_341 : decode cL_refused 341 = .ok (.invokevirtual 73, 3) := by decide +kernel
theorem dL_refused_344 : decode cL_refused 344 = .ok (.iconst (-1), 1) := by decide +kernel
theorem dL_refused_345 : decode cL_refused 345 = .ok (.if_icmp .ne 66, 3) := by decide +kernel
theorem dL_refused_348 : decode cL_refused 348 = .ok (.aload_n 0, 1) := by decide +kernel
theorem dL_refused_349 : decode cL_refused 349 = .ok (.iconst (-1), 1) := by decide +kernel
theorem dL_refused_350 : decode cL_refused 350 = .ok (.iconst 1, 1) := by decide +kernel
theorem dL_refused_351 : decode cL_refused 351 = .ok (.invokevirtual 76, 3) := by decide +kernel
theorem dL_refused_354 : decode cL_refused 354 = .ok (.iconst (-1), 1) := by decide +kernel
theorem dL_refused_355 : decode cL_refused 355 = .ok (.if_icmp .ne 56, 3) := by decide +kernel
theorem dL_refused_358 : decode cL_refused 358 = .ok (.aload_n 0, 1) := by decide +kernel
theorem dL_refused_359 : decode cL_refused 359 = .ok (.iload_n 3, 1) := by decide +kernel
theorem dL_refused_360 : decode cL_refused 360 = .ok (.iconst 0, 1) := by decide +kernel
theorem dL_refused_361 : decode cL_refused 361 = .ok (.invokevirtual 79, 3) := by decide +kernel
theorem dL_refused_364 : decode cL_refused 364 = .ok (.iconst (-1), 1) := by decide +kernel
theorem dL_refused_365 : decode cL_refused 365 = .ok (.if_icmp .ne 46, 3) := by decide +kernel
theorem dL_refused_368 : decode cL_refused 368 = .ok (.aload_n 0, 1) := by decide +kernel
theorem dL_refused_369 : decode cL_refused 369 = .ok (.bipush 15, 2) := by decide +kernel
theorem dL_refused_371 : decode cL_refused 371 = .ok (.invokevirtual 13, 3) := by decide +kernel
theorem dL_refused_374 : decode cL_refused 374 = .ok (.iconst (-1), 1) := by decide +kernel
theorem dL_refused_375 : decode cL_refused 375 = .ok (.if_icmp .ne 36, 3) := by decide +kernel
theorem dL_refused_378 : decode cL_refused 378 = .ok (.aload_n 0, 1) := by decide +kernel
theorem dL_refused_379 : decode cL_refused 379 = .ok (.bipush 22, 2) := by decide +kernel
theorem dL_refused_381 : decode cL_refused 381 = .ok (.invokevirtual 13, 3) := by decide +kernel
theorem dL_refused_384 : decode cL_refused 384 = .ok (.iconst (-1), 1) := by decide +kernel
theorem dL_refused_385 : decode cL_refused 385 = .ok (.if_icmp .ne 26, 3) := by decide +kernel
theorem dL_refused_388 : decode cL_refused 388 = .ok (.aload_n 0, 1) := by decide +kernel
theorem dL_refused_389 : decode cL_refused 389 = .ok (.bipush 31, 2) := by decide +kernel
theorem dL_refused_391 : decode cL_refused 391 = .ok (.invokevirtual 82, 3) := by decide +kernel
theorem dL_refused_394 : decode cL_refused 394 = .ok (.iconst (-1), 1) := by decide +kernel
theorem dL_refused_395 : decode cL_refused 395 = .ok (.if_icmp .ne 16, 3) := by decide +kernel
theorem dL_refused_398 : decode cL_refused 398 = .ok (.aload_n 0, 1) := by decide +kernel
theorem dL_refused_399 : decode cL_refused 399 = .ok (.iconst 2, 1) := by decide +kernel
theorem dL_refused_400 : decode cL_refused 400 = .ok (.invokevirtual 85, 3) := by decide +kernel
theorem dL_refused_403 : decode cL_refused 403 = .ok (.iconst (-1), 1) := by decide +kernel
theorem dL_refused_404 : decode cL_refused 404 = .ok (.if_icmp .ne 7, 3) := by decide +kernel
theorem dL_refused_407 : decode cL_refused 407 = .ok (.iconst 1, 1) := by decide +kernel
theorem dL_refused_408 : decode cL_refused 408 = .ok (.goto 4, 3) := by decide +kernel
theorem dL_refused_411 : decode cL_refused 411 = .ok (.iconst 0, 1) := by decide +kernel
theorem dL_refused_412 : decode cL_refused 412 = .ok (.istore 6, 2) := by decide +kernel
theorem dL_refused_414 : decode cL_refused 414 = .ok (.iload_n 3, 1) := by decide +kernel
theorem dL_refused_415 : decode cL_refused 415 = .ok (.ifCond .le 204, 3) := by decide +kernel
theorem dL_refused_418 : decode cL_refused 418 = .ok (.aload_n 0, 1) := by decide +kernel
theorem dL_refused_419 : decode cL_refused 419 = .ok (.iconst 0, 1) := by decide +kernel
theorem dL_refused_420 : decode cL_refused 420 = .ok (.invokevirtual 70, 3) := by decide +kernel
theorem dL_refused_423 : decode cL_refused 423 = .ok (.istore 7, 2) := by decide +kernel
theorem dL_refused_425 : decode cL_refused 425 = .ok (.iload 6, 2) := by decide +kernel
theorem dL_refused_427 : decode cL_refused 427 = .ok (.ifCond .eq 189, 3) := by decide +kernel
theorem dL_refused_430 : decode cL_refused 430 = .ok (.aload_n 0, 1) := by decide +kernel
theorem dL_refused_431 : decode cL_refused 431 = .ok (.iconst 0, 1) := by decide +kernel
theorem dL_refused_432 : decode cL_refused 432 = .ok (.iconst 0, 1) := by decide +kernel
theorem dL_refused_433 : decode cL_refused 433 = .ok (.invokevirtual 21, 3) := by decide +kernel
theorem dL_refused_436 : decode cL_refused 436 = .ok (.bipush (-4), 2) := by decide +kernel
theorem dL_refused_438 : decode cL_refused 438 = .ok (.if_icmp .ne 178, 3) := by decide +kernel
theorem dL_refused_441 : decode cL_refused 441 = .ok (.aload_n 0, 1) := by decide +kernel
theorem dL_refused_442 : decode cL_refused 442 = .ok (.iconst 0, 1) := by decide +kernel
theorem dL_refused_443 : decode cL_refused 443 = .ok (.bipush 14, 2) := by decide +kernel
theorem dL_refused_445 : decode cL_refused 445 = .ok (.invokevirtual 21, 3) := by decide +kernel
theorem dL_refused_448 : decode cL_refused 448 = .ok (.iconst (-1), 1) := by decide +kernel
theorem dL_refused_449 : decode cL_refused 449 = .ok (.if_icmp .ne 167, 3) := by decide +kernel
theorem dL_refused_452 : decode cL_refused 452 = .ok (.aload_n 0, 1) := by decide +kernel
theorem dL_refused_453 : decode cL_refused 453 = .ok (.iconst 0, 1) := by decide +kernel
theorem dL_refused_454 : decode cL_refused 454 = .ok (.iconst 0, 1) := by decide +kernel
theorem dL_refused_455 : decode cL_refused 455 = .ok (.invokevirtual 52, 3) := by decide +kernel
theorem dL_refused_458 : decode cL_refused 458 = .ok (.bipush (-4), 2) := by decide +kernel
theorem dL_refused_460 : decode cL_refused 460 = .ok (.if_icmp .ne 156, 3) := by decide +kernel
theorem dL_refused_463 : decode cL_refused 463 = .ok (.aload_n 0, 1) := by decide +kernel
theorem dL_refused_464 : decode cL_refused 464 = .ok (.iconst 0, 1) := by decide +kernel
theorem dL_refused_465 : decode cL_refused 465 = .ok (.iconst (-1), 1) := by decide +kernel
theorem dL_refused_466 : decode cL_refused 466 = .ok (.invokevirtual 52, 3) := by decide +kernel
theorem dL_refused_469 : decode cL_refused 469 = .ok (.iconst (-1), 1) := by decide +kernel
theorem dL_refused_470 : decode cL_refused 470 = .ok (.if_icmp .ne 146, 3) := by decide +kernel
theorem dL_refused_473 : decode cL_refused 473 = .ok (.aload_n 0, 1) := by decide +kernel
theorem dL_refused_474 : decode cL_refused 474 = .ok (.iconst 0, 1) := by decide +kernel
theorem dL_refused_475 : decode cL_refused 475 = .ok (.aload_n 0, 1) := by decide +kernel
theorem dL_refused_476 : decode cL_refused 476 = .ok (.iconst 2, 1) := by decide +kernel
theorem dL_refused_477 : decode cL_refused 477 = .ok (.invokevirtual 13, 3) := by decide +kernel
theorem dL_refused_480 : decode cL_refused 480 = .ok (.ldc 47, 2) := by decide +kernel
theorem dL_refused_482 : decode cL_refused 482 = .ok (.invokevirtual 48, 3) := by decide +kernel
theorem dL_refused_485 : decode cL_refused 485 = .ok (.iconst (-1), 1) := by decide +kernel
theorem dL_refused_486 : decode cL_refused 486 = .ok (.if_icmp .ne 130, 3) := by decide +kernel
theorem dL_refused_489 : decode cL_refused 489 = .ok (.aload_n 0, 1) := by decide +kernel
theorem dL_refused_490 : decode cL_refused 490 = .ok (.iconst 0, 1) := by decide +kernel
theorem dL_refused_491 : decode cL_refused 491 = .ok (.aload_n 0, 1) := by decide +kernel
theorem dL_refused_492 : decode cL_refused 492 = .ok (.iconst 2, 1) := by decide +kernel
theorem dL_refused_493 : decode cL_refused 493 = .ok (.invokevirtual 13, 3) := by decide +kernel
theorem dL_refused_496 : decode cL_refused 496 = .ok (.iconst 2, 1) := by decide +kernel
theorem dL_refused_497 : decode cL_refused 497 = .ok (.iadd, 1) := by decide +kernel
theorem dL_refused_498 : decode cL_refused 498 = .ok (.aload_n 0, 1) := by decide +kernel
theorem dL_refused_499 : decode cL_refused 499 = .ok (.iconst 2, 1) := by decide +kernel
theorem dL_refused_500 : decode cL_refused 500 = .ok (.invokevirtual 13, 3) := by decide +kernel
theorem dL_refused_503 : decode cL_refused 503 = .ok (.iconst 1, 1) := by decide +kernel
theorem dL_refused_504 : decode cL_refused 504 = .ok (.iadd, 1) := by decide +kernel
theorem dL_refused_505 : decode cL_refused 505 = .ok (.invokevirtual 48, 3) := by decide +kernel
theorem dL_refused_508 : decode cL_refused 508 = .ok (.iconst (-1), 1) := by decide +kernel
theorem dL_refused_509 : decode cL_refused 509 = .ok (.if_icmp .ne 107, 3) := by decide +kernel
theorem dL_refused_512 : decode cL_refused 512 = .ok (.aload_n 0, 1) := by decide +kernel
theorem dL_refused_513 : decode cL_refused 513 = .ok (.iconst 0, 1) := by decide +kernel
theorem dL_refused_514 : decode cL_refused 514 = .ok (.aload_n 0, 1) := by decide +kernel
theorem dL_refused_515 : decode cL_refused 515 = .ok (.iconst 2, 1) := by decide +kernel
theorem dL_refused_516 : decode cL_refused 516 = .ok (.invokevirtual 13, 3) := by decide +kernel
theorem dL_refused_519 : decode cL_refused 519 = .ok (.iconst 1, 1) := by decide +kernel
theorem dL_refused_520 : decode cL_refused 520 = .ok (.iadd, 1) := by decide +kernel
theorem dL_refused_521 : decode cL_refused 521 = .ok (.ldc 88, 2) := by decide +kernel
theorem dL_refused_523 : decode cL_refused 523 = .ok (.invokevirtual 48, 3) := by decide +kernel
theorem dL_refused_526 : decode cL_refused 526 = .ok (.iconst (-1), 1) := by decide +kernel
theorem dL_refused_527 : decode cL_refused 527 = .ok (.if_icmp .ne 89, 3) := by decide +kernel
theorem dL_refused_530 : decode cL_refused 530 = .ok (.aload_n 0, 1) := by decide +kernel
theorem dL_refused_531 : decode cL_refused 531 = .ok (.iconst 0, 1) := by decide +kernel
theorem dL_refused_532 : decode cL_refused 532 = .ok (.iconst 0, 1) := by decide +kernel
theorem dL_refused_533 : decode cL_refused 533 = .ok (.invokevirtual 55, 3) := by decide +kernel
theorem dL_refused_536 : decode cL_refused 536 = .ok (.iconst (-1), 1) := by decide +kernel
theorem dL_refused_537 : decode cL_refused 537 = .ok (.if_icmp .ne 79, 3) := by decide +kernel
theorem dL_refused_540 : decode cL_refused 540 = .ok (.aload_n 0, 1) := by decide +kernel
theorem dL_refused_541 : decode cL_refused 541 = .ok (.iconst 0, 1) := by decide +kernel
theorem dL_refused_542 : decode cL_refused 542 = .ok (.sipush 1000, 3) := by decide +kernel
theorem dL_refused_545 : decode cL_refused 545 = .ok (.invokevirtual 55, 3) := by decide +kernel
theorem dL_refused_548 : decode cL_refused 548 = .ok (.iconst (-1), 1) := by decide +kernel
theorem dL_refused_549 : decode cL_refused 549 = .ok (.if_icmp .ne 67, 3) := by decide +kernel
theorem dL_refused_552 : decode cL_refused 552 = .ok (.aload_n 0, 1) := by decide +kernel
theorem dL_refused_553 : decode cL_refused 553 = .ok (.iconst 0, 1) := by decide +kernel
theorem dL_refused_554 : decode cL_refused 554 = .ok (.iconst 1, 1) := by decide +kernel
theorem dL_refused_555 : decode cL_refused 555 = .ok (.iload_n 3, 1) := by decide +kernel
theorem dL_refused_556 : decode cL_refused 556 = .ok (.invokevirtual 73, 3) := by decide +kernel
theorem dL_refused_559 : decode cL_refused 559 = .ok (.iconst (-1), 1) := by decide +kernel
theorem dL_refused_560 : decode cL_refused 560 = .ok (.if_icmp .ne 56, 3) := by decide +kernel
theorem dL_refused_563 : decode cL_refused 563 = .ok (.aload_n 0, 1) := by decide +kernel
theorem dL_refused_564 : decode cL_refused 564 = .ok (.iconst 0, 1) := by decide +kernel
theorem dL_refused_565 : decode cL_refused 565 = .ok (.sipush 301, 3) := by decide +kernel
theorem dL_refused_568 : decode cL_refused 568 = .ok (.invokevirtual 79, 3) := by decide +kernel
theorem dL_refused_571 : decode cL_refused 571 = .ok (.iconst (-1), 1) := by decide +kernel
theorem dL_refused_572 : decode cL_refused 572 = .ok (.if_icmp .ne 44, 3) := by decide +kernel
theorem dL_refused_575 : decode cL_refused 575 = .ok (.iload 7, 2) := by decide +kernel
theorem dL_refused_577 : decode cL_refused 577 = .ok (.sipush 999, 3) := by decide +kernel
theorem dL_refused_580 : decode cL_refused 580 = .ok (.if_icmp .ge 32, 3) := by decide +kernel
theorem dL_refused_583 : decode cL_refused 583 = .ok (.aload_n 0, 1) := by decide +kernel
theorem dL_refused_584 : decode cL_refused 584 = .ok (.iconst 0, 1) := by decide +kernel
theorem dL_refused_585 : decode cL_refused 585 = .ok (.iload 7, 2) := by decide +kernel
theorem dL_refused_587 : decode cL_refused 587 = .ok (.iconst 1, 1) := by decide +kernel
theorem dL_refused_588 : decode cL_refused 588 = .ok (.iadd, 1) := by decide +kernel
theorem dL_refused_589 : decode cL_refused 589 = .ok (.invokevirtual 55, 3) := by decide +kernel
theorem dL_refused_592 : decode cL_refused 592 = .ok (.bipush (-2), 2) := by decide +kernel
theorem dL_refused_594 : decode cL_refused 594 = .ok (.if_icmp .ne 22, 3) := by decide +kernel
theorem dL_refused_597 : decode cL_refused 597 = .ok (.aload_n 0, 1) := by decide +kernel
theorem dL_refused_598 : decode cL_refused 598 = .ok (.iconst 0, 1) := by decide +kernel
theorem dL_refused_599 : decode cL_refused 599 = .ok (.iload 7, 2) := by decide +kernel
theorem dL_refused_601 : decode cL_refused 601 = .ok (.iconst 1, 1) := by decide +kernel
theorem dL_refused_602 : decode cL_refused 602 = .ok (.iadd, 1) := by decide +kernel
theorem dL_refused_603 : decode cL_refused 603 = .ok (.iconst 0, 1) := by decide +kernel
theorem dL_refused_604 : decode cL_refused 604 = .ok (.invokevirtual 73, 3) := by decide +kernel
theorem dL_refused_607 : decode cL_refused 607 = .ok (.bipush (-2), 2) := by decide +kernel
theorem dL_refused_609 : decode cL_refused 609 = .ok (.if_icmp .ne 7, 3) := by decide +kernel
theorem dL_refused_612 : decode cL_refused 612 = .ok (.iconst 1, 1) := by decide +kernel
theorem dL_refused_613 : decode cL_refused 613 = .ok (.goto 4, 3) := by decide +kernel
theorem dL_refused_616 : decode cL_refused 616 = .ok (.iconst 0, 1) := by decide +kernel
theorem dL_refused_617 : decode cL_refused 617 = .ok (.istore 6, 2) := by decide +kernel
theorem dL_refused_619 : decode cL_refused 619 = .ok (.iload 6, 2) := by decide +kernel
theorem dL_refused_621 : decode cL_refused 621 = .ok (.ifCond .eq 47, 3) := by decide +kernel
theorem dL_refused_624 : decode cL_refused 624 = .ok (.iload_n 3, 1) := by decide +kernel
theorem dL_refused_625 : decode cL_refused 625 = .ok (.bipush 12, 2) := by decide +kernel
theorem dL_refused_627 : decode cL_refused 627 = .ok (.if_icmp .lt 17, 3) := by decide +kernel
theorem dL_refused_630 : decode cL_refused 630 = .ok (.aload_n 0, 1) := by decide +kernel
theorem dL_refused_631 : decode cL_refused 631 = .ok (.iconst 0, 1) := by decide +kernel
theorem dL_refused_632 : decode cL_refused 632 = .ok (.bipush 10, 2) := by decide +kernel
theorem dL_refused_634 : decode cL_refused 634 = .ok (.iconst 1, 1) := by decide +kernel
theorem dL_refused_635 : decode cL_refused 635 = .ok (.iconst 1, 1) := by decide +kernel
theorem dL_refused_636 : decode cL_refused 636 = .ok (.invokevirtual 43, 3) := by decide +kernel
theorem dL_refused_639 : decode cL_refused 639 = .ok (.bipush (-3), 2) := by decide +kernel
theorem dL_refused_641 : decode cL_refused 641 = .ok (.if_icmp .ne 27, 3) := by decide +kernel
theorem dL_refused_644 : decode cL_refused 644 = .ok (.aload_n 0, 1) := by decide +kernel
theorem dL_refused_645 : decode cL_refused 645 = .ok (.bipush 13, 2) := by decide +kernel
theorem dL_refused_647 : decode cL_refused 647 = .ok (.invokevirtual 13, 3) := by decide +kernel
theorem dL_refused_650 : decode cL_refused 650 = .ok (.iload 4, 2) := by decide +kernel
theorem dL_refused_652 : decode cL_refused 652 = .ok (.if_icmp .ne 16, 3) := by decide +kernel
theorem dL_refused_655 : decode cL_refused 655 = .ok (.aload_n 0, 1) := by decide +kernel
theorem dL_refused_656 : decode cL_refused 656 = .ok (.invokestatic 37, 3) := by decide +kernel
theorem dL_refused_659 : decode cL_refused 659 = .ok (.lload_n 1, 1) := by decide +kernel
theorem dL_refused_660 : decode cL_refused 660 = .ok (.lcmp, 1) := by decide +kernel
theorem dL_refused_661 : decode cL_refused 661 = .ok (.ifCond .ne 7, 3) := by decide +kernel
theorem dL_refused_664 : decode cL_refused 664 = .ok (.iconst 1, 1) := by decide +kernel
theorem dL_refused_665 : decode cL_refused 665 = .ok (.goto 4, 3) := by decide +kernel
theorem dL_refused_668 : decode cL_refused 668 = .ok (.iconst 0, 1) := by decide +kernel
theorem dL_refused_669 : decode cL_refused 669 = .ok (.ireturn, 1) := by decide +kernel
set_option maxRecDepth 20000 in
theorem ggL_addsUp_X3_count : GoodIn wsL_addsUp wsX3_count := goodIn_r _ [5, 6, 7, 8, 9, 10, 11, 12, 13, 14, 15, 16, 17, 18, 19, 20, 21, 62, 63, 64, 65, 66, 67, 68, 69, 70, 71, 72, 73, 74, 75, 76, 77, 78, 79, 80, 81, 82, 83, 84, 85] (by decide +kernel) (by decide +kernel)
set_option maxRecDepth 20000 in
theorem gL_addsUp_X3_count : GoodIn wsL_addsUp (wsV RL 13 RX3 yX3_count wsX3_count) := goodIn_app (goodIn_of _ (by decide +kernel)) ggL_addsUp_X3_count
set_option maxRecDepth 20000 in
theorem ggL_addsUp_X3_wellOf : GoodIn wsL_addsUp wsX3_wellOf := goodIn_r _ [25, 6, 26, 27, 28, 12, 29, 14, 30, 31, 32, 33, 34, 35, 36, 37, 38, 39, 62, 63, 64, 65, 66, 67, 68, 69, 70, 71, 72, 73, 74, 75] (by decide +kernel) (by decide +kernel)
set_option maxRecDepth 20000 in
theorem gL_addsUp_X3_wellOf : GoodIn wsL_addsUp (wsV RL 21 RX3 yX3_wellOf wsX3_wellOf) := goodIn_app (goodIn_of _ (by decide +kernel)) ggL_addsUp_X3_wellOf
set_option maxRecDepth 20000 in
theorem ggL_addsUp_X3_aboveAt : GoodIn wsL_addsUp wsX3_aboveAt := goodIn_r _ [43, 6, 26, 27, 28, 12, 29, 14, 44, 45, 46, 47, 48, 49, 50, 51, 15, 52, 62, 63, 64, 65, 66, 67, 68, 69, 70, 71, 72, 73, 74, 75] (by decide +kernel) (by decide +kernel)
set_option maxRecDepth 20000 in
theorem gL_addsUp_X3_aboveAt : GoodIn wsL_addsUp (wsV RL 52 RX3 yX3_aboveAt wsX3_aboveAt) := goodIn_app (goodIn_of _ (by decide +kernel)) ggL_addsUp_X3_aboveAt
set_option maxRecDepth 20000 in
theorem ggL_addsUp_X3_requestAt : GoodIn wsL_addsUp wsX3_requestAt := goodIn_r _ [56, 6, 57, 58, 59, 12, 60, 61, 62, 63, 64, 65, 66, 67, 68, 69, 70, 71, 72, 73, 74, 75] (by decide +kernel) (by decide +kernel)
set_option maxRecDepth 20000 in
theorem gL_addsUp_X3_requestAt : GoodIn wsL_addsUp (wsV RL 32 RX3 yX3_requestAt wsX3_requestAt) := goodIn_app (goodIn_of _ (by decide +kernel)) ggL_addsUp_X3_requestAt
