theorem dX10_init_0 : decode cX10_init 0 = .ok (.aload_n 0, 1) := by decide +kernel
theorem dX10_init_1 : decode cX10_init 1 = .ok (.invokespecial 1, 3) := by decide +kernel
theorem dX10_init_4 : decode cX10_init 4 = .ok (.aload_n 0, 1) := by decide +kernel
theorem dX10_init_5 : decode cX10_init 5 = .ok (.bipush 24, 2) := by decide +kernel
theorem dX10_init_7 : decode cX10_init 7 = .ok (.newarray .int, 2) := by decide +kernel
theorem dX10_init_9 : decode cX10_init 9 = .ok (.putfield 7, 3) := by decide +kernel
theorem dX10_init_12 : decode cX10_init 12 = .ok (.aload_n 0, 1) := by decide +kernel
theorem dX10_init_13 : decode cX10_init 13 = .ok (.bipush 6, 2) := by decide +kernel
theorem dX10_init_15 : decode cX10_init 15 = .ok (.newarray .int, 2) := by decide +kernel
theorem dX10_init_17 : decode cX10_init 17 = .ok (.putfield 13, 3) := by decide +kernel
theorem dX10_init_20 : decode cX10_init 20 = .ok (.aload_n 0, 1) := by decide +kernel
theorem dX10_init_21 : decode cX10_init 21 = .ok (.bipush 6, 2) := by decide +kernel
theorem dX10_init_23 : decode cX10_init 23 = .ok (.newarray .int, 2) := by decide +kernel
theorem dX10_init_25 : decode cX10_init 25 = .ok (.putfield 16, 3) := by decide +kernel
theorem dX10_init_28 : decode cX10_init 28 = .ok (.aload_n 0, 1) := by decide +kernel
theorem dX10_init_29 : decode cX10_init 29 = .ok (.bipush 8, 2) := by decide +kernel
theorem dX10_init_31 : decode cX10_init 31 = .ok (.newarray .int, 2) := by decide +kernel
theorem dX10_init_33 : decode cX10_init 33 = .ok (.putfield 19, 3) := by decide +kernel
theorem dX10_init_36 : decode cX10_init 36 = .ok (.aload_n 0, 1) := by decide +kernel
theorem dX10_init_37 : decode cX10_init 37 = .ok (.bipush 8, 2) := by decide +kernel
theorem dX10_init_39 : decode cX10_init 39 = .ok (.newarray .int, 2) := by decide +kernel
theorem dX10_init_41 : decode cX10_init 41 = .ok (.putfield 22, 3) := by decide +kernel
theorem dX10_init_44 : decode cX10_init 44 = .ok (.aload_n 0, 1) := by decide +kernel
theorem dX10_init_45 : decode cX10_init 45 = .ok (.bipush 8, 2) := by decide +kernel
theorem dX10_init_47 : decode cX10_init 47 = .ok (.newarray .int, 2) := by decide +kernel
theorem dX10_init_49 : decode cX10_init 49 = .ok (.putfield 25, 3) := by decide +kernel
theorem dX10_init_52 : decode cX10_init 52 = .ok (.aload_n 0, 1) := by decide +kernel
theorem dX10_init_53 : decode cX10_init 53 = .ok (.bipush 6, 2) := by decide +kernel
theorem dX10_init_55 : decode cX10_init 55 = .ok (.newarray .int, 2) := by decide +kernel
theorem dX10_init_57 : decode cX10_init 57 = .ok (.putfield 28, 3) := by decide +kernel
theorem dX10_init_60 : decode cX10_init 60 = .ok (.aload_n 0, 1) := by decide +kernel
theorem dX10_init_61 : decode cX10_init 61 = .ok (.bipush 6, 2) := by decide +kernel
theorem dX10_init_63 : decode cX10_init 63 = .ok (.newarray .int, 2) := by decide +kernel
theorem dX10_init_65 : decode cX10_init 65 = .ok (.putfield 31, 3) := by decide +kernel
theorem dX10_init_68 : decode cX10_init 68 = .ok (.aload_n 0, 1) := by decide +kernel
theorem dX10_init_69 : decode cX10_init 69 = .ok (.bipush 6, 2) := by decide +kernel
theorem dX10_init_71 : decode cX10_init 71 = .ok (.newarray .int, 2) := by decide +kernel
theorem dX10_init_73 : decode cX10_init 73 = .ok (.putfield 34, 3) := by decide +kernel
theorem dX10_init_76 : decode cX10_init 76 = .ok (.aload_n 0, 1) := by decide +kernel
theorem dX10_init_77 : decode cX10_init 77 = .ok (.bipush 6, 2) := by decide +kernel
theorem dX10_init_79 : decode cX10_init 79 = .ok (.newarray .int, 2) := by decide +kernel
theorem dX10_init_81 : decode cX10_init 81 = .ok (.putfield 37, 3) := by decide +kernel
theorem dX10_init_84 : decode cX10_init 84 = .ok (.aload_n 0, 1) := by decide +kernel
theorem dX10_init_85 : decode cX10_init 85 = .ok (.bipush 6, 2) := by decide +kernel
theorem dX10_init_87 : decode cX10_init 87 = .ok (.newarray .int, 2) := by decide +kernel
theorem dX10_init_89 : decode cX10_init 89 = .ok (.putfield 40, 3) := by decide +kernel
theorem dX10_init_92 : decode cX10_init 92 = .ok (.aload_n 0, 1) := by decide +kernel
theorem dX10_init_93 : decode cX10_init 93 = .ok (.bipush 6, 2) := by decide +kernel
theorem dX10_init_95 : decode cX10_init 95 = .ok (.newarray .int, 2) := by decide +kernel
theorem dX10_init_97 : decode cX10_init 97 = .ok (.putfield 43, 3) := by decide +kernel
theorem dX10_init_100 : decode cX10_init 100 = .ok (.aload_n 0, 1) := by decide +kernel
theorem dX10_init_101 : decode cX10_init 101 = .ok (.bipush 6, 2) := by decide +kernel
theorem dX10_init_103 : decode cX10_init 103 = .ok (.newarray .int, 2) := by decide +kernel
theorem dX10_init_105 : decode cX10_init 105 = .ok (.putfield 46, 3) := by decide +kernel
theorem dX10_init_108 : decode cX10_init 108 = .ok (.aload_n 0, 1) := by decide +kernel
theorem dX10_init_109 : decode cX10_init 109 = .ok (.bipush 10, 2) := by decide +kernel
theorem dX10_init_111 : decode cX10_init 111 = .ok (.newarray .int, 2) := by decide +kernel
theorem dX10_init_113 : decode cX10_init 113 = .ok (.putfield 49, 3) := by decide +kernel
theorem dX10_init_116 : decode cX10_init 116 = .ok (.aload_n 0, 1) := by decide +kernel
theorem dX10_init_117 : decode cX10_init 117 = .ok (.bipush 10, 2) := by decide +kernel
theorem dX10_init_119 : decode cX10_init 119 = .ok (.newarray .int, 2) := by decide +kernel
theorem dX10_init_121 : decode cX10_init 121 = .ok (.putfield 52, 3) := by decide +kernel
theorem dX10_init_124 : decode cX10_init 124 = .ok (.aload_n 0, 1) := by decide +kernel
theorem dX10_init_125 : decode cX10_init 125 = .ok (.bipush 10, 2) := by decide +kernel
theorem dX10_init_127 : decode cX10_init 127 = .ok (.newarray .int, 2) := by decide +kernel
theorem dX10_init_129 : decode cX10_init 129 = .ok (.putfield 55, 3) := by decide +kernel
theorem dX10_init_132 : decode cX10_init 132 = .ok (.aload_n 0, 1) := by decide +kernel
theorem dX10_init_133 : decode cX10_init 133 = .ok (.bipush 10, 2) := by decide +kernel
theorem dX10_init_135 : decode cX10_init 135 = .ok (.newarray .int, 2) := by decide +kernel
theorem dX10_init_137 : decode cX10_init 137 = .ok (.putfield 58, 3) := by decide +kernel
theorem dX10_init_140 : decode cX10_init 140 = .ok (.aload_n 0, 1) := by decide +kernel
theorem dX10_init_141 : decode cX10_init 141 = .ok (.bipush 10, 2) := by decide +kernel
theorem dX10_init_143 : decode cX10_init 143 = .ok (.newarray .int, 2) := by decide +kernel
theorem dX10_init_145 : decode cX10_init 145 = .ok (.putfield 61, 3) := by decide +kernel
theorem dX10_init_148 : decode cX10_init 148 = .ok (.aload_n 0, 1) := by decide +kernel
theorem dX10_init_149 : decode cX10_init 149 = .ok (.bipush 10, 2) := by decide +kernel
theorem dX10_init_151 : decode cX10_init 151 = .ok (.newarray .int, 2) := by decide +kernel
theorem dX10_init_153 : decode cX10_init 153 = .ok (.putfield 64, 3) := by decide +kernel
theorem dX10_init_156 : decode cX10_init 156 = .ok (.aload_n 0, 1) := by decide +kernel
theorem dX10_init_157 : decode cX10_init 157 = .ok (.bipush 10, 2) := by decide +kernel
theorem dX10_init_159 : decode cX10_init 159 = .ok (.newarray .int, 2) := by decide +kernel
theorem dX10_init_161 : decode cX10_init 161 = .ok (.putfield 67, 3) := by decide +kernel
theorem dX10_init_164 : decode cX10_init 164 = .ok (.aload_n 0, 1) := by decide +kernel
theorem dX10_init_165 : decode cX10_init 165 = .ok (.bipush 10, 2) := by decide +kernel
theorem dX10_init_167 : decode cX10_init 167 = .ok (.newarray .int, 2) := by decide +kernel
theorem dX10_init_169 : decode cX10_init 169 = .ok (.putfield 70, 3) := by decide +kernel
theorem dX10_init_172 : decode cX10_init 172 = .ok (.aload_n 0, 1) := by decide +kernel
theorem dX10_init_173 : decode cX10_init 173 = .ok (.bipush 10, 2) := by decide +kernel
theorem dX10_init_175 : decode cX10_init 175 = .ok (.newarray .int, 2) := by decide +kernel
theorem dX10_init_177 : decode cX10_init 177 = .ok (.putfield 73, 3) := by decide +kernel
theorem dX10_init_180 : decode cX10_init 180 = .ok (.aload_n 0, 1) := by decide +kernel
theorem dX10_init_181 : decode cX10_init 181 = .ok (.bipush 10, 2) := by decide +kernel
theorem dX10_init_183 : decode cX10_init 183 = .ok (.newarray .int, 2) := by decide +kernel
theorem dX10_init_185 : decode cX10_init 185 = .ok (.putfield 76, 3) := by decide +kernel
theorem dX10_init_188 : decode cX10_init 188 = .ok (.aload_n 0, 1) := by decide +kernel
theorem dX10_init_189 : decode cX10_init 189 = .ok (.bipush 6, 2) := by decide +kernel
theorem dX10_init_191 : decode cX10_init 191 = .ok (.newarray .int, 2) := by decide +kernel
theorem dX10_init_193 : decode cX10_init 193 = .ok (.putfield 79, 3) := by decide +kernel
theorem dX10_init_196 : decode cX10_init 196 = .ok (.aload_n 0, 1) := by decide +kernel
theorem dX10_init_197 : decode cX10_init 197 = .ok (.bipush 11, 2) := by decide +kernel
theorem dX10_init_199 : decode cX10_init 199 = .ok (.newarray .int, 2) := by decide +kernel
theorem dX10_init_201 : decode cX10_init 201 = .ok (.putfield 82, 3) := by decide +kernel
theorem dX10_init_204 : decode cX10_init 204 = .ok (.aload_n 0, 1) := by decide +kernel
theorem dX10_init_205 : decode cX10_init 205 = .ok (.sipush 1000, 3) := by decide +kernel
theorem dX10_init_208 : decode cX10_init 208 = .ok (.putfield 85, 3) := by decide +kernel
theorem dX10_init_211 : decode cX10_init 211 = .ok (.aload_n 0, 1) := by decide +kernel
theorem dX10_init_212 : decode cX10_init 212 = .ok (.sipush 200, 3) := by decide +kernel
theorem dX10_init_215 : decode cX10_init 215 = .ok (.putfield 89, 3) := by decide +kernel
theorem dX10_init_218 : decode cX10_init 218 = .ok (.aload_n 0, 1) := by decide +kernel
theorem dX10_init_219 : decode cX10_init 219 = .ok (.sipush 300, 3) := by decide +kernel
theorem dX10_init_222 : decode cX10_init 222 = .ok (.putfield 92, 3) := by decide +kernel
theorem dX10_init_225 : decode cX10_init 225 = .ok (.aload_n 0, 1) := by decide +kernel
theorem dX10_init_226 : decode cX10_init 226 = .ok (.sipush 5000, 3) := by decide +kernel
theorem dX10_init_229 : decode cX10_init 229 = .ok (.putfield 95, 3) := by decide +kernel
theorem dX10_init_232 : decode cX10_init 232 = .ok (.aload_n 0, 1) := by decide +kernel
theorem dX10_init_233 : decode cX10_init 233 = .ok (.bipush 40, 2) := by decide +kernel
theorem dX10_init_235 : decode cX10_init 235 = .ok (.newarray .int, 2) := by decide +kernel
theorem dX10_init_237 : decode cX10_init 237 = .ok (.putfield 98, 3) := by decide +kernel
theorem dX10_init_240 : decode cX10_init 240 = .ok (.aload_n 0, 1) := by decide +kernel
theorem dX10_init_241 : decode cX10_init 241 = .ok (.bipush 40, 2) := by decide +kernel
theorem dX10_init_243 : decode cX10_init 243 = .ok (.newarray .int, 2) := by decide +kernel
theorem dX10_init_245 : decode cX10_init 245 = .ok (.putfield 101, 3) := by decide +kernel
theorem dX10_init_248 : decode cX10_init 248 = .ok (.aload_n 0, 1) := by decide +kernel
theorem dX10_init_249 : decode cX10_init 249 = .ok (.bipush 40, 2) := by decide +kernel
theorem dX10_init_251 : decode cX10_init 251 = .ok (.newarray .int, 2) := by decide +kernel
theorem dX10_init_253 : decode cX10_init 253 = .ok (.putfield 104, 3) := by decide +kernel
theorem dX10_init_256 : decode cX10_init 256 = .ok (.aload_n 0, 1) := by decide +kernel
theorem dX10_init_257 : decode cX10_init 257 = .ok (.bipush 40, 2) := by decide +kernel
theorem dX10_init_259 : decode cX10_init 259 = .ok (.newarray .int, 2) := by decide +kernel
theorem dX10_init_261 : decode cX10_init 261 = .ok (.putfield 107, 3) := by decide +kernel
theorem dX10_init_264 : decode cX10_init 264 = .ok (.aload_n 0, 1) := by decide +kernel
theorem dX10_init_265 : decode cX10_init 265 = .ok (.bipush 40, 2) := by decide +kernel
theorem dX10_init_267 : decode cX10_init 267 = .ok (.newarray .int, 2) := by decide +kernel
theorem dX10_init_269 : decode cX10_init 269 = .ok (.putfield 110, 3) := by decide +kernel
theorem dX10_init_272 : decode cX10_init 272 = .ok (.aload_n 0, 1) := by decide +kernel
theorem dX10_init_273 : decode cX10_init 273 = .ok (.bipush 40, 2) := by decide +kernel
theorem dX10_init_275 : decode cX10_init 275 = .ok (.newarray .int, 2) := by decide +kernel
theorem dX10_init_277 : decode cX10_init 277 = .ok (.putfield 113, 3) := by decide +kernel
theorem dX10_init_280 : decode cX10_init 280 = .ok (.aload_n 0, 1) := by decide +kernel
theorem dX10_init_281 : decode cX10_init 281 = .ok (.bipush 40, 2) := by decide +kernel
theorem dX10_init_283 : decode cX10_init 283 = .ok (.newarray .int, 2) := by decide +kernel
theorem dX10_init_285 : decode cX10_init 285 = .ok (.putfield 116, 3) := by decide +kernel
theorem dX10_init_288 : decode cX10_init 288 = .ok (.aload_n 0, 1) := by decide +kernel
theorem dX10_init_289 : decode cX10_init 289 = .ok (.bipush 40, 2) := by decide +kernel
theorem dX10_init_291 : decode cX10_init 291 = .ok (.newarray .int, 2) := by decide +kernel
theorem dX10_init_293 : decode cX10_init 293 = .ok (.putfield 119, 3) := by decide +kernel
theorem dX10_init_296 : decode cX10_init 296 = .ok (.aload_n 0, 1) := by decide +kernel
theorem dX10_init_297 : decode cX10_init 297 = .ok (.bipush 20, 2) := by decide +kernel
theorem dX10_init_299 : decode cX10_init 299 = .ok (.newarray .int, 2) := by decide +kernel
theorem dX10_init_301 : decode cX10_init 301 = .ok (.putfield 122, 3) := by decide +kernel
theorem dX10_init_304 : decode cX10_init 304 = .ok (.aload_n 0, 1) := by decide +kernel
theorem dX10_init_305 : decode cX10_init 305 = .ok (.bipush 20, 2) := by decide +kernel
theorem dX10_init_307 : decode cX10_init 307 = .ok (.newarray .int, 2) := by decide +kernel
theorem dX10_init_309 : decode cX10_init 309 = .ok (.putfield 125, 3) := by decide +kernel
theorem dX10_init_312 : decode cX10_init 312 = .ok (.aload_n 0, 1) := by decide +kernel
theorem dX10_init_313 : decode cX10_init 313 = .ok (.bipush 20, 2) := by decide +kernel
theorem dX10_init_315 : decode cX10_init 315 = .ok (.newarray .int, 2) := by decide +kernel
theorem dX10_init_317 : decode cX10_init 317 = .ok (.putfield 128, 3) := by decide +kernel
theorem dX10_init_320 : decode cX10_init 320 = .ok (.aload_n 0, 1) := by decide +kernel
theorem dX10_init_321 : decode cX10_init 321 = .ok (.iconst 5, 1) := by decide +kernel
theorem dX10_init_322 : decode cX10_init 322 = .ok (.putfield 131, 3) := by decide +kernel
theorem dX10_init_325 : decode cX10_init 325 = .ok (.aload_n 0, 1) := by decide +kernel
theorem dX10_init_326 : decode cX10_init 326 = .ok (.ldc 134, 2) := by decide +kernel
theorem dX10_init_328 : decode cX10_init 328 = .ok (.putfield 135, 3) := by decide +kernel
theorem dX10_init_331 : decode cX10_init 331 = .ok (.aload_n 0, 1) := by decide +kernel
theorem dX10_init_332 : decode cX10_init 332 = .ok (.bipush 24, 2) := by decide +kernel
theorem dX10_init_334 : decode cX10_init 334 = .ok (.newarray .int, 2) := by decide +kernel
theorem dX10_init_336 : decode cX10_init 336 = .ok (.putfield 138, 3) := by decide +kernel
theorem dX10_init_339 : decode cX10_init 339 = .ok (.aload_n 0, 1) := by decide +kernel
theorem dX10_init_340 : decode cX10_init 340 = .ok (.bipush 6, 2) := by decide +kernel
theorem dX10_init_342 : decode cX10_init 342 = .ok (.newarray .int, 2) := by decide +kernel
theorem dX10_init_344 : decode cX10_init 344 = .ok (.putfield 141, 3) := by decide +kernel
theorem dX10_init_347 : decode cX10_init 347 = .ok (.aload_n 0, 1) := by decide +kernel
theorem dX10_init_348 : decode cX10_init 348 = .ok (.sipush 160, 3) := by decide +kernel
theorem dX10_init_351 : decode cX10_init 351 = .ok (.newarray .int, 2) := by decide +kernel
theorem dX10_init_353 : decode cX10_init 353 = .ok (.putfield 144, 3) := by decide +kernel
theorem dX10_init_356 : decode cX10_init 356 = .ok (.aload_n 0, 1) := by decide +kernel
theorem dX10_init_357 : decode cX10_init 357 = .ok (.getfield 82, 3) := by decide +kernel
theorem dX10_init_360 : decode cX10_init 360 = .ok (.iconst 2, 1) := by decide +kernel
theorem dX10_init_361 : decode cX10_init 361 = .ok (.iconst (-1), 1) := by decide +kernel
theorem dX10_init_362 : decode cX10_init 362 = .ok (.iastore, 1) := by decide +kernel
theorem dX10_init_363 : decode cX10_init 363 = .ok (.aload_n 0, 1) := by decide +kernel
theorem dX10_init_364 : decode cX10_init 364 = .ok (.getfield 82, 3) := by decide +kernel
theorem dX10_init_367 : decode cX10_init 367 = .ok (.iconst 5, 1) := by decide +kernel
theorem dX10_init_368 : decode cX10_init 368 = .ok (.iconst (-1), 1) := by decide +kernel
theorem dX10_init_369 : decode cX10_init 369 = .ok (.iastore, 1) := by decide +kernel
theorem dX10_init_370 : decode cX10_init 370 = .ok (.aload_n 0, 1) := by decide +kernel
theorem dX10_init_371 : decode cX10_init 371 = .ok (.getfield 82, 3) := by decide +kernel
theorem dX10_init_374 : decode cX10_init 374 = .ok (.bipush 8, 2) := by decide +kernel
theorem dX10_init_376 : decode cX10_init 376 = .ok (.iconst (-1), 1) := by decide +kernel
theorem dX10_init_377 : decode cX10_init 377 = .ok (.iastore, 1) := by decide +kernel
theorem dX10_init_378 : decode cX10_init 378 = .ok (.return_, 1) := by decide +kernel
theorem dX10_finding_0 : decode cX10_finding 0 = .ok (.aload_n 0, 1) := by decide +kernel
theorem dX10_finding_1 : decode cX10_finding 1 = .ok (.getfield 141, 3) := by decide +kernel
theorem dX10_finding_4 : decode cX10_finding 4 = .ok (.iload_n 1, 1) := by decide +kernel
theorem dX10_finding_5 : decode cX10_finding 5 = .ok (.dup2, 1) := by decide +kernel
theorem dX10_finding_6 : decode cX10_finding 6 = .ok (.iaload, 1) := by decide +kernel
theorem dX10_finding_7 : decode cX10_finding 7 = .ok (.iconst 1, 1) := by decide +kernel
theorem dX10_finding_8 : decode cX10_finding 8 = .ok (.iadd, 1) := by decide +kernel
theorem dX10_finding_9 : decode cX10_finding 9 = .ok (.iastore, 1) := by decide +kernel
theorem dX10_finding_10 : decode cX10_finding 10 = .ok (.ldc 147, 2) := by decide +kernel
theorem dX10_finding_12 : decode cX10_finding 12 = .ok (.iload_n 1, 1) := by decide +kernel
theorem dX10_finding_13 : decode cX10_finding 13 = .ok (.isub, 1) := by decide +kernel
theorem dX10_finding_14 : decode cX10_finding 14 = .ok (.ireturn, 1) := by decide +kernel
theorem dX10_isIn_0 : decode cX10_isIn 0 = .ok (.iload_n 0, 1) := by decide +kernel
theorem dX10_isIn_1 : decode cX10_isIn 1 = .ok (.iload_n 1, 1) := by decide +kernel
theorem dX10_isIn_2 : decode cX10_isIn 2 = .ok (.if_icmp .lt 12, 3) := by decide +kernel
theorem dX10_isIn_5 : decode cX10_isIn 5 = .ok (.iload_n 0, 1) := by decide +kernel
theorem dX10_isIn_6 : decode cX10_isIn 6 = .ok (.iload_n 2, 1) := by decide +kernel
theorem dX10_isIn_7 : decode cX10_isIn 7 = .ok (.if_icmp .gt 7, 3) := by decide +kernel
theorem dX10_isIn_10 : decode cX10_isIn 10 = .ok (.iconst 1, 1) := by decide +kernel
theorem dX10_isIn_11 : decode cX10_isIn 11 = .ok (.goto 4, 3) := by decide +kernel
theorem dX10_isIn_14 : decode cX10_isIn 14 = .ok (.iconst 0, 1) := by decide +kernel
theorem dX10_isIn_15 : decode cX10_isIn 15 = .ok (.ireturn, 1) := by decide +kernel
theorem dX10_isModule_0 : decode cX10_isModule 0 = .ok (.iload_n 1, 1) := by decide +kernel
theorem dX10_isModule_1 : decode cX10_isModule 1 = .ok (.ifCond .lt 15, 3) := by decide +kernel
theorem dX10_isModule_4 : decode cX10_isModule 4 = .ok (.iload_n 1, 1) := by decide +kernel
theorem dX10_isModule_5 : decode cX10_isModule 5 = .ok (.aload_n 0, 1) := by decide +kernel
theorem dX10_isModule_6 : decode cX10_isModule 6 = .ok (.getfield 148, 3) := by decide +kernel
theorem dX10_isModule_9 : decode cX10_isModule 9 = .ok (.if_icmp .ge 7, 3) := by decide +kernel
theorem dX10_isModule_12 : decode cX10_isModule 12 = .ok (.iconst 1, 1) := by decide +kernel
theorem dX10_isModule_13 : decode cX10_isModule 13 = .ok (.goto 4, 3) := by decide +kernel
theorem dX10_isModule_16 : decode cX10_isModule 16 = .ok (.iconst 0, 1) := by decide +kernel
theorem dX10_isModule_17 : decode cX10_isModule 17 = .ok (.ireturn, 1) := by decide +kernel
theorem dX10_isHatch_0 : decode cX10_isHatch 0 = .ok (.iload_n 1, 1) := by decide +kernel
theorem dX10_isHatch_1 : decode cX10_isHatch 1 = .ok (.ifCond .lt 15, 3) := by decide +kernel
theorem dX10_isHatch_4 : decode cX10_isHatch 4 = .ok (.iload_n 1, 1) := by decide +kernel
theorem dX10_isHatch_5 : decode cX10_isHatch 5 = .ok (.aload_n 0, 1) := by decide +kernel
theorem dX10_isHatch_6 : decode cX10_isHatch 6 = .ok (.getfield 151, 3) := by decide +kernel
theorem dX10_isHatch_9 : decode cX10_isHatch 9 = .ok (.if_icmp .ge 7, 3) := by decide +kernel
theorem dX10_isHatch_12 : decode cX10_isHatch 12 = .ok (.iconst 1, 1) := by decide +kernel
theorem dX10_isHatch_13 : decode cX10_isHatch 13 = .ok (.goto 4, 3) := by decide +kernel
theorem dX10_isHatch_16 : decode cX10_isHatch 16 = .ok (.iconst 0, 1) := by decide +kernel
theorem dX10_isHatch_17 : decode cX10_isHatch 17 = .ok (.ireturn, 1) := by decide +kernel
theorem dX10_isPerson_0 : decode cX10_isPerson 0 = .ok (.iload_n 1, 1) := by decide +kernel
theorem dX10_isPerson_1 : decode cX10_isPerson 1 = .ok (.ifCond .lt 15, 3) := by decide +kernel
theorem dX10_isPerson_4 : decode cX10_isPerson 4 = .ok (.iload_n 1, 1) := by decide +kernel
theorem dX10_isPerson_5 : decode cX10_isPerson 5 = .ok (.aload_n 0, 1) := by decide +kernel
theorem dX10_isPerson_6 : decode cX10_isPerson 6 = .ok (.getfield 154, 3) := by decide +kernel
theorem dX10_isPerson_9 : decode cX10_isPerson 9 = .ok (.if_icmp .ge 7, 3) := by decide +kernel
theorem dX10_isPerson_12 : decode cX10_isPerson 12 = .ok (.iconst 1, 1) := by decide +kernel
theorem dX10_isPerson_13 : decode cX10_isPerson 13 = .ok (.goto 4, 3) := by decide +kernel
theorem dX10_isPerson_16 : decode cX10_isPerson 16 = .ok (.iconst 0, 1) := by decide +kernel
theorem dX10_isPerson_17 : decode cX10_isPerson 17 = .ok (.ireturn, 1) := by decide +kernel
theorem dX10_isMachine_0 : decode cX10_isMachine 0 = .ok (.iload_n 1, 1) := by decide +kernel
theorem dX10_isMachine_1 : decode cX10_isMachine 1 = .ok (.ifCond .lt 15, 3) := by decide +kernel
theorem dX10_isMachine_4 : decode cX10_isMachine 4 = .ok (.iload_n 1, 1) := by decide +kernel
theorem dX10_isMachine_5 : decode cX10_isMachine 5 = .ok (.aload_n 0, 1) := by decide +kernel
theorem dX10_isMachine_6 : decode cX10_isMachine 6 = .ok (.getfield 157, 3) := by decide +kernel
theorem dX10_isMachine_9 : decode cX10_isMachine 9 = .ok (.if_icmp .ge 7, 3) := by decide +kernel
theorem dX10_isMachine_12 : decode cX10_isMachine 12 = .ok (.iconst 1, 1) := by decide +kernel
theorem dX10_isMachine_13 : decode cX10_isMachine 13 = .ok (.goto 4, 3) := by decide +kernel
theorem dX10_isMachine_16 : decode cX10_isMachine 16 = .ok (.iconst 0, 1) := by decide +kernel
theorem dX10_isMachine_17 : decode cX10_isMachine 17 = .ok (.ireturn, 1) := by decide +kernel
theorem dX10_module_0 : decode cX10_module 0 = .ok (.aload_n 0, 1) := by decide +kernel
theorem dX10_module_1 : decode cX10_module 1 = .ok (.getfield 148, 3) := by decide +kernel
theorem dX10_module_4 : decode cX10_module 4 = .ok (.bipush 6, 2) := by decide +kernel
theorem dX10_module_6 : decode cX10_module 6 = .ok (.if_icmp .ne 9, 3) := by decide +kernel
theorem dX10_module_9 : decode cX10_module 9 = .ok (.aload_n 0, 1) := by decide +kernel
theorem dX10_module_10 : decode cX10_module 10 = .ok (.iconst 4, 1) := by decide +kernel
theorem dX10_module_11 : decode cX10_module 11 = .ok (.invokevirtual 160, 3) := by decide +kernel
theorem dX10_module_14 : decode cX10_module 14 = .ok (.ireturn, 1) := by decide +kernel
theorem dX10_module_15 : decode cX10_module 15 = .ok (.aload_n 0, 1) := by decide +kernel
theorem dX10_module_16 : decode cX10_module 16 = .ok (.dup, 1) := by decide +kernel
theorem dX10_module_17 : decode cX10_module 17 = .ok (.getfield 148, 3) := by decide +kernel
theorem dX10_module_20 : decode cX10_module 20 = .ok (.iconst 1, 1) := by decide +kernel
theorem dX10_module_21 : decode cX10_module 21 = .ok (.iadd, 1) := by decide +kernel
theorem dX10_module_22 : decode cX10_module 22 = .ok (.putfield 148, 3) := by decide +kernel
theorem dX10_module_25 : decode cX10_module 25 = .ok (.aload_n 0, 1) := by decide +kernel
theorem dX10_module_26 : decode cX10_module 26 = .ok (.getfield 148, 3) := by decide +kernel
theorem dX10_module_29 : decode cX10_module 29 = .ok (.iconst 1, 1) := by decide +kernel
theorem dX10_module_30 : decode cX10_module 30 = .ok (.isub, 1) := by decide +kernel
theorem dX10_module_31 : decode cX10_module 31 = .ok (.ireturn, 1) := by decide +kernel
theorem dX10_hatch_0 : decode cX10_hatch 0 = .ok (.aload_n 0, 1) := by decide +kernel
theorem dX10_hatch_1 : decode cX10_hatch 1 = .ok (.iload_n 1, 1) := by decide +kernel
theorem dX10_hatch_2 : decode cX10_hatch 2 = .ok (.invokevirtual 164, 3) := by decide +kernel
theorem dX10_hatch_5 : decode cX10_hatch 5 = .ok (.ifCond .eq 16, 3) := by decide +kernel
theorem dX10_hatch_8 : decode cX10_hatch 8 = .ok (.aload_n 0, 1) := by decide +kernel
theorem dX10_hatch_9 : decode cX10_hatch 9 = .ok (.iload_n 2, 1) := by decide +kernel
theorem dX10_hatch_10 : decode cX10_hatch 10 = .ok (.invokevirtual 164, 3) := by decide +kernel
theorem dX10_hatch_13 : decode cX10_hatch 13 = .ok (.ifCond .eq 8, 3) := by decide +kernel
theorem dX10_hatch_16 : decode cX10_hatch 16 = .ok (.iload_n 1, 1) := by decide +kernel
theorem dX10_hatch_17 : decode cX10_hatch 17 = .ok (.iload_n 2, 1) := by decide +kernel
theorem dX10_hatch_18 : decode cX10_hatch 18 = .ok (.if_icmp .ne 9, 3) := by decide +kernel
theorem dX10_hatch_21 : decode cX10_hatch 21 = .ok (.aload_n 0, 1) := by decide +kernel
theorem dX10_hatch_22 : decode cX10_hatch 22 = .ok (.iconst 1, 1) := by decide +kernel
theorem dX10_hatch_23 : decode cX10_hatch 23 = .ok (.invokevirtual 160, 3) := by decide +kernel
theorem dX10_hatch_26 : decode cX10_hatch 26 = .ok (.ireturn, 1) := by decide +kernel
theorem dX10_hatch_27 : decode cX10_hatch 27 = .ok (.aload_n 0, 1) := by decide +kernel
theorem dX10_hatch_28 : decode cX10_hatch 28 = .ok (.getfield 151, 3) := by decide +kernel
theorem dX10_hatch_31 : decode cX10_hatch 31 = .ok (.bipush 8, 2) := by decide +kernel
theorem dX10_hatch_33 : decode cX10_hatch 33 = .ok (.if_icmp .ne 9, 3) := by decide +kernel
theorem dX10_hatch_36 : decode cX10_hatch 36 = .ok (.aload_n 0, 1) := by decide +kernel
theorem dX10_hatch_37 : decode cX10_hatch 37 = .ok (.iconst 4, 1) := by decide +kernel
theorem dX10_hatch_38 : decode cX10_hatch 38 = .ok (.invokevirtual 160, 3) := by decide +kernel
theorem dX10_hatch_41 : decode cX10_hatch 41 = .ok (.ireturn, 1) := by decide +kernel
theorem dX10_hatch_42 : decode cX10_hatch 42 = .ok (.aload_n 0, 1) := by decide +kernel
theorem dX10_hatch_43 : decode cX10_hatch 43 = .ok (.getfield 19, 3) := by decide +kernel
theorem dX10_hatch_46 : decode cX10_hatch 46 = .ok (.aload_n 0, 1) := by decide +kernel
theorem dX10_hatch_47 : decode cX10_hatch 47 = .ok (.getfield 151, 3) := by decide +kernel
theorem dX10_hatch_50 : decode cX10_hatch 50 = .ok (.iload_n 1, 1) := by decide +kernel
theorem dX10_hatch_51 : decode cX10_hatch 51 = .ok (.iastore, 1) := by decide +kernel
theorem dX10_hatch_52 : decode cX10_hatch 52 = .ok (.aload_n 0, 1) := by decide +kernel
theorem dX10_hatch_53 : decode cX10_hatch 53 = .ok (.getfield 22, 3) := by decide +kernel
theorem dX10_hatch_56 : decode cX10_hatch 56 = .ok (.aload_n 0, 1) := by decide +kernel
theorem dX10_hatch_57 : decode cX10_hatch 57 = .ok (.getfield 151, 3) := by decide +kernel
theorem dX10_hatch_60 : decode cX10_hatch 60 = .ok (.iload_n 2, 1) := by decide +kernel
theorem dX10_hatch_61 : decode cX10_hatch 61 = .ok (.iastore, 1) := by decide +kernel
theorem dX10_hatch_62 : decode cX10_hatch 62 = .ok (.aload_n 0, 1) := by decide +kernel
theorem dX10_hatch_63 : decode cX10_hatch 63 = .ok (.getfield 25, 3) := by decide +kernel
theorem dX10_hatch_66 : decode cX10_hatch 66 = .ok (.aload_n 0, 1) := by decide +kernel
theorem dX10_hatch_67 : decode cX10_hatch 67 = .ok (.getfield 151, 3) := by decide +kernel
theorem dX10_hatch_70 : decode cX10_hatch 70 = .ok (.iconst 1, 1) := by decide +kernel
theorem dX10_hatch_71 : decode cX10_hatch 71 = .ok (.iastore, 1) := by decide +kernel
theorem dX10_hatch_72 : decode cX10_hatch 72 = .ok (.aload_n 0, 1) := by decide +kernel
theorem dX10_hatch_73 : decode cX10_hatch 73 = .ok (.dup, 1) := by decide +kernel
theorem dX10_hatch_74 : decode cX10_hatch 74 = .ok (.getfield 151, 3) := by decide +kernel
theorem dX10_hatch_77 : decode cX10_hatch 77 = .ok (.iconst 1, 1) := by decide +kernel
theorem dX10_hatch_78 : decode cX10_hatch 78 = .ok (.iadd, 1) := by decide +kernel
theorem dX10_hatch_79 : decode cX10_hatch 79 = .ok (.putfield 151, 3) := by decide +kernel
theorem dX10_hatch_82 : decode cX10_hatch 82 = .ok (.aload_n 0, 1) := by decide +kernel
theorem dX10_hatch_83 : decode cX10_hatch 83 = .ok (.getfield 151, 3) := by decide +kernel
theorem dX10_hatch_86 : decode cX10_hatch 86 = .ok (.iconst 1, 1) := by decide +kernel
theorem dX10_hatch_87 : decode cX10_hatch 87 = .ok (.isub, 1) := by decide +kernel
theorem dX10_hatch_88 : decode cX10_hatch 88 = .ok (.ireturn, 1) := by decide +kernel
theorem dX10_shut_0 : decode cX10_shut 0 = .ok (.aload_n 0, 1) := by decide +kernel
theorem dX10_shut_1 : decode cX10_shut 1 = .ok (.iload_n 1, 1) := by decide +kernel
theorem dX10_shut_2 : decode cX10_shut 2 = .ok (.invokevirtual 168, 3) := by decide +kernel
theorem dX10_shut_5 : decode cX10_shut 5 = .ok (.ifCond .eq 12, 3) := by decide +kernel
theorem dX10_shut_8 : decode cX10_shut 8 = .ok (.iload_n 2, 1) := by decide +kernel
theorem dX10_shut_9 : decode cX10_shut 9 = .ok (.iconst 0, 1) := by decide +kernel
theorem dX10_shut_10 : decode cX10_shut 10 = .ok (.iconst 1, 1) := by decide +kernel
theorem dX10_shut_11 : decode cX10_shut 11 = .ok (.invokestatic 171, 3) := by decide +kernel
theorem dX10_shut_14 : decode cX10_shut 14 = .ok (.ifCond .ne 9, 3) := by decide +kernel
theorem dX10_shut_17 : decode cX10_shut 17 = .ok (.aload_n 0, 1) := by decide +kernel
theorem dX10_shut_18 : decode cX10_shut 18 = .ok (.iconst 1, 1) := by decide +kernel
theorem dX10_shut_19 : decode cX10_shut 19 = .ok (.invokevirtual 160, 3) := by decide +kernel
theorem dX10_shut_22 : decode cX10_shut 22 = .ok (.ireturn, 1) := by decide +kernel
theorem dX10_shut_23 : decode cX10_shut 23 = .ok (.aload_n 0, 1) := by decide +kernel
theorem dX10_shut_24 : decode cX10_shut 24 = .ok (.getfield 25, 3) := by decide +kernel
theorem dX10_shut_27 : decode cX10_shut 27 = .ok (.iload_n 1, 1) := by decide +kernel
theorem dX10_shut_28 : decode cX10_shut 28 = .ok (.iaload, 1) := by decide +kernel
theorem dX10_shut_29 : decode cX10_shut 29 = .ok (.istore_n 3, 1) := by decide +kernel
theorem dX10_shut_30 : decode cX10_shut 30 = .ok (.aload_n 0, 1) := by decide +kernel
theorem dX10_shut_31 : decode cX10_shut 31 = .ok (.getfield 25, 3) := by decide +kernel
theorem dX10_shut_34 : decode cX10_shut 34 = .ok (.iload_n 1, 1) := by decide +kernel
theorem dX10_shut_35 : decode cX10_shut 35 = .ok (.iload_n 2, 1) := by decide +kernel
theorem dX10_shut_36 : decode cX10_shut 36 = .ok (.iastore, 1) := by decide +kernel
theorem dX10_shut_37 : decode cX10_shut 37 = .ok (.iload_n 3, 1) := by decide +kernel
theorem dX10_shut_38 : decode cX10_shut 38 = .ok (.ireturn, 1) := by decide +kernel
theorem dX10_gas_0 : decode cX10_gas 0 = .ok (.aload_n 0, 1) := by decide +kernel
theorem dX10_gas_1 : decode cX10_gas 1 = .ok (.iload_n 1, 1) := by decide +kernel
theorem dX10_gas_2 : decode cX10_gas 2 = .ok (.invokevirtual 164, 3) := by decide +kernel
theorem dX10_gas_5 : decode cX10_gas 5 = .ok (.ifCond .eq 22, 3) := by decide +kernel
theorem dX10_gas_8 : decode cX10_gas 8 = .ok (.iload_n 2, 1) := by decide +kernel
theorem dX10_gas_9 : decode cX10_gas 9 = .ok (.iconst 0, 1) := by decide +kernel
theorem dX10_gas_10 : decode cX10_gas 10 = .ok (.iconst 4, 1) := by decide +kernel
theorem dX10_gas_11 : decode cX10_gas 11 = .ok (.invokestatic 171, 3) := by decide +kernel
theorem dX10_gas_14 : decode cX10_gas 14 = .ok (.ifCond .eq 13, 3) := by decide +kernel
theorem dX10_gas_17 : decode cX10_gas 17 = .ok (.iload_n 3, 1) := by decide +kernel
theorem dX10_gas_18 : decode cX10_gas 18 = .ok (.iconst (-1), 1) := by decide +kernel
theorem dX10_gas_19 : decode cX10_gas 19 = .ok (.ldc 175, 2) := by decide +kernel
theorem dX10_gas_21 : decode cX10_gas 21 = .ok (.invokestatic 171, 3) := by decide +kernel
theorem dX10_gas_24 : decode cX10_gas 24 = .ok (.ifCond .ne 9, 3) := by decide +kernel
theorem dX10_gas_27 : decode cX10_gas 27 = .ok (.aload_n 0, 1) := by decide +kernel
theorem dX10_gas_28 : decode cX10_gas 28 = .ok (.iconst 1, 1) := by decide +kernel
theorem dX10_gas_29 : decode cX10_gas 29 = .ok (.invokevirtual 160, 3) := by decide +kernel
theorem dX10_gas_32 : decode cX10_gas 32 = .ok (.ireturn, 1) := by decide +kernel
theorem dX10_gas_33 : decode cX10_gas 33 = .ok (.iload_n 2, 1) := by decide +kernel
theorem dX10_gas_34 : decode cX10_gas 34 = .ok (.iconst 4, 1) := by decide +kernel
theorem dX10_gas_35 : decode cX10_gas 35 = .ok (.if_icmp .ne 12, 3) := by decide +kernel
theorem dX10_gas_38 : decode cX10_gas 38 = .ok (.aload_n 0, 1) := by decide +kernel
theorem dX10_gas_39 : decode cX10_gas 39 = .ok (.getfield 13, 3) := by decide +kernel
theorem dX10_gas_42 : decode cX10_gas 42 = .ok (.iload_n 1, 1) := by decide +kernel
theorem dX10_gas_43 : decode cX10_gas 43 = .ok (.iaload, 1) := by decide +kernel
theorem dX10_gas_44 : decode cX10_gas 44 = .ok (.goto 13, 3) := by decide +kernel
theorem dX10_gas_47 : decode cX10_gas 47 = .ok (.aload_n 0, 1) := by decide +kernel
theorem dX10_gas_48 : decode cX10_gas 48 = .ok (.getfield 7, 3) := by decide +kernel
theorem dX10_gas_51 : decode cX10_gas 51 = .ok (.iconst 4, 1) := by decide +kernel
theorem dX10_gas_52 : decode cX10_gas 52 = .ok (.iload_n 1, 1) := by decide +kernel
theorem dX10_gas_53 : decode cX10_gas 53 = .ok (.imul, 1) := by decide +kernel
theorem dX10_gas_54 : decode cX10_gas 54 = .ok (.iload_n 2, 1) := by decide +kernel
theorem dX10_gas_55 : decode cX10_gas 55 = .ok (.iadd, 1) := by decide +kernel
theorem dX10_gas_56 : decode cX10_gas 56 = .ok (.iaload, 1) := by decide +kernel
theorem dX10_gas_57 : decode cX10_gas 57 = .ok (.istore 4, 2) := by decide +kernel
theorem dX10_gas_59 : decode cX10_gas 59 = .ok (.iload_n 3, 1) := by decide +kernel
theorem dX10_gas_60 : decode cX10_gas 60 = .ok (.ifCond .lt 15, 3) := by decide +kernel
theorem dX10_gas_63 : decode cX10_gas 63 = .ok (.iload_n 2, 1) := by decide +kernel
theorem dX10_gas_64 : decode cX10_gas 64 = .ok (.iconst 4, 1) := by decide +kernel
theorem dX10_gas_65 : decode cX10_gas 65 = .ok (.if_icmp .ne 10, 3) := by decide +kernel
theorem dX10_gas_68 : decode cX10_gas 68 = .ok (.aload_n 0, 1) := by decide +kernel
theorem dX10_gas_69 : decode cX10_gas 69 = .ok (.getfield 13, 3) := by decide +kernel
theorem dX10_gas_72 : decode cX10_gas 72 = .ok (.iload_n 1, 1) := by decide +kernel
theorem dX10_gas_73 : decode cX10_gas 73 = .ok (.iload_n 3, 1) := by decide +kernel
theorem dX10_gas_74 : decode cX10_gas 74 = .ok (.iastore, 1) := by decide +kernel
theorem dX10_gas_75 : decode cX10_gas 75 = .ok (.iload_n 3, 1) := by decide +kernel
theorem dX10_gas_76 : decode cX10_gas 76 = .ok (.ifCond .lt 19, 3) := by decide +kernel
theorem dX10_gas_79 : decode cX10_gas 79 = .ok (.iload_n 2, 1) := by decide +kernel
theorem dX10_gas_80 : decode cX10_gas 80 = .ok (.iconst 4, 1) := by decide +kernel
theorem dX10_gas_81 : decode cX10_gas 81 = .ok (.if_icmp .ge 14, 3) := by decide +kernel
theorem dX10_gas_84 : decode cX10_gas 84 = .ok (.aload_n 0, 1) := by decide +kernel
theorem dX10_gas_85 : decode cX10_gas 85 = .ok (.getfield 7, 3) := by decide +kernel
theorem dX10_gas_88 : decode cX10_gas 88 = .ok (.iconst 4, 1) := by decide +kernel
theorem dX10_gas_89 : decode cX10_gas 89 = .ok (.iload_n 1, 1) := by decide +kernel
theorem dX10_gas_90 : decode cX10_gas 90 = .ok (.imul, 1) := by decide +kernel
theorem dX10_gas_91 : decode cX10_gas 91 = .ok (.iload_n 2, 1) := by decide +kernel
theorem dX10_gas_92 : decode cX10_gas 92 = .ok (.iadd, 1) := by decide +kernel
theorem dX10_gas_93 : decode cX10_gas 93 = .ok (.iload_n 3, 1) := by decide +kernel
theorem dX10_gas_94 : decode cX10_gas 94 = .ok (.iastore, 1) := by decide +kernel
theorem dX10_gas_95 : decode cX10_gas 95 = .ok (.iload 4, 2) := by decide +kernel
theorem dX10_gas_97 : decode cX10_gas 97 = .ok (.ireturn, 1) := by decide +kernel
theorem dX10_leak_0 : decode cX10_leak 0 = .ok (.aload_n 0, 1) := by decide +kernel
theorem dX10_leak_1 : decode cX10_leak 1 = .ok (.iload_n 1, 1) := by decide +kernel
theorem dX10_leak_2 : decode cX10_leak 2 = .ok (.invokevirtual 164, 3) := by decide +kernel
theorem dX10_leak_5 : decode cX10_leak 5 = .ok (.ifCond .eq 13, 3) := by decide +kernel
theorem dX10_leak_8 : decode cX10_leak 8 = .ok (.iload_n 2, 1) := by decide +kernel
theorem dX10_leak_9 : decode cX10_leak 9 = .ok (.iconst 0, 1) := by decide +kernel
theorem dX10_leak_10 : decode cX10_leak 10 = .ok (.bipush 50, 2) := by decide +kernel
theorem dX10_leak_12 : decode cX10_leak 12 = .ok (.invokestatic 171, 3) := by decide +kernel
theorem dX10_leak_15 : decode cX10_leak 15 = .ok (.ifCond .ne 9, 3) := by decide +kernel
theorem dX10_leak_18 : decode cX10_leak 18 = .ok (.aload_n 0, 1) := by decide +kernel
theorem dX10_leak_19 : decode cX10_leak 19 = .ok (.iconst 1, 1) := by decide +kernel
theorem dX10_leak_20 : decode cX10_leak 20 = .ok (.invokevirtual 160, 3) := by decide +kernel
theorem dX10_leak_23 : decode cX10_leak 23 = .ok (.ireturn, 1) := by decide +kernel
theorem dX10_leak_24 : decode cX10_leak 24 = .ok (.aload_n 0, 1) := by decide +kernel
theorem dX10_leak_25 : decode cX10_leak 25 = .ok (.getfield 16, 3) := by decide +kernel
theorem dX10_leak_28 : decode cX10_leak 28 = .ok (.iload_n 1, 1) := by decide +kernel
theorem dX10_leak_29 : decode cX10_leak 29 = .ok (.iaload, 1) := by decide +kernel
theorem dX10_leak_30 : decode cX10_leak 30 = .ok (.istore_n 3, 1) := by decide +kernel
theorem dX10_leak_31 : decode cX10_leak 31 = .ok (.aload_n 0, 1) := by decide +kernel
theorem dX10_leak_32 : decode cX10_leak 32 = .ok (.getfield 16, 3) := by decide +kernel
theorem dX10_leak_35 : decode cX10_leak 35 = .ok (.iload_n 1, 1) := by decide +kernel
theorem dX10_leak_36 : decode cX10_leak 36 = .ok (.iload_n 2, 1) := by decide +kernel
theorem dX10_leak_37 : decode cX10_leak 37 = .ok (.iastore, 1) := by decide +kernel
theorem dX10_leak_38 : decode cX10_leak 38 = .ok (.iload_n 3, 1) := by decide +kernel
theorem dX10_leak_39 : decode cX10_leak 39 = .ok (.ireturn, 1) := by decide +kernel
theorem dX10_tank_0 : decode cX10_tank 0 = .ok (.iload_n 1, 1) := by decide +kernel
theorem dX10_tank_1 : decode cX10_tank 1 = .ok (.iconst 0, 1) := by decide +kernel
theorem dX10_tank_2 : decode cX10_tank 2 = .ok (.iconst 5, 1) := by decide +kernel
theorem dX10_tank_3 : decode cX10_tank 3 = .ok (.invokestatic 171, 3) := by decide +kernel
theorem dX10_tank_6 : decode cX10_tank 6 = .ok (.ifCond .eq 13, 3) := by decide +kernel
theorem dX10_tank_9 : decode cX10_tank 9 = .ok (.iload_n 2, 1) := by decide +kernel
theorem dX10_tank_10 : decode cX10_tank 10 = .ok (.iconst (-1), 1) := by decide +kernel
theorem dX10_tank_11 : decode cX10_tank 11 = .ok (.ldc 176, 2) := by decide +kernel
theorem dX10_tank_13 : decode cX10_tank 13 = .ok (.invokestatic 171, 3) := by decide +kernel
theorem dX10_tank_16 : decode cX10_tank 16 = .ok (.ifCond .ne 9, 3) := by decide +kernel
theorem dX10_tank_19 : decode cX10_tank 19 = .ok (.aload_n 0, 1) := by decide +kernel
theorem dX10_tank_20 : decode cX10_tank 20 = .ok (.iconst 1, 1) := by decide +kernel
theorem dX10_tank_21 : decode cX10_tank 21 = .ok (.invokevirtual 160, 3) := by decide +kernel
theorem dX10_tank_24 : decode cX10_tank 24 = .ok (.ireturn, 1) := by decide +kernel
theorem dX10_tank_25 : decode cX10_tank 25 = .ok (.aload_n 0, 1) := by decide +kernel
theorem dX10_tank_26 : decode cX10_tank 26 = .ok (.getfield 28, 3) := by decide +kernel
theorem dX10_tank_29 : decode cX10_tank 29 = .ok (.iload_n 1, 1) := by decide +kernel
theorem dX10_tank_30 : decode cX10_tank 30 = .ok (.iaload, 1) := by decide +kernel
theorem dX10_tank_31 : decode cX10_tank 31 = .ok (.istore_n 3, 1) := by decide +kernel
theorem dX10_tank_32 : decode cX10_tank 32 = .ok (.aload_n 0, 1) := by decide +kernel
theorem dX10_tank_33 : decode cX10_tank 33 = .ok (.getfield 28, 3) := by decide +kernel
theorem dX10_tank_36 : decode cX10_tank 36 = .ok (.iload_n 1, 1) := by decide +kernel
theorem dX10_tank_37 : decode cX10_tank 37 = .ok (.iload_n 2, 1) := by decide +kernel
theorem dX10_tank_38 : decode cX10_tank 38 = .ok (.ifCond .ge 7, 3) := by decide +kernel
theorem dX10_tank_41 : decode cX10_tank 41 = .ok (.iload_n 3, 1) := by decide +kernel
theorem dX10_tank_42 : decode cX10_tank 42 = .ok (.goto 4, 3) := by decide +kernel
theorem dX10_tank_45 : decode cX10_tank 45 = .ok (.iload_n 2, 1) := by decide +kernel
theorem dX10_tank_46 : decode cX10_tank 46 = .ok (.iastore, 1) := by decide +kernel
theorem dX10_tank_47 : decode cX10_tank 47 = .ok (.iload_n 3, 1) := by decide +kernel
theorem dX10_tank_48 : decode cX10_tank 48 = .ok (.ireturn, 1) := by decide +kernel
theorem dX10_grams_0 : decode cX10_grams 0 = .ok (.iconst 0, 1) := by decide +kernel
theorem dX10_grams_1 : decode cX10_grams 1 = .ok (.istore_n 1, 1) := by decide +kernel
theorem dX10_grams_2 : decode cX10_grams 2 = .ok (.iconst 0, 1) := by decide +kernel
theorem dX10_grams_3 : decode cX10_grams 3 = .ok (.istore_n 2, 1) := by decide +kernel
theorem dX10_grams_4 : decode cX10_grams 4 = .ok (.iload_n 2, 1) := by decide +kernel
theorem dX10_grams_5 : decode cX10_grams 5 = .ok (.iconst 4, 1) := by decide +kernel
theorem dX10_grams_6 : decode cX10_grams 6 = .ok (.aload_n 0, 1) := by decide +kernel
theorem dX10_grams_7 : decode cX10_grams 7 = .ok (.getfield 148, 3) := by decide +kernel
theorem dX10_grams_10 : decode cX10_grams 10 = .ok (.imul, 1) := by decide +kernel
theorem dX10_grams_11 : decode cX10_grams 11 = .ok (.if_icmp .ge 18, 3) := by decide +kernel
theorem dX10_grams_14 : decode cX10_grams 14 = .ok (.iload_n 1, 1) := by decide +kernel
theorem dX10_grams_15 : decode cX10_grams 15 = .ok (.aload_n 0, 1) := by decide +kernel
theorem dX10_grams_16 : decode cX10_grams 16 = .ok (.getfield 7, 3) := by decide +kernel
theorem dX10_grams_19 : decode cX10_grams 19 = .ok (.iload_n 2, 1) := by decide +kernel
theorem dX10_grams_20 : decode cX10_grams 20 = .ok (.iaload, 1) := by decide +kernel
theorem dX10_grams_21 : decode cX10_grams 21 = .ok (.iadd, 1) := by decide +kernel
theorem dX10_grams_22 : decode cX10_grams 22 = .ok (.istore_n 1, 1) := by decide +kernel
theorem dX10_grams_23 : decode cX10_grams 23 = .ok (.iinc 2 1, 3) := by decide +kernel
theorem dX10_grams_26 : decode cX10_grams 26 = .ok (.goto (-22), 3) := by decide +kernel
theorem dX10_grams_29 : decode cX10_grams 29 = .ok (.iconst 0, 1) := by decide +kernel
theorem dX10_grams_30 : decode cX10_grams 30 = .ok (.istore_n 2, 1) := by decide +kernel
theorem dX10_grams_31 : decode cX10_grams 31 = .ok (.iload_n 2, 1) := by decide +kernel
theorem dX10_grams_32 : decode cX10_grams 32 = .ok (.iconst 4, 1) := by decide +kernel
theorem dX10_grams_33 : decode cX10_grams 33 = .ok (.if_icmp .gt 18, 3) := by decide +kernel
theorem dX10_grams_36 : decode cX10_grams 36 = .ok (.iload_n 1, 1) := by decide +kernel
theorem dX10_grams_37 : decode cX10_grams 37 = .ok (.aload_n 0, 1) := by decide +kernel
theorem dX10_grams_38 : decode cX10_grams 38 = .ok (.getfield 28, 3) := by decide +kernel
theorem dX10_grams_41 : decode cX10_grams 41 = .ok (.iload_n 2, 1) := by decide +kernel
theorem dX10_grams_42 : decode cX10_grams 42 = .ok (.iaload, 1) := by decide +kernel
theorem dX10_grams_43 : decode cX10_grams 43 = .ok (.iadd, 1) := by decide +kernel
theorem dX10_grams_44 : decode cX10_grams 44 = .ok (.istore_n 1, 1) := by decide +kernel
theorem dX10_grams_45 : decode cX10_grams 45 = .ok (.iinc 2 1, 3) := by decide +kernel
theorem dX10_grams_48 : decode cX10_grams 48 = .ok (.goto (-17), 3) := by decide +kernel
theorem dX10_grams_51 : decode cX10_grams 51 = .ok (.iload_n 1, 1) := by decide +kernel
theorem dX10_grams_52 : decode cX10_grams 52 = .ok (.ireturn, 1) := by decide +kernel
theorem dX10_person_0 : decode cX10_person 0 = .ok (.aload_n 0, 1) := by decide +kernel
theorem dX10_person_1 : decode cX10_person 1 = .ok (.iload_n 1, 1) := by decide +kernel
theorem dX10_person_2 : decode cX10_person 2 = .ok (.invokevirtual 164, 3) := by decide +kernel
theorem dX10_person_5 : decode cX10_person 5 = .ok (.ifCond .ne 9, 3) := by decide +kernel
theorem dX10_person_8 : decode cX10_person 8 = .ok (.aload_n 0, 1) := by decide +kernel
theorem dX10_person_9 : decode cX10_person 9 = .ok (.iconst 1, 1) := by decide +kernel
theorem dX10_person_10 : decode cX10_person 10 = .ok (.invokevirtual 160, 3) := by decide +kernel
theorem dX10_person_13 : decode cX10_person 13 = .ok (.ireturn, 1) := by decide +kernel
theorem dX10_person_14 : decode cX10_person 14 = .ok (.aload_n 0, 1) := by decide +kernel
theorem dX10_person_15 : decode cX10_person 15 = .ok (.getfield 154, 3) := by decide +kernel
theorem dX10_person_18 : decode cX10_person 18 = .ok (.bipush 6, 2) := by decide +kernel
theorem dX10_person_20 : decode cX10_person 20 = .ok (.if_icmp .ne 9, 3) := by decide +kernel
theorem dX10_person_23 : decode cX10_person 23 = .ok (.aload_n 0, 1) := by decide +kernel
theorem dX10_person_24 : decode cX10_person 24 = .ok (.iconst 4, 1) := by decide +kernel
theorem dX10_person_25 : decode cX10_person 25 = .ok (.invokevirtual 160, 3) := by decide +kernel
theorem dX10_person_28 : decode cX10_person 28 = .ok (.ireturn, 1) := by decide +kernel
theorem dX10_person_29 : decode cX10_person 29 = .ok (.aload_n 0, 1) := by decide +kernel
theorem dX10_person_30 : decode cX10_person 30 = .ok (.getfield 31, 3) := by decide +kernel
theorem dX10_person_33 : decode cX10_person 33 = .ok (.aload_n 0, 1) := by decide +kernel
theorem dX10_person_34 : decode cX10_person 34 = .ok (.getfield 154, 3) := by decide +kernel
theorem dX10_person_37 : decode cX10_person 37 = .ok (.iload_n 1, 1) := by decide +kernel
theorem dX10_person_38 : decode cX10_person 38 = .ok (.iastore, 1) := by decide +kernel
theorem dX10_person_39 : decode cX10_person 39 = .ok (.aload_n 0, 1) := by decide +kernel
theorem dX10_person_40 : decode cX10_person 40 = .ok (.getfield 37, 3) := by decide +kernel
theorem dX10_person_43 : decode cX10_person 43 = .ok (.aload_n 0, 1) := by decide +kernel
theorem dX10_person_44 : decode cX10_person 44 = .ok (.getfield 154, 3) := by decide +kernel
theorem dX10_person_47 : decode cX10_person 47 = .ok (.iconst (-1), 1) := by decide +kernel
theorem dX10_person_48 : decode cX10_person 48 = .ok (.iastore, 1) := by decide +kernel
theorem dX10_person_49 : decode cX10_person 49 = .ok (.aload_n 0, 1) := by decide +kernel
theorem dX10_person_50 : decode cX10_person 50 = .ok (.dup, 1) := by decide +kernel
theorem dX10_person_51 : decode cX10_person 51 = .ok (.getfield 154, 3) := by decide +kernel
theorem dX10_person_54 : decode cX10_person 54 = .ok (.iconst 1, 1) := by decide +kernel
theorem dX10_person_55 : decode cX10_person 55 = .ok (.iadd, 1) := by decide +kernel
theorem dX10_person_56 : decode cX10_person 56 = .ok (.putfield 154, 3) := by decide +kernel
theorem dX10_person_59 : decode cX10_person 59 = .ok (.aload_n 0, 1) := by decide +kernel
theorem dX10_person_60 : decode cX10_person 60 = .ok (.getfield 154, 3) := by decide +kernel
theorem dX10_person_63 : decode cX10_person 63 = .ok (.iconst 1, 1) := by decide +kernel
theorem dX10_person_64 : decode cX10_person 64 = .ok (.isub, 1) := by decide +kernel
theorem dX10_person_65 : decode cX10_person 65 = .ok (.ireturn, 1) := by decide +kernel
theorem dX10_canGo_0 : decode cX10_canGo 0 = .ok (.iconst 0, 1) := by decide +kernel
theorem dX10_canGo_1 : decode cX10_canGo 1 = .ok (.istore_n 3, 1) := by decide +kernel
theorem dX10_canGo_2 : decode cX10_canGo 2 = .ok (.iconst 0, 1) := by decide +kernel
theorem dX10_canGo_3 : decode cX10_canGo 3 = .ok (.istore 4, 2) := by decide +kernel
theorem dX10_canGo_5 : decode cX10_canGo 5 = .ok (.iload 4, 2) := by decide +kernel
theorem dX10_canGo_7 : decode cX10_canGo 7 = .ok (.aload_n 0, 1) := by decide +kernel
theorem dX10_canGo_8 : decode cX10_canGo 8 = .ok (.getfield 151, 3) := by decide +kernel
theorem dX10_canGo_11 : decode cX10_canGo 11 = .ok (.if_icmp .ge 82, 3) := by decide +kernel
theorem dX10_canGo_14 : decode cX10_canGo 14 = .ok (.iload_n 3, 1) := by decide +kernel
theorem dX10_canGo_15 : decode cX10_canGo 15 = .ok (.aload_n 0, 1) := by decide +kernel
theorem dX10_canGo_16 : decode cX10_canGo 16 = .ok (.getfield 25, 3) := by decide +kernel
theorem dX10_canGo_19 : decode cX10_canGo 19 = .ok (.iload 4, 2) := by decide +kernel
theorem dX10_canGo_21 : decode cX10_canGo 21 = .ok (.iaload, 1) := by decide +kernel
theorem dX10_canGo_22 : decode cX10_canGo 22 = .ok (.iconst 1, 1) := by decide +kernel
theorem dX10_canGo_23 : decode cX10_canGo 23 = .ok (.if_icmp .ne 61, 3) := by decide +kernel
theorem dX10_canGo_26 : decode cX10_canGo 26 = .ok (.aload_n 0, 1) := by decide +kernel
theorem dX10_canGo_27 : decode cX10_canGo 27 = .ok (.getfield 19, 3) := by decide +kernel
theorem dX10_canGo_30 : decode cX10_canGo 30 = .ok (.iload 4, 2) := by decide +kernel
theorem dX10_canGo_32 : decode cX10_canGo 32 = .ok (.iaload, 1) := by decide +kernel
theorem dX10_canGo_33 : decode cX10_canGo 33 = .ok (.aload_n 0, 1) := by decide +kernel
theorem dX10_canGo_34 : decode cX10_canGo 34 = .ok (.getfield 31, 3) := by decide +kernel
theorem dX10_canGo_37 : decode cX10_canGo 37 = .ok (.iload_n 1, 1) := by decide +kernel
theorem dX10_canGo_38 : decode cX10_canGo 38 = .ok (.iaload, 1) := by decide +kernel
theorem dX10_canGo_39 : decode cX10_canGo 39 = .ok (.if_icmp .ne 14, 3) := by decide +kernel
theorem dX10_canGo_42 : decode cX10_canGo 42 = .ok (.aload_n 0, 1) := by decide +kernel
theorem dX10_canGo_43 : decode cX10_canGo 43 = .ok (.getfield 22, 3) := by decide +kernel
theorem dX10_canGo_46 : decode cX10_canGo 46 = .ok (.iload 4, 2) := by decide +kernel
theorem dX10_canGo_48 : decode cX10_canGo 48 = .ok (.iaload, 1) := by decide +kernel
theorem dX10_canGo_49 : decode cX10_canGo 49 = .ok (.iload_n 2, 1) := by decide +kernel
theorem dX10_canGo_50 : decode cX10_canGo 50 = .ok (.if_icmp .eq 30, 3) := by decide +kernel
theorem dX10_canGo_53 : decode cX10_canGo 53 = .ok (.aload_n 0, 1) := by decide +kernel
theorem dX10_canGo_54 : decode cX10_canGo 54 = .ok (.getfield 22, 3) := by decide +kernel
theorem dX10_canGo_57 : decode cX10_canGo 57 = .ok (.iload 4, 2) := by decide +kernel
theorem dX10_canGo_59 : decode cX10_canGo 59 = .ok (.iaload, 1) := by decide +kernel
theorem dX10_canGo_60 : decode cX10_canGo 60 = .ok (.aload_n 0, 1) := by decide +kernel
theorem dX10_canGo_61 : decode cX10_canGo 61 = .ok (.getfield 31, 3) := by decide +kernel
theorem dX10_canGo_64 : decode cX10_canGo 64 = .ok (.iload_n 1, 1) := by decide +kernel
theorem dX10_canGo_65 : decode cX10_canGo 65 = .ok (.iaload, 1) := by decide +kernel
theorem dX10_canGo_66 : decode cX10_canGo 66 = .ok (.if_icmp .ne 18, 3) := by decide +kernel
theorem dX10_canGo_69 : decode cX10_canGo 69 = .ok (.aload_n 0, 1) := by decide +kernel
theorem dX10_canGo_70 : decode cX10_canGo 70 = .ok (.getfield 19, 3) := by decide +kernel
theorem dX10_canGo_73 : decode cX10_canGo 73 = .ok (.iload 4, 2) := by decide +kernel
theorem dX10_canGo_75 : decode cX10_canGo 75 = .ok (.iaload, 1) := by decide +kernel
theorem dX10_canGo_76 : decode cX10_canGo 76 = .ok (.iload_n 2, 1) := by decide +kernel
theorem dX10_canGo_77 : decode cX10_canGo 77 = .ok (.if_icmp .ne 7, 3) := by decide +kernel
theorem dX10_canGo_80 : decode cX10_canGo 80 = .ok (.iconst 1, 1) := by decide +kernel
theorem dX10_canGo_81 : decode cX10_canGo 81 = .ok (.goto 4, 3) := by decide +kernel
theorem dX10_canGo_84 : decode cX10_canGo 84 = .ok (.iconst 0, 1) := by decide +kernel
theorem dX10_canGo_85 : decode cX10_canGo 85 = .ok (.ior, 1) := by decide +kernel
theorem dX10_canGo_86 : decode cX10_canGo 86 = .ok (.istore_n 3, 1) := by decide +kernel
theorem dX10_canGo_87 : decode cX10_canGo 87 = .ok (.iinc 4 1, 3) := by decide +kernel
theorem dX10_canGo_90 : decode cX10_canGo 90 = .ok (.goto (-85), 3) := by decide +kernel
theorem dX10_canGo_93 : decode cX10_canGo 93 = .ok (.aload_n 0, 1) := by decide +kernel
theorem dX10_canGo_94 : decode cX10_canGo 94 = .ok (.getfield 37, 3) := by decide +kernel
theorem dX10_canGo_97 : decode cX10_canGo 97 = .ok (.iload_n 1, 1) := by decide +kernel
theorem dX10_canGo_98 : decode cX10_canGo 98 = .ok (.iaload, 1) := by decide +kernel
theorem dX10_canGo_99 : decode cX10_canGo 99 = .ok (.ifCond .ge 21, 3) := by decide +kernel
theorem dX10_canGo_102 : decode cX10_canGo 102 = .ok (.aload_n 0, 1) := by decide +kernel
theorem dX10_canGo_103 : decode cX10_canGo 103 = .ok (.getfield 31, 3) := by decide +kernel
theorem dX10_canGo_106 : decode cX10_canGo 106 = .ok (.iload_n 1, 1) := by decide +kernel
theorem dX10_canGo_107 : decode cX10_canGo 107 = .ok (.iaload, 1) := by decide +kernel
theorem dX10_canGo_108 : decode cX10_canGo 108 = .ok (.iload_n 2, 1) := by decide +kernel
theorem dX10_canGo_109 : decode cX10_canGo 109 = .ok (.if_icmp .eq 11, 3) := by decide +kernel
theorem dX10_canGo_112 : decode cX10_canGo 112 = .ok (.iload_n 3, 1) := by decide +kernel
theorem dX10_canGo_113 : decode cX10_canGo 113 = .ok (.ifCond .eq 7, 3) := by decide +kernel
theorem dX10_canGo_116 : decode cX10_canGo 116 = .ok (.iconst 1, 1) := by decide +kernel
theorem dX10_canGo_117 : decode cX10_canGo 117 = .ok (.goto 4, 3) := by decide +kernel
theorem dX10_canGo_120 : decode cX10_canGo 120 = .ok (.iconst 0, 1) := by decide +kernel
theorem dX10_canGo_121 : decode cX10_canGo 121 = .ok (.ireturn, 1) := by decide +kernel
theorem dX10_go_0 : decode cX10_go 0 = .ok (.aload_n 0, 1) := by decide +kernel
theorem dX10_go_1 : decode cX10_go 1 = .ok (.iload_n 1, 1) := by decide +kernel
theorem dX10_go_2 : decode cX10_go 2 = .ok (.invokevirtual 177, 3) := by decide +kernel
theorem dX10_go_5 : decode cX10_go 5 = .ok (.ifCond .eq 11, 3) := by decide +kernel
theorem dX10_go_8 : decode cX10_go 8 = .ok (.aload_n 0, 1) := by decide +kernel
theorem dX10_go_9 : decode cX10_go 9 = .ok (.iload_n 2, 1) := by decide +kernel
theorem dX10_go_10 : decode cX10_go 10 = .ok (.invokevirtual 164, 3) := by decide +kernel
theorem dX10_go_13 : decode cX10_go 13 = .ok (.ifCond .ne 9, 3) := by decide +kernel
theorem dX10_go_16 : decode cX10_go 16 = .ok (.aload_n 0, 1) := by decide +kernel
theorem dX10_go_17 : decode cX10_go 17 = .ok (.iconst 1, 1) := by decide +kernel
theorem dX10_go_18 : decode cX10_go 18 = .ok (.invokevirtual 160, 3) := by decide +kernel
theorem dX10_go_21 : decode cX10_go 21 = .ok (.ireturn, 1) := by decide +kernel
theorem dX10_go_22 : decode cX10_go 22 = .ok (.aload_n 0, 1) := by decide +kernel
theorem dX10_go_23 : decode cX10_go 23 = .ok (.iload_n 1, 1) := by decide +kernel
theorem dX10_go_24 : decode cX10_go 24 = .ok (.iload_n 2, 1) := by decide +kernel
theorem dX10_go_25 : decode cX10_go 25 = .ok (.invokevirtual 180, 3) := by decide +kernel
theorem dX10_go_28 : decode cX10_go 28 = .ok (.ifCond .ne 9, 3) := by decide +kernel
theorem dX10_go_31 : decode cX10_go 31 = .ok (.aload_n 0, 1) := by decide +kernel
theorem dX10_go_32 : decode cX10_go 32 = .ok (.iconst 3, 1) := by decide +kernel
theorem dX10_go_33 : decode cX10_go 33 = .ok (.invokevirtual 160, 3) := by decide +kernel
theorem dX10_go_36 : decode cX10_go 36 = .ok (.ireturn, 1) := by decide +kernel
theorem dX10_go_37 : decode cX10_go 37 = .ok (.aload_n 0, 1) := by decide +kernel
theorem dX10_go_38 : decode cX10_go 38 = .ok (.getfield 31, 3) := by decide +kernel
theorem dX10_go_41 : decode cX10_go 41 = .ok (.iload_n 1, 1) := by decide +kernel
theorem dX10_go_42 : decode cX10_go 42 = .ok (.iload_n 2, 1) := by decide +kernel
theorem dX10_go_43 : decode cX10_go 43 = .ok (.iastore, 1) := by decide +kernel
theorem dX10_go_44 : decode cX10_go 44 = .ok (.iconst 1, 1) := by decide +kernel
theorem dX10_go_45 : decode cX10_go 45 = .ok (.ireturn, 1) := by decide +kernel
theorem dX10_doing_0 : decode cX10_doing 0 = .ok (.aload_n 0, 1) := by decide +kernel
theorem dX10_doing_1 : decode cX10_doing 1 = .ok (.iload_n 1, 1) := by decide +kernel
theorem dX10_doing_2 : decode cX10_doing 2 = .ok (.invokevirtual 177, 3) := by decide +kernel
theorem dX10_doing_5 : decode cX10_doing 5 = .ok (.ifCond .eq 12, 3) := by decide +kernel
theorem dX10_doing_8 : decode cX10_doing 8 = .ok (.iload_n 2, 1) := by decide +kernel
theorem dX10_doing_9 : decode cX10_doing 9 = .ok (.iconst 0, 1) := by decide +kernel
theorem dX10_doing_10 : decode cX10_doing 10 = .ok (.iconst 2, 1) := by decide +kernel
theorem dX10_doing_11 : decode cX10_doing 11 = .ok (.invokestatic 171, 3) := by decide +kernel
theorem dX10_doing_14 : decode cX10_doing 14 = .ok (.ifCond .ne 9, 3) := by decide +kernel
theorem dX10_doing_17 : decode cX10_doing 17 = .ok (.aload_n 0, 1) := by decide +kernel
theorem dX10_doing_18 : decode cX10_doing 18 = .ok (.iconst 1, 1) := by decide +kernel
theorem dX10_doing_19 : decode cX10_doing 19 = .ok (.invokevirtual 160, 3) := by decide +kernel
theorem dX10_doing_22 : decode cX10_doing 22 = .ok (.ireturn, 1) := by decide +kernel
theorem dX10_doing_23 : decode cX10_doing 23 = .ok (.aload_n 0, 1) := by decide +kernel
theorem dX10_doing_24 : decode cX10_doing 24 = .ok (.getfield 37, 3) := by decide +kernel
theorem dX10_doing_27 : decode cX10_doing 27 = .ok (.iload_n 1, 1) := by decide +kernel
theorem dX10_doing_28 : decode cX10_doing 28 = .ok (.iaload, 1) := by decide +kernel
theorem dX10_doing_29 : decode cX10_doing 29 = .ok (.ifCond .lt 9, 3) := by decide +kernel
theorem dX10_doing_32 : decode cX10_doing 32 = .ok (.aload_n 0, 1) := by decide +kernel
theorem dX10_doing_33 : decode cX10_doing 33 = .ok (.iconst 3, 1) := by decide +kernel
theorem dX10_doing_34 : decode cX10_doing 34 = .ok (.invokevirtual 160, 3) := by decide +kernel
theorem dX10_doing_37 : decode cX10_doing 37 = .ok (.ireturn, 1) := by decide +kernel
theorem dX10_doing_38 : decode cX10_doing 38 = .ok (.aload_n 0, 1) := by decide +kernel
theorem dX10_doing_39 : decode cX10_doing 39 = .ok (.getfield 34, 3) := by decide +kernel
theorem dX10_doing_42 : decode cX10_doing 42 = .ok (.iload_n 1, 1) := by decide +kernel
theorem dX10_doing_43 : decode cX10_doing 43 = .ok (.iaload, 1) := by decide +kernel
theorem dX10_doing_44 : decode cX10_doing 44 = .ok (.istore_n 3, 1) := by decide +kernel
theorem dX10_doing_45 : decode cX10_doing 45 = .ok (.aload_n 0, 1) := by decide +kernel
theorem dX10_doing_46 : decode cX10_doing 46 = .ok (.getfield 34, 3) := by decide +kernel
theorem dX10_doing_49 : decode cX10_doing 49 = .ok (.iload_n 1, 1) := by decide +kernel
theorem dX10_doing_50 : decode cX10_doing 50 = .ok (.iload_n 2, 1) := by decide +kernel
theorem dX10_doing_51 : decode cX10_doing 51 = .ok (.iastore, 1) := by decide +kernel
theorem dX10_doing_52 : decode cX10_doing 52 = .ok (.iload_n 3, 1) := by decide +kernel
theorem dX10_doing_53 : decode cX10_doing 53 = .ok (.ireturn, 1) := by decide +kernel
theorem dX10_about_0 : decode cX10_about 0 = .ok (.aload_n 0, 1) := by decide +kernel
theorem dX10_about_1 : decode cX10_about 1 = .ok (.iload_n 1, 1) := by decide +kernel
theorem dX10_about_2 : decode cX10_about 2 = .ok (.invokevirtual 177, 3) := by decide +kernel
theorem dX10_about_5 : decode cX10_about 5 = .ok (.ifCond .eq 12, 3) := by decide +kernel
theorem dX10_about_8 : decode cX10_about 8 = .ok (.iload_n 2, 1) := by decide +kernel
theorem dX10_about_9 : decode cX10_about 9 = .ok (.iconst 0, 1) := by decide +kernel
theorem dX10_about_10 : decode cX10_about 10 = .ok (.iconst 5, 1) := by decide +kernel
theorem dX10_about_11 : decode cX10_about 11 = .ok (.invokestatic 171, 3) := by decide +kernel
theorem dX10_about_14 : decode cX10_about 14 = .ok (.ifCond .ne 9, 3) := by decide +kernel
theorem dX10_about_17 : decode cX10_about 17 = .ok (.aload_n 0, 1) := by decide +kernel
theorem dX10_about_18 : decode cX10_about 18 = .ok (.iconst 1, 1) := by decide +kernel
theorem dX10_about_19 : decode cX10_about 19 = .ok (.invokevirtual 160, 3) := by decide +kernel
theorem dX10_about_22 : decode cX10_about 22 = .ok (.ireturn, 1) := by decide +kernel
theorem dX10_about_23 : decode cX10_about 23 = .ok (.iload_n 2, 1) := by decide +kernel
theorem dX10_about_24 : decode cX10_about 24 = .ok (.tableswitch 71 0 4 #[36, 43, 50, 57, 64], 36) := by decide +kernel
theorem dX10_about_60 : decode cX10_about 60 = .ok (.aload_n 0, 1) := by decide +kernel
theorem dX10_about_61 : decode cX10_about 61 = .ok (.getfield 31, 3) := by decide +kernel
theorem dX10_about_64 : decode cX10_about 64 = .ok (.iload_n 1, 1) := by decide +kernel
theorem dX10_about_65 : decode cX10_about 65 = .ok (.iaload, 1) := by decide +kernel
theorem dX10_about_66 : decode cX10_about 66 = .ok (.ireturn, 1) := by decide +kernel
theorem dX10_about_67 : decode cX10_about 67 = .ok (.aload_n 0, 1) := by decide +kernel
theorem dX10_about_68 : decode cX10_about 68 = .ok (.getfield 34, 3) := by decide +kernel
theorem dX10_about_71 : decode cX10_about 71 = .ok (.iload_n 1, 1) := by decide +kernel
theorem dX10_about_72 : decode cX10_about 72 = .ok (.iaload, 1) := by decide +kernel
theorem dX10_about_73 : decode cX10_about 73 = .ok (.ireturn, 1) := by decide +kernel
theorem dX10_about_74 : decode cX10_about 74 = .ok (.aload_n 0, 1) := by decide +kernel
theorem dX10_about_75 : decode cX10_about 75 = .ok (.getfield 37, 3) := by decide +kernel
theorem dX10_about_78 : decode cX10_about 78 = .ok (.iload_n 1, 1) := by decide +kernel
theorem dX10_about_79 : decode cX10_about 79 = .ok (.iaload, 1) := by decide +kernel
theorem dX10_about_80 : decode cX10_about 80 = .ok (.ireturn, 1) := by decide +kernel
theorem dX10_about_81 : decode cX10_about 81 = .ok (.aload_n 0, 1) := by decide +kernel
theorem dX10_about_82 : decode cX10_about 82 = .ok (.getfield 40, 3) := by decide +kernel
theorem dX10_about_85 : decode cX10_about 85 = .ok (.iload_n 1, 1) := by decide +kernel
theorem dX10_about_86 : decode cX10_about 86 = .ok (.iaload, 1) := by decide +kernel
theorem dX10_about_87 : decode cX10_about 87 = .ok (.ireturn, 1) := by decide +kernel
theorem dX10_about_88 : decode cX10_about 88 = .ok (.aload_n 0, 1) := by decide +kernel
theorem dX10_about_89 : decode cX10_about 89 = .ok (.getfield 43, 3) := by decide +kernel
theorem dX10_about_92 : decode cX10_about 92 = .ok (.iload_n 1, 1) := by decide +kernel
theorem dX10_about_93 : decode cX10_about 93 = .ok (.iaload, 1) := by decide +kernel
theorem dX10_about_94 : decode cX10_about 94 = .ok (.ireturn, 1) := by decide +kernel
theorem dX10_about_95 : decode cX10_about 95 = .ok (.aload_n 0, 1) := by decide +kernel
theorem dX10_about_96 : decode cX10_about 96 = .ok (.getfield 46, 3) := by decide +kernel
theorem dX10_about_99 : decode cX10_about 99 = .ok (.iload_n 1, 1) := by decide +kernel
theorem dX10_about_100 : decode cX10_about 100 = .ok (.iaload, 1) := by decide +kernel
theorem dX10_about_101 : decode cX10_about 101 = .ok (.ireturn, 1) := by decide +kernel
theorem dX10_machine_0 : decode cX10_machine 0 = .ok (.iload_n 1, 1) := by decide +kernel
theorem dX10_machine_1 : decode cX10_machine 1 = .ok (.iconst 0, 1) := by decide +kernel
theorem dX10_machine_2 : decode cX10_machine 2 = .ok (.iconst 5, 1) := by decide +kernel
theorem dX10_machine_3 : decode cX10_machine 3 = .ok (.invokestatic 171, 3) := by decide +kernel
theorem dX10_machine_6 : decode cX10_machine 6 = .ok (.ifCond .eq 76, 3) := by decide +kernel
theorem dX10_machine_9 : decode cX10_machine 9 = .ok (.aload_n 0, 1) := by decide +kernel
theorem dX10_machine_10 : decode cX10_machine 10 = .ok (.iload_n 2, 1) := by decide +kernel
theorem dX10_machine_11 : decode cX10_machine 11 = .ok (.invokevirtual 164, 3) := by decide +kernel
theorem dX10_machine_14 : decode cX10_machine 14 = .ok (.ifCond .eq 68, 3) := by decide +kernel
theorem dX10_machine_17 : decode cX10_machine 17 = .ok (.iload_n 3, 1) := by decide +kernel
theorem dX10_machine_18 : decode cX10_machine 18 = .ok (.ifCond .lt 64, 3) := by decide +kernel
theorem dX10_machine_21 : decode cX10_machine 21 = .ok (.iload_n 3, 1) := by decide +kernel
theorem dX10_machine_22 : decode cX10_machine 22 = .ok (.ldc 176, 2) := by decide +kernel
theorem dX10_machine_24 : decode cX10_machine 24 = .ok (.idiv, 1) := by decide +kernel
theorem dX10_machine_25 : decode cX10_machine 25 = .ok (.iconst 0, 1) := by decide +kernel
theorem dX10_machine_26 : decode cX10_machine 26 = .ok (.bipush 100, 2) := by decide +kernel
theorem dX10_machine_28 : decode cX10_machine 28 = .ok (.invokestatic 171, 3) := by decide +kernel
theorem dX10_machine_31 : decode cX10_machine 31 = .ok (.ifCond .eq 51, 3) := by decide +kernel
theorem dX10_machine_34 : decode cX10_machine 34 = .ok (.iload_n 3, 1) := by decide +kernel
theorem dX10_machine_35 : decode cX10_machine 35 = .ok (.sipush 1000, 3) := by decide +kernel
theorem dX10_machine_38 : decode cX10_machine 38 = .ok (.idiv, 1) := by decide +kernel
theorem dX10_machine_39 : decode cX10_machine 39 = .ok (.sipush 1000, 3) := by decide +kernel
theorem dX10_machine_42 : decode cX10_machine 42 = .ok (.irem, 1) := by decide +kernel
theorem dX10_machine_43 : decode cX10_machine 43 = .ok (.iconst 0, 1) := by decide +kernel
theorem dX10_machine_44 : decode cX10_machine 44 = .ok (.bipush 100, 2) := by decide +kernel
theorem dX10_machine_46 : decode cX10_machine 46 = .ok (.invokestatic 171, 3) := by decide +kernel
theorem dX10_machine_49 : decode cX10_machine 49 = .ok (.ifCond .eq 33, 3) := by decide +kernel
theorem dX10_machine_52 : decode cX10_machine 52 = .ok (.iload_n 3, 1) := by decide +kernel
theorem dX10_machine_53 : decode cX10_machine 53 = .ok (.sipush 1000, 3) := by decide +kernel
theorem dX10_machine_56 : decode cX10_machine 56 = .ok (.irem, 1) := by decide +kernel
theorem dX10_machine_57 : decode cX10_machine 57 = .ok (.iconst 0, 1) := by decide +kernel
theorem dX10_machine_58 : decode cX10_machine 58 = .ok (.bipush 100, 2) := by decide +kernel
theorem dX10_machine_60 : decode cX10_machine 60 = .ok (.invokestatic 171, 3) := by decide +kernel
theorem dX10_machine_63 : decode cX10_machine 63 = .ok (.ifCond .eq 19, 3) := by decide +kernel
theorem dX10_machine_66 : decode cX10_machine 66 = .ok (.iload 4, 2) := by decide +kernel
theorem dX10_machine_68 : decode cX10_machine 68 = .ok (.iconst 1, 1) := by decide +kernel
theorem dX10_machine_69 : decode cX10_machine 69 = .ok (.sipush 1000, 3) := by decide +kernel
theorem dX10_machine_72 : decode cX10_machine 72 = .ok (.invokestatic 171, 3) := by decide +kernel
theorem dX10_machine_75 : decode cX10_machine 75 = .ok (.ifCond .eq 7, 3) := by decide +kernel
theorem dX10_machine_78 : decode cX10_machine 78 = .ok (.iconst 1, 1) := by decide +kernel
theorem dX10_machine_79 : decode cX10_machine 79 = .ok (.goto 4, 3) := by decide +kernel
theorem dX10_machine_82 : decode cX10_machine 82 = .ok (.iconst 0, 1) := by decide +kernel
theorem dX10_machine_83 : decode cX10_machine 83 = .ok (.istore 5, 2) := by decide +kernel
theorem dX10_machine_85 : decode cX10_machine 85 = .ok (.iload 5, 2) := by decide +kernel
theorem dX10_machine_87 : decode cX10_machine 87 = .ok (.ifCond .ne 9, 3) := by decide +kernel
theorem dX10_machine_90 : decode cX10_machine 90 = .ok (.aload_n 0, 1) := by decide +kernel
theorem dX10_machine_91 : decode cX10_machine 91 = .ok (.iconst 1, 1) := by decide +kernel
theorem dX10_machine_92 : decode cX10_machine 92 = .ok (.invokevirtual 160, 3) := by decide +kernel
theorem dX10_machine_95 : decode cX10_machine 95 = .ok (.ireturn, 1) := by decide +kernel
theorem dX10_machine_96 : decode cX10_machine 96 = .ok (.aload_n 0, 1) := by decide +kernel
theorem dX10_machine_97 : decode cX10_machine 97 = .ok (.getfield 157, 3) := by decide +kernel
theorem dX10_machine_100 : decode cX10_machine 100 = .ok (.bipush 10, 2) := by decide +kernel
theorem dX10_machine_102 : decode cX10_machine 102 = .ok (.if_icmp .ne 9, 3) := by decide +kernel
theorem dX10_machine_105 : decode cX10_machine 105 = .ok (.aload_n 0, 1) := by decide +kernel
theorem dX10_machine_106 : decode cX10_machine 106 = .ok (.iconst 4, 1) := by decide +kernel
theorem dX10_machine_107 : decode cX10_machine 107 = .ok (.invokevirtual 160, 3) := by decide +kernel
theorem dX10_machine_110 : decode cX10_machine 110 = .ok (.ireturn, 1) := by decide +kernel
theorem dX10_machine_111 : decode cX10_machine 111 = .ok (.aload_n 0, 1) := by decide +kernel
theorem dX10_machine_112 : decode cX10_machine 112 = .ok (.getfield 49, 3) := by decide +kernel
theorem dX10_machine_115 : decode cX10_machine 115 = .ok (.aload_n 0, 1) := by decide +kernel
theorem dX10_machine_116 : decode cX10_machine 116 = .ok (.getfield 157, 3) := by decide +kernel
theorem dX10_machine_119 : decode cX10_machine 119 = .ok (.iload_n 1, 1) := by decide +kernel
theorem dX10_machine_120 : decode cX10_machine 120 = .ok (.iastore, 1) := by decide +kernel
theorem dX10_machine_121 : decode cX10_machine 121 = .ok (.aload_n 0, 1) := by decide +kernel
theorem dX10_machine_122 : decode cX10_machine 122 = .ok (.getfield 52, 3) := by decide +kernel
theorem dX10_machine_125 : decode cX10_machine 125 = .ok (.aload_n 0, 1) := by decide +kernel
theorem dX10_machine_126 : decode cX10_machine 126 = .ok (.getfield 157, 3) := by decide +kernel
theorem dX10_machine_129 : decode cX10_machine 129 = .ok (.iload_n 2, 1) := by decide +kernel
theorem dX10_machine_130 : decode cX10_machine 130 = .ok (.iastore, 1) := by decide +kernel
theorem dX10_machine_131 : decode cX10_machine 131 = .ok (.aload_n 0, 1) := by decide +kernel
theorem dX10_machine_132 : decode cX10_machine 132 = .ok (.getfield 55, 3) := by decide +kernel
theorem dX10_machine_135 : decode cX10_machine 135 = .ok (.aload_n 0, 1) := by decide +kernel
theorem dX10_machine_136 : decode cX10_machine 136 = .ok (.getfield 157, 3) := by decide +kernel
theorem dX10_machine_139 : decode cX10_machine 139 = .ok (.iload_n 3, 1) := by decide +kernel
theorem dX10_machine_140 : decode cX10_machine 140 = .ok (.ldc 176, 2) := by decide +kernel
theorem dX10_machine_142 : decode cX10_machine 142 = .ok (.idiv, 1) := by decide +kernel
theorem dX10_machine_143 : decode cX10_machine 143 = .ok (.iastore, 1) := by decide +kernel
theorem dX10_machine_144 : decode cX10_machine 144 = .ok (.aload_n 0, 1) := by decide +kernel
theorem dX10_machine_145 : decode cX10_machine 145 = .ok (.getfield 58, 3) := by decide +kernel
theorem dX10_machine_148 : decode cX10_machine 148 = .ok (.aload_n 0, 1) := by decide +kernel
theorem dX10_machine_149 : decode cX10_machine 149 = .ok (.getfield 157, 3) := by decide +kernel
theorem dX10_machine_152 : decode cX10_machine 152 = .ok (.iload_n 3, 1) := by decide +kernel
theorem dX10_machine_153 : decode cX10_machine 153 = .ok (.sipush 1000, 3) := by decide +kernel
theorem dX10_machine_156 : decode cX10_machine 156 = .ok (.idiv, 1) := by decide +kernel
theorem dX10_machine_157 : decode cX10_machine 157 = .ok (.sipush 1000, 3) := by decide +kernel
theorem dX10_machine_160 : decode cX10_machine 160 = .ok (.irem, 1) := by decide +kernel
theorem dX10_machine_161 : decode cX10_machine 161 = .ok (.iastore, 1) := by decide +kernel
theorem dX10_machine_162 : decode cX10_machine 162 = .ok (.aload_n 0, 1) := by decide +kernel
theorem dX10_machine_163 : decode cX10_machine 163 = .ok (.getfield 61, 3) := by decide +kernel
theorem dX10_machine_166 : decode cX10_machine 166 = .ok (.aload_n 0, 1) := by decide +kernel
theorem dX10_machine_167 : decode cX10_machine 167 = .ok (.getfield 157, 3) := by decide +kernel
theorem dX10_machine_170 : decode cX10_machine 170 = .ok (.iload_n 3, 1) := by decide +kernel
theorem dX10_machine_171 : decode cX10_machine 171 = .ok (.sipush 1000, 3) := by decide +kernel
theorem dX10_machine_174 : decode cX10_machine 174 = .ok (.irem, 1) := by decide +kernel
theorem dX10_machine_175 : decode cX10_machine 175 = .ok (.iastore, 1) := by decide +kernel
theorem dX10_machine_176 : decode cX10_machine 176 = .ok (.aload_n 0, 1) := by decide +kernel
theorem dX10_machine_177 : decode cX10_machine 177 = .ok (.getfield 64, 3) := by decide +kernel
theorem dX10_machine_180 : decode cX10_machine 180 = .ok (.aload_n 0, 1) := by decide +kernel
theorem dX10_machine_181 : decode cX10_machine 181 = .ok (.getfield 157, 3) := by decide +kernel
theorem dX10_machine_184 : decode cX10_machine 184 = .ok (.iload 4, 2) := by decide +kernel
theorem dX10_machine_186 : decode cX10_machine 186 = .ok (.iastore, 1) := by decide +kernel
theorem dX10_machine_187 : decode cX10_machine 187 = .ok (.aload_n 0, 1) := by decide +kernel
theorem dX10_machine_188 : decode cX10_machine 188 = .ok (.getfield 70, 3) := by decide +kernel
theorem dX10_machine_191 : decode cX10_machine 191 = .ok (.aload_n 0, 1) := by decide +kernel
theorem dX10_machine_192 : decode cX10_machine 192 = .ok (.getfield 157, 3) := by decide +kernel
theorem dX10_machine_195 : decode cX10_machine 195 = .ok (.iconst 1, 1) := by decide +kernel
theorem dX10_machine_196 : decode cX10_machine 196 = .ok (.iastore, 1) := by decide +kernel
theorem dX10_machine_197 : decode cX10_machine 197 = .ok (.aload_n 0, 1) := by decide +kernel
theorem dX10_machine_198 : decode cX10_machine 198 = .ok (.dup, 1) := by decide +kernel
theorem dX10_machine_199 : decode cX10_machine 199 = .ok (.getfield 157, 3) := by decide +kernel
theorem dX10_machine_202 : decode cX10_machine 202 = .ok (.iconst 1, 1) := by decide +kernel
theorem dX10_machine_203 : decode cX10_machine 203 = .ok (.iadd, 1) := by decide +kernel
theorem dX10_machine_204 : decode cX10_machine 204 = .ok (.putfield 157, 3) := by decide +kernel
theorem dX10_machine_207 : decode cX10_machine 207 = .ok (.aload_n 0, 1) := by decide +kernel
theorem dX10_machine_208 : decode cX10_machine 208 = .ok (.getfield 157, 3) := by decide +kernel
theorem dX10_machine_211 : decode cX10_machine 211 = .ok (.iconst 1, 1) := by decide +kernel
theorem dX10_machine_212 : decode cX10_machine 212 = .ok (.isub, 1) := by decide +kernel
theorem dX10_machine_213 : decode cX10_machine 213 = .ok (.ireturn, 1) := by decide +kernel
theorem dX10_as_0 : decode cX10_as 0 = .ok (.aload_n 0, 1) := by decide +kernel
theorem dX10_as_1 : decode cX10_as 1 = .ok (.iload_n 1, 1) := by decide +kernel
theorem dX10_as_2 : decode cX10_as 2 = .ok (.invokevirtual 184, 3) := by decide +kernel
theorem dX10_as_5 : decode cX10_as 5 = .ok (.ifCond .eq 12, 3) := by decide +kernel
theorem dX10_as_8 : decode cX10_as 8 = .ok (.iload_n 2, 1) := by decide +kernel
theorem dX10_as_9 : decode cX10_as 9 = .ok (.iconst 0, 1) := by decide +kernel
theorem dX10_as_10 : decode cX10_as 10 = .ok (.iconst 5, 1) := by decide +kernel
theorem dX10_as_11 : decode cX10_as 11 = .ok (.invokestatic 171, 3) := by decide +kernel
theorem dX10_as_14 : decode cX10_as 14 = .ok (.ifCond .ne 9, 3) := by decide +kernel
theorem dX10_as_17 : decode cX10_as 17 = .ok (.aload_n 0, 1) := by decide +kernel
theorem dX10_as_18 : decode cX10_as 18 = .ok (.iconst 1, 1) := by decide +kernel
theorem dX10_as_19 : decode cX10_as 19 = .ok (.invokevirtual 160, 3) := by decide +kernel
theorem dX10_as_22 : decode cX10_as 22 = .ok (.ireturn, 1) := by decide +kernel
theorem dX10_as_23 : decode cX10_as 23 = .ok (.iload_n 2, 1) := by decide +kernel
theorem dX10_as_24 : decode cX10_as 24 = .ok (.ifCond .eq 28, 3) := by decide +kernel
theorem dX10_as_27 : decode cX10_as 27 = .ok (.aload_n 0, 1) := by decide +kernel
theorem dX10_as_28 : decode cX10_as 28 = .ok (.getfield 49, 3) := by decide +kernel
theorem dX10_as_31 : decode cX10_as 31 = .ok (.iload_n 1, 1) := by decide +kernel
theorem dX10_as_32 : decode cX10_as 32 = .ok (.iaload, 1) := by decide +kernel
theorem dX10_as_33 : decode cX10_as 33 = .ok (.iload_n 2, 1) := by decide +kernel
theorem dX10_as_34 : decode cX10_as 34 = .ok (.if_icmp .eq 18, 3) := by decide +kernel
theorem dX10_as_37 : decode cX10_as 37 = .ok (.iload_n 2, 1) := by decide +kernel
theorem dX10_as_38 : decode cX10_as 38 = .ok (.iconst 3, 1) := by decide +kernel
theorem dX10_as_39 : decode cX10_as 39 = .ok (.if_icmp .ne 22, 3) := by decide +kernel
theorem dX10_as_42 : decode cX10_as 42 = .ok (.aload_n 0, 1) := by decide +kernel
theorem dX10_as_43 : decode cX10_as 43 = .ok (.getfield 49, 3) := by decide +kernel
theorem dX10_as_46 : decode cX10_as 46 = .ok (.iload_n 1, 1) := by decide +kernel
theorem dX10_as_47 : decode cX10_as 47 = .ok (.iaload, 1) := by decide +kernel
theorem dX10_as_48 : decode cX10_as 48 = .ok (.iconst 4, 1) := by decide +kernel
theorem dX10_as_49 : decode cX10_as 49 = .ok (.if_icmp .ne 12, 3) := by decide +kernel
theorem dX10_as_52 : decode cX10_as 52 = .ok (.aload_n 0, 1) := by decide +kernel
theorem dX10_as_53 : decode cX10_as 53 = .ok (.getfield 55, 3) := by decide +kernel
theorem dX10_as_56 : decode cX10_as 56 = .ok (.iload_n 1, 1) := by decide +kernel
theorem dX10_as_57 : decode cX10_as 57 = .ok (.iaload, 1) := by decide +kernel
theorem dX10_as_58 : decode cX10_as 58 = .ok (.goto 8, 3) := by decide +kernel
theorem dX10_as_61 : decode cX10_as 61 = .ok (.aload_n 0, 1) := by decide +kernel
theorem dX10_as_62 : decode cX10_as 62 = .ok (.iconst 5, 1) := by decide +kernel
theorem dX10_as_63 : decode cX10_as 63 = .ok (.invokevirtual 160, 3) := by decide +kernel
theorem dX10_as_66 : decode cX10_as 66 = .ok (.ireturn, 1) := by decide +kernel
theorem dX10_turn_0 : decode cX10_turn 0 = .ok (.aload_n 0, 1) := by decide +kernel
theorem dX10_turn_1 : decode cX10_turn 1 = .ok (.iload_n 1, 1) := by decide +kernel
theorem dX10_turn_2 : decode cX10_turn 2 = .ok (.invokevirtual 184, 3) := by decide +kernel
theorem dX10_turn_5 : decode cX10_turn 5 = .ok (.ifCond .eq 12, 3) := by decide +kernel
theorem dX10_turn_8 : decode cX10_turn 8 = .ok (.iload_n 2, 1) := by decide +kernel
theorem dX10_turn_9 : decode cX10_turn 9 = .ok (.iconst 0, 1) := by decide +kernel
theorem dX10_turn_10 : decode cX10_turn 10 = .ok (.iconst 1, 1) := by decide +kernel
theorem dX10_turn_11 : decode cX10_turn 11 = .ok (.invokestatic 171, 3) := by decide +kernel
theorem dX10_turn_14 : decode cX10_turn 14 = .ok (.ifCond .ne 9, 3) := by decide +kernel
theorem dX10_turn_17 : decode cX10_turn 17 = .ok (.aload_n 0, 1) := by decide +kernel
theorem dX10_turn_18 : decode cX10_turn 18 = .ok (.iconst 1, 1) := by decide +kernel
theorem dX10_turn_19 : decode cX10_turn 19 = .ok (.invokevirtual 160, 3) := by decide +kernel
theorem dX10_turn_22 : decode cX10_turn 22 = .ok (.ireturn, 1) := by decide +kernel
theorem dX10_turn_23 : decode cX10_turn 23 = .ok (.aload_n 0, 1) := by decide +kernel
theorem dX10_turn_24 : decode cX10_turn 24 = .ok (.getfield 70, 3) := by decide +kernel
theorem dX10_turn_27 : decode cX10_turn 27 = .ok (.iload_n 1, 1) := by decide +kernel
theorem dX10_turn_28 : decode cX10_turn 28 = .ok (.iaload, 1) := by decide +kernel
theorem dX10_turn_29 : decode cX10_turn 29 = .ok (.istore_n 3, 1) := by decide +kernel
theorem dX10_turn_30 : decode cX10_turn 30 = .ok (.aload_n 0, 1) := by decide +kernel
theorem dX10_turn_31 : decode cX10_turn 31 = .ok (.getfield 70, 3) := by decide +kernel
theorem dX10_turn_34 : decode cX10_turn 34 = .ok (.iload_n 1, 1) := by decide +kernel
theorem dX10_turn_35 : decode cX10_turn 35 = .ok (.iload_n 2, 1) := by decide +kernel
theorem dX10_turn_36 : decode cX10_turn 36 = .ok (.iastore, 1) := by decide +kernel
theorem dX10_turn_37 : decode cX10_turn 37 = .ok (.iload_n 3, 1) := by decide +kernel
theorem dX10_turn_38 : decode cX10_turn 38 = .ok (.ireturn, 1) := by decide +kernel
theorem dX10_of_0 : decode cX10_of 0 = .ok (.aload_n 0, 1) := by decide +kernel
theorem dX10_of_1 : decode cX10_of 1 = .ok (.iload_n 1, 1) := by decide +kernel
theorem dX10_of_2 : decode cX10_of 2 = .ok (.invokevirtual 184, 3) := by decide +kernel
theorem dX10_of_5 : decode cX10_of 5 = .ok (.ifCond .eq 13, 3) := by decide +kernel
theorem dX10_of_8 : decode cX10_of 8 = .ok (.iload_n 2, 1) := by decide +kernel
theorem dX10_of_9 : decode cX10_of 9 = .ok (.iconst 0, 1) := by decide +kernel
theorem dX10_of_10 : decode cX10_of 10 = .ok (.bipush 8, 2) := by decide +kernel
theorem dX10_of_12 : decode cX10_of 12 = .ok (.invokestatic 171, 3) := by decide +kernel
theorem dX10_of_15 : decode cX10_of 15 = .ok (.ifCond .ne 9, 3) := by decide +kernel
theorem dX10_of_18 : decode cX10_of 18 = .ok (.aload_n 0, 1) := by decide +kernel
theorem dX10_of_19 : decode cX10_of 19 = .ok (.iconst 1, 1) := by decide +kernel
theorem dX10_of_20 : decode cX10_of 20 = .ok (.invokevirtual 160, 3) := by decide +kernel
theorem dX10_of_23 : decode cX10_of 23 = .ok (.ireturn, 1) := by decide +kernel
theorem dX10_of_24 : decode cX10_of 24 = .ok (.iload_n 2, 1) := by decide +kernel
theorem dX10_of_25 : decode cX10_of 25 = .ok (.tableswitch 103 0 7 #[47, 54, 61, 68, 75, 82, 89, 96], 47) := by decide +kernel
theorem dX10_of_72 : decode cX10_of 72 = .ok (.aload_n 0, 1) := by decide +kernel
theorem dX10_of_73 : decode cX10_of 73 = .ok (.getfield 49, 3) := by decide +kernel
theorem dX10_of_76 : decode cX10_of 76 = .ok (.iload_n 1, 1) := by decide +kernel
theorem dX10_of_77 : decode cX10_of 77 = .ok (.iaload, 1) := by decide +kernel
theorem dX10_of_78 : decode cX10_of 78 = .ok (.ireturn, 1) := by decide +kernel
theorem dX10_of_79 : decode cX10_of 79 = .ok (.aload_n 0, 1) := by decide +kernel
theorem dX10_of_80 : decode cX10_of 80 = .ok (.getfield 52, 3) := by decide +kernel
theorem dX10_of_83 : decode cX10_of 83 = .ok (.iload_n 1, 1) := by decide +kernel
theorem dX10_of_84 : decode cX10_of 84 = .ok (.iaload, 1) := by decide +kernel
theorem dX10_of_85 : decode cX10_of 85 = .ok (.ireturn, 1) := by decide +kernel
theorem dX10_of_86 : decode cX10_of 86 = .ok (.aload_n 0, 1) := by decide +kernel
theorem dX10_of_87 : decode cX10_of 87 = .ok (.getfield 58, 3) := by decide +kernel
theorem dX10_of_90 : decode cX10_of 90 = .ok (.iload_n 1, 1) := by decide +kernel
theorem dX10_of_91 : decode cX10_of 91 = .ok (.iaload, 1) := by decide +kernel
theorem dX10_of_92 : decode cX10_of 92 = .ok (.ireturn, 1) := by decide +kernel
theorem dX10_of_93 : decode cX10_of 93 = .ok (.aload_n 0, 1) := by decide +kernel
theorem dX10_of_94 : decode cX10_of 94 = .ok (.getfield 61, 3) := by decide +kernel
theorem dX10_of_97 : decode cX10_of 97 = .ok (.iload_n 1, 1) := by decide +kernel
theorem dX10_of_98 : decode cX10_of 98 = .ok (.iaload, 1) := by decide +kernel
theorem dX10_of_99 : decode cX10_of 99 = .ok (.ireturn, 1) := by decide +kernel
theorem dX10_of_100 : decode cX10_of 100 = .ok (.aload_n 0, 1) := by decide +kernel
theorem dX10_of_101 : decode cX10_of 101 = .ok (.getfield 67, 3) := by decide +kernel
theorem dX10_of_104 : decode cX10_of 104 = .ok (.iload_n 1, 1) := by decide +kernel
theorem dX10_of_105 : decode cX10_of 105 = .ok (.iaload, 1) := by decide +kernel
theorem dX10_of_106 : decode cX10_of 106 = .ok (.ireturn, 1) := by decide +kernel
theorem dX10_of_107 : decode cX10_of 107 = .ok (.aload_n 0, 1) := by decide +kernel
theorem dX10_of_108 : decode cX10_of 108 = .ok (.getfield 70, 3) := by decide +kernel
theorem dX10_of_111 : decode cX10_of 111 = .ok (.iload_n 1, 1) := by decide +kernel
theorem dX10_of_112 : decode cX10_of 112 = .ok (.iaload, 1) := by decide +kernel
theorem dX10_of_113 : decode cX10_of 113 = .ok (.ireturn, 1) := by decide +kernel
theorem dX10_of_114 : decode cX10_of 114 = .ok (.aload_n 0, 1) := by decide +kernel
theorem dX10_of_115 : decode cX10_of 115 = .ok (.getfield 73, 3) := by decide +kernel
theorem dX10_of_118 : decode cX10_of 118 = .ok (.iload_n 1, 1) := by decide +kernel
theorem dX10_of_119 : decode cX10_of 119 = .ok (.iaload, 1) := by decide +kernel
theorem dX10_of_120 : decode cX10_of 120 = .ok (.ireturn, 1) := by decide +kernel
theorem dX10_of_121 : decode cX10_of 121 = .ok (.aload_n 0, 1) := by decide +kernel
theorem dX10_of_122 : decode cX10_of 122 = .ok (.getfield 76, 3) := by decide +kernel
theorem dX10_of_125 : decode cX10_of 125 = .ok (.iload_n 1, 1) := by decide +kernel
theorem dX10_of_126 : decode cX10_of 126 = .ok (.iaload, 1) := by decide +kernel
theorem dX10_of_127 : decode cX10_of 127 = .ok (.ireturn, 1) := by decide +kernel
theorem dX10_of_128 : decode cX10_of 128 = .ok (.aload_n 0, 1) := by decide +kernel
theorem dX10_of_129 : decode cX10_of 129 = .ok (.getfield 64, 3) := by decide +kernel
theorem dX10_of_132 : decode cX10_of 132 = .ok (.iload_n 1, 1) := by decide +kernel
theorem dX10_of_133 : decode cX10_of 133 = .ok (.iaload, 1) := by decide +kernel
theorem dX10_of_134 : decode cX10_of 134 = .ok (.ireturn, 1) := by decide +kernel
theorem dX10_spares_0 : decode cX10_spares 0 = .ok (.iload_n 1, 1) := by decide +kernel
theorem dX10_spares_1 : decode cX10_spares 1 = .ok (.iconst 0, 1) := by decide +kernel
theorem dX10_spares_2 : decode cX10_spares 2 = .ok (.iconst 5, 1) := by decide +kernel
theorem dX10_spares_3 : decode cX10_spares 3 = .ok (.invokestatic 171, 3) := by decide +kernel
theorem dX10_spares_6 : decode cX10_spares 6 = .ok (.ifCond .eq 13, 3) := by decide +kernel
theorem dX10_spares_9 : decode cX10_spares 9 = .ok (.iload_n 2, 1) := by decide +kernel
theorem dX10_spares_10 : decode cX10_spares 10 = .ok (.iconst (-1), 1) := by decide +kernel
theorem dX10_spares_11 : decode cX10_spares 11 = .ok (.bipush 20, 2) := by decide +kernel
theorem dX10_spares_13 : decode cX10_spares 13 = .ok (.invokestatic 171, 3) := by decide +kernel
theorem dX10_spares_16 : decode cX10_spares 16 = .ok (.ifCond .ne 9, 3) := by decide +kernel
theorem dX10_spares_19 : decode cX10_spares 19 = .ok (.aload_n 0, 1) := by decide +kernel
theorem dX10_spares_20 : decode cX10_spares 20 = .ok (.iconst 1, 1) := by decide +kernel
theorem dX10_spares_21 : decode cX10_spares 21 = .ok (.invokevirtual 160, 3) := by decide +kernel
theorem dX10_spares_24 : decode cX10_spares 24 = .ok (.ireturn, 1) := by decide +kernel
theorem dX10_spares_25 : decode cX10_spares 25 = .ok (.aload_n 0, 1) := by decide +kernel
theorem dX10_spares_26 : decode cX10_spares 26 = .ok (.getfield 79, 3) := by decide +kernel
theorem dX10_spares_29 : decode cX10_spares 29 = .ok (.iload_n 1, 1) := by decide +kernel
theorem dX10_spares_30 : decode cX10_spares 30 = .ok (.iaload, 1) := by decide +kernel
theorem dX10_spares_31 : decode cX10_spares 31 = .ok (.istore_n 3, 1) := by decide +kernel
theorem dX10_spares_32 : decode cX10_spares 32 = .ok (.aload_n 0, 1) := by decide +kernel
theorem dX10_spares_33 : decode cX10_spares 33 = .ok (.getfield 79, 3) := by decide +kernel
theorem dX10_spares_36 : decode cX10_spares 36 = .ok (.iload_n 1, 1) := by decide +kernel
theorem dX10_spares_37 : decode cX10_spares 37 = .ok (.iload_n 2, 1) := by decide +kernel
theorem dX10_spares_38 : decode cX10_spares 38 = .ok (.ifCond .ge 7, 3) := by decide +kernel
theorem dX10_spares_41 : decode cX10_spares 41 = .ok (.iload_n 3, 1) := by decide +kernel
theorem dX10_spares_42 : decode cX10_spares 42 = .ok (.goto 4, 3) := by decide +kernel
theorem dX10_spares_45 : decode cX10_spares 45 = .ok (.iload_n 2, 1) := by decide +kernel
theorem dX10_spares_46 : decode cX10_spares 46 = .ok (.iastore, 1) := by decide +kernel
theorem dX10_spares_47 : decode cX10_spares 47 = .ok (.iload_n 3, 1) := by decide +kernel
theorem dX10_spares_48 : decode cX10_spares 48 = .ok (.ireturn, 1) := by decide +kernel
theorem dX10_isMended_0 : decode cX10_isMended 0 = .ok (.iconst 0, 1) := by decide +kernel
theorem dX10_isMended_1 : decode cX10_isMended 1 = .ok (.istore_n 2, 1) := by decide +kernel
theorem dX10_isMended_2 : decode cX10_isMended 2 = .ok (.iconst 0, 1) := by decide +kernel
theorem dX10_isMended_3 : decode cX10_isMended 3 = .ok (.istore_n 3, 1) := by decide +kernel
theorem dX10_isMended_4 : decode cX10_isMended 4 = .ok (.iload_n 3, 1) := by decide +kernel
theorem dX10_isMended_5 : decode cX10_isMended 5 = .ok (.aload_n 0, 1) := by decide +kernel
theorem dX10_isMended_6 : decode cX10_isMended 6 = .ok (.getfield 154, 3) := by decide +kernel
theorem dX10_isMended_9 : decode cX10_isMended 9 = .ok (.if_icmp .ge 27, 3) := by decide +kernel
theorem dX10_isMended_12 : decode cX10_isMended 12 = .ok (.iload_n 2, 1) := by decide +kernel
theorem dX10_isMended_13 : decode cX10_isMended 13 = .ok (.aload_n 0, 1) := by decide +kernel
theorem dX10_isMended_14 : decode cX10_isMended 14 = .ok (.getfield 37, 3) := by decide +kernel
theorem dX10_isMended_17 : decode cX10_isMended 17 = .ok (.iload_n 3, 1) := by decide +kernel
theorem dX10_isMended_18 : decode cX10_isMended 18 = .ok (.iaload, 1) := by decide +kernel
theorem dX10_isMended_19 : decode cX10_isMended 19 = .ok (.iload_n 1, 1) := by decide +kernel
theorem dX10_isMended_20 : decode cX10_isMended 20 = .ok (.if_icmp .ne 7, 3) := by decide +kernel
theorem dX10_isMended_23 : decode cX10_isMended 23 = .ok (.iconst 1, 1) := by decide +kernel
theorem dX10_isMended_24 : decode cX10_isMended 24 = .ok (.goto 4, 3) := by decide +kernel
theorem dX10_isMended_27 : decode cX10_isMended 27 = .ok (.iconst 0, 1) := by decide +kernel
theorem dX10_isMended_28 : decode cX10_isMended 28 = .ok (.ior, 1) := by decide +kernel
theorem dX10_isMended_29 : decode cX10_isMended 29 = .ok (.istore_n 2, 1) := by decide +kernel
theorem dX10_isMended_30 : decode cX10_isMended 30 = .ok (.iinc 3 1, 3) := by decide +kernel
theorem dX10_isMended_33 : decode cX10_isMended 33 = .ok (.goto (-29), 3) := by decide +kernel
theorem dX10_isMended_36 : decode cX10_isMended 36 = .ok (.iload_n 2, 1) := by decide +kernel
theorem dX10_isMended_37 : decode cX10_isMended 37 = .ok (.ireturn, 1) := by decide +kernel
theorem dX10_refusesMend_0 : decode cX10_refusesMend 0 = .ok (.aload_n 0, 1) := by decide +kernel
theorem dX10_refusesMend_1 : decode cX10_refusesMend 1 = .ok (.iload_n 1, 1) := by decide +kernel
theorem dX10_refusesMend_2 : decode cX10_refusesMend 2 = .ok (.invokevirtual 177, 3) := by decide +kernel
theorem dX10_refusesMend_5 : decode cX10_refusesMend 5 = .ok (.ifCond .eq 21, 3) := by decide +kernel
theorem dX10_refusesMend_8 : decode cX10_refusesMend 8 = .ok (.aload_n 0, 1) := by decide +kernel
theorem dX10_refusesMend_9 : decode cX10_refusesMend 9 = .ok (.iload_n 2, 1) := by decide +kernel
theorem dX10_refusesMend_10 : decode cX10_refusesMend 10 = .ok (.invokevirtual 184, 3) := by decide +kernel
theorem dX10_refusesMend_13 : decode cX10_refusesMend 13 = .ok (.ifCond .eq 13, 3) := by decide +kernel
theorem dX10_refusesMend_16 : decode cX10_refusesMend 16 = .ok (.iload_n 3, 1) := by decide +kernel
theorem dX10_refusesMend_17 : decode cX10_refusesMend 17 = .ok (.iconst 1, 1) := by decide +kernel
theorem dX10_refusesMend_18 : decode cX10_refusesMend 18 = .ok (.bipush 60, 2) := by decide +kernel
theorem dX10_refusesMend_20 : decode cX10_refusesMend 20 = .ok (.invokestatic 171, 3) := by decide +kernel
theorem dX10_refusesMend_23 : decode cX10_refusesMend 23 = .ok (.ifCond .ne 5, 3) := by decide +kernel
theorem dX10_refusesMend_26 : decode cX10_refusesMend 26 = .ok (.iconst 1, 1) := by decide +kernel
theorem dX10_refusesMend_27 : decode cX10_refusesMend 27 = .ok (.ireturn, 1) := by decide +kernel
theorem dX10_refusesMend_28 : decode cX10_refusesMend 28 = .ok (.aload_n 0, 1) := by decide +kernel
theorem dX10_refusesMend_29 : decode cX10_refusesMend 29 = .ok (.getfield 73, 3) := by decide +kernel
theorem dX10_refusesMend_32 : decode cX10_refusesMend 32 = .ok (.iload_n 2, 1) := by decide +kernel
theorem dX10_refusesMend_33 : decode cX10_refusesMend 33 = .ok (.iaload, 1) := by decide +kernel
theorem dX10_refusesMend_34 : decode cX10_refusesMend 34 = .ok (.ifCond .eq 35, 3) := by decide +kernel
theorem dX10_refusesMend_37 : decode cX10_refusesMend 37 = .ok (.aload_n 0, 1) := by decide +kernel
theorem dX10_refusesMend_38 : decode cX10_refusesMend 38 = .ok (.iload_n 2, 1) := by decide +kernel
theorem dX10_refusesMend_39 : decode cX10_refusesMend 39 = .ok (.invokevirtual 187, 3) := by decide +kernel
theorem dX10_refusesMend_42 : decode cX10_refusesMend 42 = .ok (.ifCond .ne 27, 3) := by decide +kernel
theorem dX10_refusesMend_45 : decode cX10_refusesMend 45 = .ok (.aload_n 0, 1) := by decide +kernel
theorem dX10_refusesMend_46 : decode cX10_refusesMend 46 = .ok (.getfield 37, 3) := by decide +kernel
theorem dX10_refusesMend_49 : decode cX10_refusesMend 49 = .ok (.iload_n 1, 1) := by decide +kernel
theorem dX10_refusesMend_50 : decode cX10_refusesMend 50 = .ok (.iaload, 1) := by decide +kernel
theorem dX10_refusesMend_51 : decode cX10_refusesMend 51 = .ok (.ifCond .ge 18, 3) := by decide +kernel
theorem dX10_refusesMend_54 : decode cX10_refusesMend 54 = .ok (.aload_n 0, 1) := by decide +kernel
theorem dX10_refusesMend_55 : decode cX10_refusesMend 55 = .ok (.getfield 31, 3) := by decide +kernel
theorem dX10_refusesMend_58 : decode cX10_refusesMend 58 = .ok (.iload_n 1, 1) := by decide +kernel
theorem dX10_refusesMend_59 : decode cX10_refusesMend 59 = .ok (.iaload, 1) := by decide +kernel
theorem dX10_refusesMend_60 : decode cX10_refusesMend 60 = .ok (.aload_n 0, 1) := by decide +kernel
theorem dX10_refusesMend_61 : decode cX10_refusesMend 61 = .ok (.getfield 52, 3) := by decide +kernel
theorem dX10_refusesMend_64 : decode cX10_refusesMend 64 = .ok (.iload_n 2, 1) := by decide +kernel
theorem dX10_refusesMend_65 : decode cX10_refusesMend 65 = .ok (.iaload, 1) := by decide +kernel
theorem dX10_refusesMend_66 : decode cX10_refusesMend 66 = .ok (.if_icmp .eq 5, 3) := by decide +kernel
theorem dX10_refusesMend_69 : decode cX10_refusesMend 69 = .ok (.iconst 3, 1) := by decide +kernel
theorem dX10_refusesMend_70 : decode cX10_refusesMend 70 = .ok (.ireturn, 1) := by decide +kernel
theorem dX10_refusesMend_71 : decode cX10_refusesMend 71 = .ok (.aload_n 0, 1) := by decide +kernel
theorem dX10_refusesMend_72 : decode cX10_refusesMend 72 = .ok (.getfield 79, 3) := by decide +kernel
theorem dX10_refusesMend_75 : decode cX10_refusesMend 75 = .ok (.aload_n 0, 1) := by decide +kernel
theorem dX10_refusesMend_76 : decode cX10_refusesMend 76 = .ok (.getfield 49, 3) := by decide +kernel
theorem dX10_refusesMend_79 : decode cX10_refusesMend 79 = .ok (.iload_n 2, 1) := by decide +kernel
theorem dX10_refusesMend_80 : decode cX10_refusesMend 80 = .ok (.iaload, 1) := by decide +kernel
theorem dX10_refusesMend_81 : decode cX10_refusesMend 81 = .ok (.iaload, 1) := by decide +kernel
theorem dX10_refusesMend_82 : decode cX10_refusesMend 82 = .ok (.ifCond .ne 7, 3) := by decide +kernel
theorem dX10_refusesMend_85 : decode cX10_refusesMend 85 = .ok (.iconst 2, 1) := by decide +kernel
theorem dX10_refusesMend_86 : decode cX10_refusesMend 86 = .ok (.goto 4, 3) := by decide +kernel
theorem dX10_refusesMend_89 : decode cX10_refusesMend 89 = .ok (.iconst 0, 1) := by decide +kernel
theorem dX10_refusesMend_90 : decode cX10_refusesMend 90 = .ok (.ireturn, 1) := by decide +kernel
theorem dX10_beginMend_0 : decode cX10_beginMend 0 = .ok (.aload_n 0, 1) := by decide +kernel
theorem dX10_beginMend_1 : decode cX10_beginMend 1 = .ok (.getfield 79, 3) := by decide +kernel
theorem dX10_beginMend_4 : decode cX10_beginMend 4 = .ok (.aload_n 0, 1) := by decide +kernel
theorem dX10_beginMend_5 : decode cX10_beginMend 5 = .ok (.getfield 49, 3) := by decide +kernel
theorem dX10_beginMend_8 : decode cX10_beginMend 8 = .ok (.iload_n 2, 1) := by decide +kernel
theorem dX10_beginMend_9 : decode cX10_beginMend 9 = .ok (.iaload, 1) := by decide +kernel
theorem dX10_beginMend_10 : decode cX10_beginMend 10 = .ok (.dup2, 1) := by decide +kernel
theorem dX10_beginMend_11 : decode cX10_beginMend 11 = .ok (.iaload, 1) := by decide +kernel
theorem dX10_beginMend_12 : decode cX10_beginMend 12 = .ok (.iconst 1, 1) := by decide +kernel
theorem dX10_beginMend_13 : decode cX10_beginMend 13 = .ok (.isub, 1) := by decide +kernel
theorem dX10_beginMend_14 : decode cX10_beginMend 14 = .ok (.iastore, 1) := by decide +kernel
theorem dX10_beginMend_15 : decode cX10_beginMend 15 = .ok (.aload_n 0, 1) := by decide +kernel
theorem dX10_beginMend_16 : decode cX10_beginMend 16 = .ok (.getfield 37, 3) := by decide +kernel
theorem dX10_beginMend_19 : decode cX10_beginMend 19 = .ok (.iload_n 1, 1) := by decide +kernel
theorem dX10_beginMend_20 : decode cX10_beginMend 20 = .ok (.iload_n 2, 1) := by decide +kernel
theorem dX10_beginMend_21 : decode cX10_beginMend 21 = .ok (.iastore, 1) := by decide +kernel
theorem dX10_beginMend_22 : decode cX10_beginMend 22 = .ok (.aload_n 0, 1) := by decide +kernel
theorem dX10_beginMend_23 : decode cX10_beginMend 23 = .ok (.getfield 40, 3) := by decide +kernel
theorem dX10_beginMend_26 : decode cX10_beginMend 26 = .ok (.iload_n 1, 1) := by decide +kernel
theorem dX10_beginMend_27 : decode cX10_beginMend 27 = .ok (.iload_n 3, 1) := by decide +kernel
theorem dX10_beginMend_28 : decode cX10_beginMend 28 = .ok (.iastore, 1) := by decide +kernel
theorem dX10_beginMend_29 : decode cX10_beginMend 29 = .ok (.aload_n 0, 1) := by decide +kernel
theorem dX10_beginMend_30 : decode cX10_beginMend 30 = .ok (.getfield 34, 3) := by decide +kernel
theorem dX10_beginMend_33 : decode cX10_beginMend 33 = .ok (.iload_n 1, 1) := by decide +kernel
theorem dX10_beginMend_34 : decode cX10_beginMend 34 = .ok (.iconst 1, 1) := by decide +kernel
theorem dX10_beginMend_35 : decode cX10_beginMend 35 = .ok (.iastore, 1) := by decide +kernel
theorem dX10_beginMend_36 : decode cX10_beginMend 36 = .ok (.return_, 1) := by decide +kernel
theorem dX10_repair_0 : decode cX10_repair 0 = .ok (.aload_n 0, 1) := by decide +kernel
theorem dX10_repair_1 : decode cX10_repair 1 = .ok (.iload_n 1, 1) := by decide +kernel
theorem dX10_repair_2 : decode cX10_repair 2 = .ok (.iload_n 2, 1) := by decide +kernel
theorem dX10_repair_3 : decode cX10_repair 3 = .ok (.iload_n 3, 1) := by decide +kernel
theorem dX10_repair_4 : decode cX10_repair 4 = .ok (.invokevirtual 190, 3) := by decide +kernel
theorem dX10_repair_7 : decode cX10_repair 7 = .ok (.istore 4, 2) := by decide +kernel
theorem dX10_repair_9 : decode cX10_repair 9 = .ok (.iload 4, 2) := by decide +kernel
theorem dX10_repair_11 : decode cX10_repair 11 = .ok (.ifCond .eq 10, 3) := by decide +kernel
theorem dX10_repair_14 : decode cX10_repair 14 = .ok (.aload_n 0, 1) := by decide +kernel
theorem dX10_repair_15 : decode cX10_repair 15 = .ok (.iload 4, 2) := by decide +kernel
theorem dX10_repair_17 : decode cX10_repair 17 = .ok (.invokevirtual 160, 3) := by decide +kernel
theorem dX10_repair_20 : decode cX10_repair 20 = .ok (.ireturn, 1) := by decide +kernel
theorem dX10_repair_21 : decode cX10_repair 21 = .ok (.aload_n 0, 1) := by decide +kernel
theorem dX10_repair_22 : decode cX10_repair 22 = .ok (.iload_n 1, 1) := by decide +kernel
theorem dX10_repair_23 : decode cX10_repair 23 = .ok (.iload_n 2, 1) := by decide +kernel
theorem dX10_repair_24 : decode cX10_repair 24 = .ok (.iload_n 3, 1) := by decide +kernel
theorem dX10_repair_25 : decode cX10_repair 25 = .ok (.invokevirtual 194, 3) := by decide +kernel
theorem dX10_repair_28 : decode cX10_repair 28 = .ok (.aload_n 0, 1) := by decide +kernel
theorem dX10_repair_29 : decode cX10_repair 29 = .ok (.getfield 79, 3) := by decide +kernel
theorem dX10_repair_32 : decode cX10_repair 32 = .ok (.aload_n 0, 1) := by decide +kernel
theorem dX10_repair_33 : decode cX10_repair 33 = .ok (.getfield 49, 3) := by decide +kernel
theorem dX10_repair_36 : decode cX10_repair 36 = .ok (.iload_n 2, 1) := by decide +kernel
theorem dX10_repair_37 : decode cX10_repair 37 = .ok (.iaload, 1) := by decide +kernel
theorem dX10_repair_38 : decode cX10_repair 38 = .ok (.iaload, 1) := by decide +kernel
theorem dX10_repair_39 : decode cX10_repair 39 = .ok (.ireturn, 1) := by decide +kernel
theorem dX10_canShed_0 : decode cX10_canShed 0 = .ok (.aload_n 0, 1) := by decide +kernel
theorem dX10_canShed_1 : decode cX10_canShed 1 = .ok (.getfield 70, 3) := by decide +kernel
theorem dX10_canShed_4 : decode cX10_canShed 4 = .ok (.iload_n 1, 1) := by decide +kernel
theorem dX10_canShed_5 : decode cX10_canShed 5 = .ok (.iaload, 1) := by decide +kernel
theorem dX10_canShed_6 : decode cX10_canShed 6 = .ok (.iconst 1, 1) := by decide +kernel
theorem dX10_canShed_7 : decode cX10_canShed 7 = .ok (.if_icmp .ne 16, 3) := by decide +kernel
theorem dX10_canShed_10 : decode cX10_canShed 10 = .ok (.aload_n 0, 1) := by decide +kernel
theorem dX10_canShed_11 : decode cX10_canShed 11 = .ok (.getfield 73, 3) := by decide +kernel
theorem dX10_canShed_14 : decode cX10_canShed 14 = .ok (.iload_n 1, 1) := by decide +kernel
theorem dX10_canShed_15 : decode cX10_canShed 15 = .ok (.iaload, 1) := by decide +kernel
theorem dX10_canShed_16 : decode cX10_canShed 16 = .ok (.ifCond .ne 7, 3) := by decide +kernel
theorem dX10_canShed_19 : decode cX10_canShed 19 = .ok (.iconst 1, 1) := by decide +kernel
theorem dX10_canShed_20 : decode cX10_canShed 20 = .ok (.goto 4, 3) := by decide +kernel
theorem dX10_canShed_23 : decode cX10_canShed 23 = .ok (.iconst 0, 1) := by decide +kernel
theorem dX10_canShed_24 : decode cX10_canShed 24 = .ok (.ireturn, 1) := by decide +kernel
theorem dX10_together_0 : decode cX10_together 0 = .ok (.iconst 0, 1) := by decide +kernel
theorem dX10_together_1 : decode cX10_together 1 = .ok (.istore 4, 2) := by decide +kernel
theorem dX10_together_3 : decode cX10_together 3 = .ok (.iconst 0, 1) := by decide +kernel
theorem dX10_together_4 : decode cX10_together 4 = .ok (.istore 5, 2) := by decide +kernel
theorem dX10_together_6 : decode cX10_together 6 = .ok (.iload 5, 2) := by decide +kernel
theorem dX10_together_8 : decode cX10_together 8 = .ok (.aload_n 0, 1) := by decide +kernel
theorem dX10_together_9 : decode cX10_together 9 = .ok (.getfield 157, 3) := by decide +kernel
theorem dX10_together_12 : decode cX10_together 12 = .ok (.if_icmp .ge 80, 3) := by decide +kernel
theorem dX10_together_15 : decode cX10_together 15 = .ok (.iload_n 1, 1) := by decide +kernel
theorem dX10_together_16 : decode cX10_together 16 = .ok (.iload 5, 2) := by decide +kernel
theorem dX10_together_18 : decode cX10_together 18 = .ok (.ishr, 1) := by decide +kernel
theorem dX10_together_19 : decode cX10_together 19 = .ok (.iconst 1, 1) := by decide +kernel
theorem dX10_together_20 : decode cX10_together 20 = .ok (.iand, 1) := by decide +kernel
theorem dX10_together_21 : decode cX10_together 21 = .ok (.iconst 1, 1) := by decide +kernel
theorem dX10_together_22 : decode cX10_together 22 = .ok (.if_icmp .ne 7, 3) := by decide +kernel
theorem dX10_together_25 : decode cX10_together 25 = .ok (.iconst 1, 1) := by decide +kernel
theorem dX10_together_26 : decode cX10_together 26 = .ok (.goto 4, 3) := by decide +kernel
theorem dX10_together_29 : decode cX10_together 29 = .ok (.iconst 0, 1) := by decide +kernel
theorem dX10_together_30 : decode cX10_together 30 = .ok (.istore 6, 2) := by decide +kernel
theorem dX10_together_32 : decode cX10_together 32 = .ok (.iload 4, 2) := by decide +kernel
theorem dX10_together_34 : decode cX10_together 34 = .ok (.aload_n 0, 1) := by decide +kernel
theorem dX10_together_35 : decode cX10_together 35 = .ok (.iload 5, 2) := by decide +kernel
theorem dX10_together_37 : decode cX10_together 37 = .ok (.invokevirtual 198, 3) := by decide +kernel
theorem dX10_together_40 : decode cX10_together 40 = .ok (.ifCond .eq 42, 3) := by decide +kernel
theorem dX10_together_43 : decode cX10_together 43 = .ok (.iload 6, 2) := by decide +kernel
theorem dX10_together_45 : decode cX10_together 45 = .ok (.iload_n 2, 1) := by decide +kernel
theorem dX10_together_46 : decode cX10_together 46 = .ok (.if_icmp .ne 36, 3) := by decide +kernel
theorem dX10_together_49 : decode cX10_together 49 = .ok (.iload_n 3, 1) := by decide +kernel
theorem dX10_together_50 : decode cX10_together 50 = .ok (.ifCond .ne 13, 3) := by decide +kernel
theorem dX10_together_53 : decode cX10_together 53 = .ok (.aload_n 0, 1) := by decide +kernel
theorem dX10_together_54 : decode cX10_together 54 = .ok (.getfield 58, 3) := by decide +kernel
theorem dX10_together_57 : decode cX10_together 57 = .ok (.iload 5, 2) := by decide +kernel
theorem dX10_together_59 : decode cX10_together 59 = .ok (.iaload, 1) := by decide +kernel
theorem dX10_together_60 : decode cX10_together 60 = .ok (.goto 23, 3) := by decide +kernel
theorem dX10_together_63 : decode cX10_together 63 = .ok (.iload_n 3, 1) := by decide +kernel
theorem dX10_together_64 : decode cX10_together 64 = .ok (.iconst 1, 1) := by decide +kernel
theorem dX10_together_65 : decode cX10_together 65 = .ok (.if_icmp .ne 13, 3) := by decide +kernel
theorem dX10_together_68 : decode cX10_together 68 = .ok (.aload_n 0, 1) := by decide +kernel
theorem dX10_together_69 : decode cX10_together 69 = .ok (.getfield 61, 3) := by decide +kernel
theorem dX10_together_72 : decode cX10_together 72 = .ok (.iload 5, 2) := by decide +kernel
theorem dX10_together_74 : decode cX10_together 74 = .ok (.iaload, 1) := by decide +kernel
theorem dX10_together_75 : decode cX10_together 75 = .ok (.goto 8, 3) := by decide +kernel
theorem dX10_together_78 : decode cX10_together 78 = .ok (.iconst 1, 1) := by decide +kernel
theorem dX10_together_79 : decode cX10_together 79 = .ok (.goto 4, 3) := by decide +kernel
theorem dX10_together_82 : decode cX10_together 82 = .ok (.iconst 0, 1) := by decide +kernel
theorem dX10_together_83 : decode cX10_together 83 = .ok (.iadd, 1) := by decide +kernel
theorem dX10_together_84 : decode cX10_together 84 = .ok (.istore 4, 2) := by decide +kernel
theorem dX10_together_86 : decode cX10_together 86 = .ok (.iinc 5 1, 3) := by decide +kernel
theorem dX10_together_89 : decode cX10_together 89 = .ok (.goto (-83), 3) := by decide +kernel
theorem dX10_together_92 : decode cX10_together 92 = .ok (.iload 4, 2) := by decide +kernel
theorem dX10_together_94 : decode cX10_together 94 = .ok (.ireturn, 1) := by decide +kernel
theorem dX10_shed_0 : decode cX10_shed 0 = .ok (.iload_n 1, 1) := by decide +kernel
theorem dX10_shed_1 : decode cX10_shed 1 = .ok (.iconst 0, 1) := by decide +kernel
theorem dX10_shed_2 : decode cX10_shed 2 = .ok (.sipush 1000, 3) := by decide +kernel
theorem dX10_shed_5 : decode cX10_shed 5 = .ok (.invokestatic 171, 3) := by decide +kernel
theorem dX10_shed_8 : decode cX10_shed 8 = .ok (.ifCond .eq 12, 3) := by decide +kernel
theorem dX10_shed_11 : decode cX10_shed 11 = .ok (.iload_n 2, 1) := by decide +kernel
theorem dX10_shed_12 : decode cX10_shed 12 = .ok (.iconst 0, 1) := by decide +kernel
theorem dX10_shed_13 : decode cX10_shed 13 = .ok (.iconst 2, 1) := by decide +kernel
theorem dX10_shed_14 : decode cX10_shed 14 = .ok (.invokestatic 171, 3) := by decide +kernel
theorem dX10_shed_17 : decode cX10_shed 17 = .ok (.ifCond .ne 9, 3) := by decide +kernel
theorem dX10_shed_20 : decode cX10_shed 20 = .ok (.aload_n 0, 1) := by decide +kernel
theorem dX10_shed_21 : decode cX10_shed 21 = .ok (.iconst 1, 1) := by decide +kernel
theorem dX10_shed_22 : decode cX10_shed 22 = .ok (.invokevirtual 160, 3) := by decide +kernel
theorem dX10_shed_25 : decode cX10_shed 25 = .ok (.ireturn, 1) := by decide +kernel
theorem dX10_shed_26 : decode cX10_shed 26 = .ok (.iconst 0, 1) := by decide +kernel
theorem dX10_shed_27 : decode cX10_shed 27 = .ok (.istore_n 3, 1) := by decide +kernel
theorem dX10_shed_28 : decode cX10_shed 28 = .ok (.iconst 0, 1) := by decide +kernel
theorem dX10_shed_29 : decode cX10_shed 29 = .ok (.istore 4, 2) := by decide +kernel
theorem dX10_shed_31 : decode cX10_shed 31 = .ok (.iload 4, 2) := by decide +kernel
theorem dX10_shed_33 : decode cX10_shed 33 = .ok (.aload_n 0, 1) := by decide +kernel
theorem dX10_shed_34 : decode cX10_shed 34 = .ok (.getfield 157, 3) := by decide +kernel
theorem dX10_shed_37 : decode cX10_shed 37 = .ok (.if_icmp .ge 29, 3) := by decide +kernel
theorem dX10_shed_40 : decode cX10_shed 40 = .ok (.iload_n 3, 1) := by decide +kernel
theorem dX10_shed_41 : decode cX10_shed 41 = .ok (.aload_n 0, 1) := by decide +kernel
theorem dX10_shed_42 : decode cX10_shed 42 = .ok (.iload 4, 2) := by decide +kernel
theorem dX10_shed_44 : decode cX10_shed 44 = .ok (.invokevirtual 198, 3) := by decide +kernel
theorem dX10_shed_47 : decode cX10_shed 47 = .ok (.ifCond .eq 10, 3) := by decide +kernel
theorem dX10_shed_50 : decode cX10_shed 50 = .ok (.iconst 1, 1) := by decide +kernel
theorem dX10_shed_51 : decode cX10_shed 51 = .ok (.iload 4, 2) := by decide +kernel
theorem dX10_shed_53 : decode cX10_shed 53 = .ok (.ishl, 1) := by decide +kernel
theorem dX10_shed_54 : decode cX10_shed 54 = .ok (.goto 4, 3) := by decide +kernel
theorem dX10_shed_57 : decode cX10_shed 57 = .ok (.iconst 0, 1) := by decide +kernel
theorem dX10_shed_58 : decode cX10_shed 58 = .ok (.ior, 1) := by decide +kernel
theorem dX10_shed_59 : decode cX10_shed 59 = .ok (.istore_n 3, 1) := by decide +kernel
theorem dX10_shed_60 : decode cX10_shed 60 = .ok (.iinc 4 1, 3) := by decide +kernel
theorem dX10_shed_63 : decode cX10_shed 63 = .ok (.goto (-32), 3) := by decide +kernel
theorem dX10_shed_66 : decode cX10_shed 66 = .ok (.iload_n 3, 1) := by decide +kernel
theorem dX10_shed_67 : decode cX10_shed 67 = .ok (.istore 4, 2) := by decide +kernel
theorem dX10_shed_69 : decode cX10_shed 69 = .ok (.iconst 0, 1) := by decide +kernel
theorem dX10_shed_70 : decode cX10_shed 70 = .ok (.istore 5, 2) := by decide +kernel
theorem dX10_shed_72 : decode cX10_shed 72 = .ok (.iload 5, 2) := by decide +kernel
theorem dX10_shed_74 : decode cX10_shed 74 = .ok (.iconst 1, 1) := by decide +kernel
theorem dX10_shed_75 : decode cX10_shed 75 = .ok (.aload_n 0, 1) := by decide +kernel
theorem dX10_shed_76 : decode cX10_shed 76 = .ok (.getfield 157, 3) := by decide +kernel
theorem dX10_shed_79 : decode cX10_shed 79 = .ok (.ishl, 1) := by decide +kernel
theorem dX10_shed_80 : decode cX10_shed 80 = .ok (.if_icmp .ge 104, 3) := by decide +kernel
theorem dX10_shed_83 : decode cX10_shed 83 = .ok (.iload 5, 2) := by decide +kernel
theorem dX10_shed_85 : decode cX10_shed 85 = .ok (.iload_n 3, 1) := by decide +kernel
theorem dX10_shed_86 : decode cX10_shed 86 = .ok (.iconst (-1), 1) := by decide +kernel
theorem dX10_shed_87 : decode cX10_shed 87 = .ok (.ixor, 1) := by decide +kernel
theorem dX10_shed_88 : decode cX10_shed 88 = .ok (.iand, 1) := by decide +kernel
theorem dX10_shed_89 : decode cX10_shed 89 = .ok (.ifCond .ne 89, 3) := by decide +kernel
theorem dX10_shed_92 : decode cX10_shed 92 = .ok (.aload_n 0, 1) := by decide +kernel
theorem dX10_shed_93 : decode cX10_shed 93 = .ok (.iload 5, 2) := by decide +kernel
theorem dX10_shed_95 : decode cX10_shed 95 = .ok (.iconst 0, 1) := by decide +kernel
theorem dX10_shed_96 : decode cX10_shed 96 = .ok (.iconst 0, 1) := by decide +kernel
theorem dX10_shed_97 : decode cX10_shed 97 = .ok (.invokevirtual 201, 3) := by decide +kernel
theorem dX10_shed_100 : decode cX10_shed 100 = .ok (.iload_n 1, 1) := by decide +kernel
theorem dX10_shed_101 : decode cX10_shed 101 = .ok (.if_icmp .gt 77, 3) := by decide +kernel
theorem dX10_shed_104 : decode cX10_shed 104 = .ok (.aload_n 0, 1) := by decide +kernel
theorem dX10_shed_105 : decode cX10_shed 105 = .ok (.iload 5, 2) := by decide +kernel
theorem dX10_shed_107 : decode cX10_shed 107 = .ok (.iconst 1, 1) := by decide +kernel
theorem dX10_shed_108 : decode cX10_shed 108 = .ok (.iconst 1, 1) := by decide +kernel
theorem dX10_shed_109 : decode cX10_shed 109 = .ok (.invokevirtual 201, 3) := by decide +kernel
theorem dX10_shed_112 : decode cX10_shed 112 = .ok (.aload_n 0, 1) := by decide +kernel
theorem dX10_shed_113 : decode cX10_shed 113 = .ok (.iload 4, 2) := by decide +kernel
theorem dX10_shed_115 : decode cX10_shed 115 = .ok (.iconst 1, 1) := by decide +kernel
theorem dX10_shed_116 : decode cX10_shed 116 = .ok (.iconst 1, 1) := by decide +kernel
theorem dX10_shed_117 : decode cX10_shed 117 = .ok (.invokevirtual 201, 3) := by decide +kernel
theorem dX10_shed_120 : decode cX10_shed 120 = .ok (.isub, 1) := by decide +kernel
theorem dX10_shed_121 : decode cX10_shed 121 = .ok (.istore 6, 2) := by decide +kernel
theorem dX10_shed_123 : decode cX10_shed 123 = .ok (.aload_n 0, 1) := by decide +kernel
theorem dX10_shed_124 : decode cX10_shed 124 = .ok (.iload 5, 2) := by decide +kernel
theorem dX10_shed_126 : decode cX10_shed 126 = .ok (.iconst 1, 1) := by decide +kernel
theorem dX10_shed_127 : decode cX10_shed 127 = .ok (.iconst 2, 1) := by decide +kernel
theorem dX10_shed_128 : decode cX10_shed 128 = .ok (.invokevirtual 201, 3) := by decide +kernel
theorem dX10_shed_131 : decode cX10_shed 131 = .ok (.aload_n 0, 1) := by decide +kernel
theorem dX10_shed_132 : decode cX10_shed 132 = .ok (.iload 4, 2) := by decide +kernel
theorem dX10_shed_134 : decode cX10_shed 134 = .ok (.iconst 1, 1) := by decide +kernel
theorem dX10_shed_135 : decode cX10_shed 135 = .ok (.iconst 2, 1) := by decide +kernel
theorem dX10_shed_136 : decode cX10_shed 136 = .ok (.invokevirtual 201, 3) := by decide +kernel
theorem dX10_shed_139 : decode cX10_shed 139 = .ok (.isub, 1) := by decide +kernel
theorem dX10_shed_140 : decode cX10_shed 140 = .ok (.istore 7, 2) := by decide +kernel
theorem dX10_shed_142 : decode cX10_shed 142 = .ok (.iload 6, 2) := by decide +kernel
theorem dX10_shed_144 : decode cX10_shed 144 = .ok (.ifCond .lt 25, 3) := by decide +kernel
theorem dX10_shed_147 : decode cX10_shed 147 = .ok (.iload 6, 2) := by decide +kernel
theorem dX10_shed_149 : decode cX10_shed 149 = .ok (.ifCond .ne 25, 3) := by decide +kernel
theorem dX10_shed_152 : decode cX10_shed 152 = .ok (.iload 7, 2) := by decide +kernel
theorem dX10_shed_154 : decode cX10_shed 154 = .ok (.ifCond .lt 15, 3) := by decide +kernel
theorem dX10_shed_157 : decode cX10_shed 157 = .ok (.iload 7, 2) := by decide +kernel
theorem dX10_shed_159 : decode cX10_shed 159 = .ok (.ifCond .ne 15, 3) := by decide +kernel
theorem dX10_shed_162 : decode cX10_shed 162 = .ok (.iload 5, 2) := by decide +kernel
theorem dX10_shed_164 : decode cX10_shed 164 = .ok (.iload 4, 2) := by decide +kernel
theorem dX10_shed_166 : decode cX10_shed 166 = .ok (.if_icmp .ge 8, 3) := by decide +kernel
theorem dX10_shed_169 : decode cX10_shed 169 = .ok (.iload 5, 2) := by decide +kernel
theorem dX10_shed_171 : decode cX10_shed 171 = .ok (.goto 5, 3) := by decide +kernel
theorem dX10_shed_174 : decode cX10_shed 174 = .ok (.iload 4, 2) := by decide +kernel
theorem dX10_shed_176 : decode cX10_shed 176 = .ok (.istore 4, 2) := by decide +kernel
theorem dX10_shed_178 : decode cX10_shed 178 = .ok (.iinc 5 1, 3) := by decide +kernel
theorem dX10_shed_181 : decode cX10_shed 181 = .ok (.goto (-109), 3) := by decide +kernel
theorem dX10_shed_184 : decode cX10_shed 184 = .ok (.iload_n 2, 1) := by decide +kernel
theorem dX10_shed_185 : decode cX10_shed 185 = .ok (.ifCond .ne 8, 3) := by decide +kernel
theorem dX10_shed_188 : decode cX10_shed 188 = .ok (.iload 4, 2) := by decide +kernel
theorem dX10_shed_190 : decode cX10_shed 190 = .ok (.goto 27, 3) := by decide +kernel
theorem dX10_shed_193 : decode cX10_shed 193 = .ok (.iload_n 2, 1) := by decide +kernel
theorem dX10_shed_194 : decode cX10_shed 194 = .ok (.iconst 1, 1) := by decide +kernel
theorem dX10_shed_195 : decode cX10_shed 195 = .ok (.if_icmp .ne 14, 3) := by decide +kernel
theorem dX10_shed_198 : decode cX10_shed 198 = .ok (.aload_n 0, 1) := by decide +kernel
theorem dX10_shed_199 : decode cX10_shed 199 = .ok (.iload 4, 2) := by decide +kernel
theorem dX10_shed_201 : decode cX10_shed 201 = .ok (.iconst 1, 1) := by decide +kernel
theorem dX10_shed_202 : decode cX10_shed 202 = .ok (.iconst 1, 1) := by decide +kernel
theorem dX10_shed_203 : decode cX10_shed 203 = .ok (.invokevirtual 201, 3) := by decide +kernel
theorem dX10_shed_206 : decode cX10_shed 206 = .ok (.goto 11, 3) := by decide +kernel
theorem dX10_shed_209 : decode cX10_shed 209 = .ok (.aload_n 0, 1) := by decide +kernel
theorem dX10_shed_210 : decode cX10_shed 210 = .ok (.iload 4, 2) := by decide +kernel
theorem dX10_shed_212 : decode cX10_shed 212 = .ok (.iconst 0, 1) := by decide +kernel
theorem dX10_shed_213 : decode cX10_shed 213 = .ok (.iconst 0, 1) := by decide +kernel
theorem dX10_shed_214 : decode cX10_shed 214 = .ok (.invokevirtual 201, 3) := by decide +kernel
theorem dX10_shed_217 : decode cX10_shed 217 = .ok (.ireturn, 1) := by decide +kernel
theorem dX10_endText_0 : decode cX10_endText 0 = .ok (.aload_n 0, 1) := by decide +kernel
theorem dX10_endText_1 : decode cX10_endText 1 = .ok (.getfield 82, 3) := by decide +kernel
theorem dX10_endText_4 : decode cX10_endText 4 = .ok (.iconst 4, 1) := by decide +kernel
theorem dX10_endText_5 : decode cX10_endText 5 = .ok (.iconst 0, 1) := by decide +kernel
theorem dX10_endText_6 : decode cX10_endText 6 = .ok (.iastore, 1) := by decide +kernel
theorem dX10_endText_7 : decode cX10_endText 7 = .ok (.aload_n 0, 1) := by decide +kernel
theorem dX10_endText_8 : decode cX10_endText 8 = .ok (.getfield 82, 3) := by decide +kernel
theorem dX10_endText_11 : decode cX10_endText 11 = .ok (.iconst 5, 1) := by decide +kernel
theorem dX10_endText_12 : decode cX10_endText 12 = .ok (.iconst (-1), 1) := by decide +kernel
theorem dX10_endText_13 : decode cX10_endText 13 = .ok (.iastore, 1) := by decide +kernel
theorem dX10_endText_14 : decode cX10_endText 14 = .ok (.aload_n 0, 1) := by decide +kernel
theorem dX10_endText_15 : decode cX10_endText 15 = .ok (.getfield 82, 3) := by decide +kernel
theorem dX10_endText_18 : decode cX10_endText 18 = .ok (.bipush 6, 2) := by decide +kernel
theorem dX10_endText_20 : decode cX10_endText 20 = .ok (.iconst 0, 1) := by decide +kernel
theorem dX10_endText_21 : decode cX10_endText 21 = .ok (.iastore, 1) := by decide +kernel
theorem dX10_endText_22 : decode cX10_endText 22 = .ok (.aload_n 0, 1) := by decide +kernel
theorem dX10_endText_23 : decode cX10_endText 23 = .ok (.getfield 82, 3) := by decide +kernel
theorem dX10_endText_26 : decode cX10_endText 26 = .ok (.bipush 7, 2) := by decide +kernel
theorem dX10_endText_28 : decode cX10_endText 28 = .ok (.iconst 0, 1) := by decide +kernel
theorem dX10_endText_29 : decode cX10_endText 29 = .ok (.iastore, 1) := by decide +kernel
theorem dX10_endText_30 : decode cX10_endText 30 = .ok (.aload_n 0, 1) := by decide +kernel
theorem dX10_endText_31 : decode cX10_endText 31 = .ok (.getfield 82, 3) := by decide +kernel
theorem dX10_endText_34 : decode cX10_endText 34 = .ok (.bipush 8, 2) := by decide +kernel
theorem dX10_endText_36 : decode cX10_endText 36 = .ok (.iconst (-1), 1) := by decide +kernel
theorem dX10_endText_37 : decode cX10_endText 37 = .ok (.iastore, 1) := by decide +kernel
theorem dX10_endText_38 : decode cX10_endText 38 = .ok (.aload_n 0, 1) := by decide +kernel
theorem dX10_endText_39 : decode cX10_endText 39 = .ok (.getfield 82, 3) := by decide +kernel
theorem dX10_endText_42 : decode cX10_endText 42 = .ok (.bipush 9, 2) := by decide +kernel
theorem dX10_endText_44 : decode cX10_endText 44 = .ok (.iconst 0, 1) := by decide +kernel
theorem dX10_endText_45 : decode cX10_endText 45 = .ok (.iastore, 1) := by decide +kernel
theorem dX10_endText_46 : decode cX10_endText 46 = .ok (.aload_n 0, 1) := by decide +kernel
theorem dX10_endText_47 : decode cX10_endText 47 = .ok (.getfield 82, 3) := by decide +kernel
theorem dX10_endText_50 : decode cX10_endText 50 = .ok (.bipush 10, 2) := by decide +kernel
theorem dX10_endText_52 : decode cX10_endText 52 = .ok (.iload_n 1, 1) := by decide +kernel
theorem dX10_endText_53 : decode cX10_endText 53 = .ok (.iastore, 1) := by decide +kernel
theorem dX10_endText_54 : decode cX10_endText 54 = .ok (.return_, 1) := by decide +kernel
theorem dX10_abortText_0 : decode cX10_abortText 0 = .ok (.aload_n 0, 1) := by decide +kernel
theorem dX10_abortText_1 : decode cX10_abortText 1 = .ok (.getfield 82, 3) := by decide +kernel
theorem dX10_abortText_4 : decode cX10_abortText 4 = .ok (.bipush 8, 2) := by decide +kernel
theorem dX10_abortText_6 : decode cX10_abortText 6 = .ok (.iaload, 1) := by decide +kernel
theorem dX10_abortText_7 : decode cX10_abortText 7 = .ok (.ifCond .lt 14, 3) := by decide +kernel
theorem dX10_abortText_10 : decode cX10_abortText 10 = .ok (.aload_n 0, 1) := by decide +kernel
theorem dX10_abortText_11 : decode cX10_abortText 11 = .ok (.getfield 82, 3) := by decide +kernel
theorem dX10_abortText_14 : decode cX10_abortText 14 = .ok (.bipush 7, 2) := by decide +kernel
theorem dX10_abortText_16 : decode cX10_abortText 16 = .ok (.iaload, 1) := by decide +kernel
theorem dX10_abortText_17 : decode cX10_abortText 17 = .ok (.iconst 1, 1) := by decide +kernel
theorem dX10_abortText_18 : decode cX10_abortText 18 = .ok (.if_icmp .ne 9, 3) := by decide +kernel
theorem dX10_abortText_21 : decode cX10_abortText 21 = .ok (.aload_n 0, 1) := by decide +kernel
theorem dX10_abortText_22 : decode cX10_abortText 22 = .ok (.iconst 3, 1) := by decide +kernel
theorem dX10_abortText_23 : decode cX10_abortText 23 = .ok (.invokevirtual 205, 3) := by decide +kernel
theorem dX10_abortText_26 : decode cX10_abortText 26 = .ok (.return_, 1) := by decide +kernel
theorem dX10_abortText_27 : decode cX10_abortText 27 = .ok (.aload_n 0, 1) := by decide +kernel
theorem dX10_abortText_28 : decode cX10_abortText 28 = .ok (.getfield 82, 3) := by decide +kernel
theorem dX10_abortText_31 : decode cX10_abortText 31 = .ok (.iconst 5, 1) := by decide +kernel
theorem dX10_abortText_32 : decode cX10_abortText 32 = .ok (.aload_n 0, 1) := by decide +kernel
theorem dX10_abortText_33 : decode cX10_abortText 33 = .ok (.getfield 82, 3) := by decide +kernel
theorem dX10_abortText_36 : decode cX10_abortText 36 = .ok (.bipush 8, 2) := by decide +kernel
theorem dX10_abortText_38 : decode cX10_abortText 38 = .ok (.iaload, 1) := by decide +kernel
theorem dX10_abortText_39 : decode cX10_abortText 39 = .ok (.iastore, 1) := by decide +kernel
theorem dX10_abortText_40 : decode cX10_abortText 40 = .ok (.aload_n 0, 1) := by decide +kernel
theorem dX10_abortText_41 : decode cX10_abortText 41 = .ok (.getfield 82, 3) := by decide +kernel
theorem dX10_abortText_44 : decode cX10_abortText 44 = .ok (.bipush 7, 2) := by decide +kernel
theorem dX10_abortText_46 : decode cX10_abortText 46 = .ok (.iconst 1, 1) := by decide +kernel
theorem dX10_abortText_47 : decode cX10_abortText 47 = .ok (.iastore, 1) := by decide +kernel
theorem dX10_abortText_48 : decode cX10_abortText 48 = .ok (.aload_n 0, 1) := by decide +kernel
theorem dX10_abortText_49 : decode cX10_abortText 49 = .ok (.getfield 82, 3) := by decide +kernel
theorem dX10_abortText_52 : decode cX10_abortText 52 = .ok (.bipush 6, 2) := by decide +kernel
theorem dX10_abortText_54 : decode cX10_abortText 54 = .ok (.iconst 0, 1) := by decide +kernel
theorem dX10_abortText_55 : decode cX10_abortText 55 = .ok (.iastore, 1) := by decide +kernel
theorem dX10_abortText_56 : decode cX10_abortText 56 = .ok (.aload_n 0, 1) := by decide +kernel
theorem dX10_abortText_57 : decode cX10_abortText 57 = .ok (.getfield 82, 3) := by decide +kernel
theorem dX10_abortText_60 : decode cX10_abortText 60 = .ok (.bipush 9, 2) := by decide +kernel
theorem dX10_abortText_62 : decode cX10_abortText 62 = .ok (.iconst 0, 1) := by decide +kernel
theorem dX10_abortText_63 : decode cX10_abortText 63 = .ok (.iastore, 1) := by decide +kernel
theorem dX10_abortText_64 : decode cX10_abortText 64 = .ok (.return_, 1) := by decide +kernel
theorem dX10_isLine_0 : decode cX10_isLine 0 = .ok (.iload_n 1, 1) := by decide +kernel
theorem dX10_isLine_1 : decode cX10_isLine 1 = .ok (.ifCond .lt 15, 3) := by decide +kernel
theorem dX10_isLine_4 : decode cX10_isLine 4 = .ok (.iload_n 1, 1) := by decide +kernel
theorem dX10_isLine_5 : decode cX10_isLine 5 = .ok (.aload_n 0, 1) := by decide +kernel
theorem dX10_isLine_6 : decode cX10_isLine 6 = .ok (.getfield 209, 3) := by decide +kernel
theorem dX10_isLine_9 : decode cX10_isLine 9 = .ok (.if_icmp .ge 7, 3) := by decide +kernel
theorem dX10_isLine_12 : decode cX10_isLine 12 = .ok (.iconst 1, 1) := by decide +kernel
theorem dX10_isLine_13 : decode cX10_isLine 13 = .ok (.goto 4, 3) := by decide +kernel
theorem dX10_isLine_16 : decode cX10_isLine 16 = .ok (.iconst 0, 1) := by decide +kernel
theorem dX10_isLine_17 : decode cX10_isLine 17 = .ok (.ireturn, 1) := by decide +kernel
theorem dX10_canCheck_0 : decode cX10_canCheck 0 = .ok (.iload_n 2, 1) := by decide +kernel
theorem dX10_canCheck_1 : decode cX10_canCheck 1 = .ok (.ifCond .lt 21, 3) := by decide +kernel
theorem dX10_canCheck_4 : decode cX10_canCheck 4 = .ok (.aload_n 0, 1) := by decide +kernel
theorem dX10_canCheck_5 : decode cX10_canCheck 5 = .ok (.iload_n 3, 1) := by decide +kernel
theorem dX10_canCheck_6 : decode cX10_canCheck 6 = .ok (.invokevirtual 212, 3) := by decide +kernel
theorem dX10_canCheck_9 : decode cX10_canCheck 9 = .ok (.ifCond .eq 13, 3) := by decide +kernel
theorem dX10_canCheck_12 : decode cX10_canCheck 12 = .ok (.iload_n 1, 1) := by decide +kernel
theorem dX10_canCheck_13 : decode cX10_canCheck 13 = .ok (.iconst 0, 1) := by decide +kernel
theorem dX10_canCheck_14 : decode cX10_canCheck 14 = .ok (.bipush 7, 2) := by decide +kernel
theorem dX10_canCheck_16 : decode cX10_canCheck 16 = .ok (.invokestatic 171, 3) := by decide +kernel
theorem dX10_canCheck_19 : decode cX10_canCheck 19 = .ok (.ifCond .ne 5, 3) := by decide +kernel
theorem dX10_canCheck_22 : decode cX10_canCheck 22 = .ok (.iconst 0, 1) := by decide +kernel
theorem dX10_canCheck_23 : decode cX10_canCheck 23 = .ok (.ireturn, 1) := by decide +kernel
theorem dX10_canCheck_24 : decode cX10_canCheck 24 = .ok (.iload_n 1, 1) := by decide +kernel
theorem dX10_canCheck_25 : decode cX10_canCheck 25 = .ok (.iconst 5, 1) := by decide +kernel
theorem dX10_canCheck_26 : decode cX10_canCheck 26 = .ok (.if_icmp .ge 14, 3) := by decide +kernel
theorem dX10_canCheck_29 : decode cX10_canCheck 29 = .ok (.aload_n 0, 1) := by decide +kernel
theorem dX10_canCheck_30 : decode cX10_canCheck 30 = .ok (.iload_n 2, 1) := by decide +kernel
theorem dX10_canCheck_31 : decode cX10_canCheck 31 = .ok (.bipush 10, 2) := by decide +kernel
theorem dX10_canCheck_33 : decode cX10_canCheck 33 = .ok (.irem, 1) := by decide +kernel
theorem dX10_canCheck_34 : decode cX10_canCheck 34 = .ok (.invokevirtual 164, 3) := by decide +kernel
theorem dX10_canCheck_37 : decode cX10_canCheck 37 = .ok (.goto 53, 3) := by decide +kernel
theorem dX10_canCheck_40 : decode cX10_canCheck 40 = .ok (.iload_n 1, 1) := by decide +kernel
theorem dX10_canCheck_41 : decode cX10_canCheck 41 = .ok (.iconst 5, 1) := by decide +kernel
theorem dX10_canCheck_42 : decode cX10_canCheck 42 = .ok (.if_icmp .ne 19, 3) := by decide +kernel
theorem dX10_canCheck_45 : decode cX10_canCheck 45 = .ok (.iload_n 2, 1) := by decide +kernel
theorem dX10_canCheck_46 : decode cX10_canCheck 46 = .ok (.bipush 10, 2) := by decide +kernel
theorem dX10_canCheck_48 : decode cX10_canCheck 48 = .ok (.irem, 1) := by decide +kernel
theorem dX10_canCheck_49 : decode cX10_canCheck 49 = .ok (.iconst 3, 1) := by decide +kernel
theorem dX10_canCheck_50 : decode cX10_canCheck 50 = .ok (.if_icmp .gt 7, 3) := by decide +kernel
theorem dX10_canCheck_53 : decode cX10_canCheck 53 = .ok (.iconst 1, 1) := by decide +kernel
theorem dX10_canCheck_54 : decode cX10_canCheck 54 = .ok (.goto 36, 3) := by decide +kernel
theorem dX10_canCheck_57 : decode cX10_canCheck 57 = .ok (.iconst 0, 1) := by decide +kernel
theorem dX10_canCheck_58 : decode cX10_canCheck 58 = .ok (.goto 32, 3) := by decide +kernel
theorem dX10_canCheck_61 : decode cX10_canCheck 61 = .ok (.iload_n 1, 1) := by decide +kernel
theorem dX10_canCheck_62 : decode cX10_canCheck 62 = .ok (.bipush 6, 2) := by decide +kernel
theorem dX10_canCheck_64 : decode cX10_canCheck 64 = .ok (.if_icmp .eq 21, 3) := by decide +kernel
theorem dX10_canCheck_67 : decode cX10_canCheck 67 = .ok (.aload_n 0, 1) := by decide +kernel
theorem dX10_canCheck_68 : decode cX10_canCheck 68 = .ok (.iload_n 2, 1) := by decide +kernel
theorem dX10_canCheck_69 : decode cX10_canCheck 69 = .ok (.bipush 10, 2) := by decide +kernel
theorem dX10_canCheck_71 : decode cX10_canCheck 71 = .ok (.irem, 1) := by decide +kernel
theorem dX10_canCheck_72 : decode cX10_canCheck 72 = .ok (.invokevirtual 184, 3) := by decide +kernel
theorem dX10_canCheck_75 : decode cX10_canCheck 75 = .ok (.ifCond .eq 14, 3) := by decide +kernel
theorem dX10_canCheck_78 : decode cX10_canCheck 78 = .ok (.iload_n 2, 1) := by decide +kernel
theorem dX10_canCheck_79 : decode cX10_canCheck 79 = .ok (.bipush 10, 2) := by decide +kernel
theorem dX10_canCheck_81 : decode cX10_canCheck 81 = .ok (.idiv, 1) := by decide +kernel
theorem dX10_canCheck_82 : decode cX10_canCheck 82 = .ok (.ifCond .ne 7, 3) := by decide +kernel
theorem dX10_canCheck_85 : decode cX10_canCheck 85 = .ok (.iconst 1, 1) := by decide +kernel
theorem dX10_canCheck_86 : decode cX10_canCheck 86 = .ok (.goto 4, 3) := by decide +kernel
theorem dX10_canCheck_89 : decode cX10_canCheck 89 = .ok (.iconst 0, 1) := by decide +kernel
theorem dX10_canCheck_90 : decode cX10_canCheck 90 = .ok (.ireturn, 1) := by decide +kernel
theorem dX10_isSo_0 : decode cX10_isSo 0 = .ok (.iload_n 1, 1) := by decide +kernel
theorem dX10_isSo_1 : decode cX10_isSo 1 = .ok (.tableswitch 132 0 6 #[43, 43, 43, 43, 69, 91, 113], 43) := by decide +kernel
theorem dX10_isSo_44 : decode cX10_isSo 44 = .ok (.aload_n 0, 1) := by decide +kernel
theorem dX10_isSo_45 : decode cX10_isSo 45 = .ok (.getfield 7, 3) := by decide +kernel
theorem dX10_isSo_48 : decode cX10_isSo 48 = .ok (.iconst 4, 1) := by decide +kernel
theorem dX10_isSo_49 : decode cX10_isSo 49 = .ok (.iload_n 2, 1) := by decide +kernel
theorem dX10_isSo_50 : decode cX10_isSo 50 = .ok (.bipush 10, 2) := by decide +kernel
theorem dX10_isSo_52 : decode cX10_isSo 52 = .ok (.irem, 1) := by decide +kernel
theorem dX10_isSo_53 : decode cX10_isSo 53 = .ok (.imul, 1) := by decide +kernel
theorem dX10_isSo_54 : decode cX10_isSo 54 = .ok (.iload_n 1, 1) := by decide +kernel
theorem dX10_isSo_55 : decode cX10_isSo 55 = .ok (.iadd, 1) := by decide +kernel
theorem dX10_isSo_56 : decode cX10_isSo 56 = .ok (.iaload, 1) := by decide +kernel
theorem dX10_isSo_57 : decode cX10_isSo 57 = .ok (.iload_n 2, 1) := by decide +kernel
theorem dX10_isSo_58 : decode cX10_isSo 58 = .ok (.bipush 10, 2) := by decide +kernel
theorem dX10_isSo_60 : decode cX10_isSo 60 = .ok (.idiv, 1) := by decide +kernel
theorem dX10_isSo_61 : decode cX10_isSo 61 = .ok (.if_icmp .lt 7, 3) := by decide +kernel
theorem dX10_isSo_64 : decode cX10_isSo 64 = .ok (.iconst 1, 1) := by decide +kernel
theorem dX10_isSo_65 : decode cX10_isSo 65 = .ok (.goto 4, 3) := by decide +kernel
theorem dX10_isSo_68 : decode cX10_isSo 68 = .ok (.iconst 0, 1) := by decide +kernel
theorem dX10_isSo_69 : decode cX10_isSo 69 = .ok (.ireturn, 1) := by decide +kernel
theorem dX10_isSo_70 : decode cX10_isSo 70 = .ok (.aload_n 0, 1) := by decide +kernel
theorem dX10_isSo_71 : decode cX10_isSo 71 = .ok (.getfield 13, 3) := by decide +kernel
theorem dX10_isSo_74 : decode cX10_isSo 74 = .ok (.iload_n 2, 1) := by decide +kernel
theorem dX10_isSo_75 : decode cX10_isSo 75 = .ok (.bipush 10, 2) := by decide +kernel
theorem dX10_isSo_77 : decode cX10_isSo 77 = .ok (.irem, 1) := by decide +kernel
theorem dX10_isSo_78 : decode cX10_isSo 78 = .ok (.iaload, 1) := by decide +kernel
theorem dX10_isSo_79 : decode cX10_isSo 79 = .ok (.iload_n 2, 1) := by decide +kernel
theorem dX10_isSo_80 : decode cX10_isSo 80 = .ok (.bipush 10, 2) := by decide +kernel
theorem dX10_isSo_82 : decode cX10_isSo 82 = .ok (.idiv, 1) := by decide +kernel
theorem dX10_isSo_83 : decode cX10_isSo 83 = .ok (.if_icmp .lt 7, 3) := by decide +kernel
theorem dX10_isSo_86 : decode cX10_isSo 86 = .ok (.iconst 1, 1) := by decide +kernel
theorem dX10_isSo_87 : decode cX10_isSo 87 = .ok (.goto 4, 3) := by decide +kernel
theorem dX10_isSo_90 : decode cX10_isSo 90 = .ok (.iconst 0, 1) := by decide +kernel
theorem dX10_isSo_91 : decode cX10_isSo 91 = .ok (.ireturn, 1) := by decide +kernel
theorem dX10_isSo_92 : decode cX10_isSo 92 = .ok (.aload_n 0, 1) := by decide +kernel
theorem dX10_isSo_93 : decode cX10_isSo 93 = .ok (.getfield 28, 3) := by decide +kernel
theorem dX10_isSo_96 : decode cX10_isSo 96 = .ok (.iload_n 2, 1) := by decide +kernel
theorem dX10_isSo_97 : decode cX10_isSo 97 = .ok (.bipush 10, 2) := by decide +kernel
theorem dX10_isSo_99 : decode cX10_isSo 99 = .ok (.irem, 1) := by decide +kernel
theorem dX10_isSo_100 : decode cX10_isSo 100 = .ok (.iaload, 1) := by decide +kernel
theorem dX10_isSo_101 : decode cX10_isSo 101 = .ok (.iload_n 2, 1) := by decide +kernel
theorem dX10_isSo_102 : decode cX10_isSo 102 = .ok (.bipush 10, 2) := by decide +kernel
theorem dX10_isSo_104 : decode cX10_isSo 104 = .ok (.idiv, 1) := by decide +kernel
theorem dX10_isSo_105 : decode cX10_isSo 105 = .ok (.if_icmp .lt 7, 3) := by decide +kernel
theorem dX10_isSo_108 : decode cX10_isSo 108 = .ok (.iconst 1, 1) := by decide +kernel
theorem dX10_isSo_109 : decode cX10_isSo 109 = .ok (.goto 4, 3) := by decide +kernel
theorem dX10_isSo_112 : decode cX10_isSo 112 = .ok (.iconst 0, 1) := by decide +kernel
theorem dX10_isSo_113 : decode cX10_isSo 113 = .ok (.ireturn, 1) := by decide +kernel
theorem dX10_isSo_114 : decode cX10_isSo 114 = .ok (.aload_n 0, 1) := by decide +kernel
theorem dX10_isSo_115 : decode cX10_isSo 115 = .ok (.getfield 82, 3) := by decide +kernel
theorem dX10_isSo_118 : decode cX10_isSo 118 = .ok (.iconst 1, 1) := by decide +kernel
theorem dX10_isSo_119 : decode cX10_isSo 119 = .ok (.iaload, 1) := by decide +kernel
theorem dX10_isSo_120 : decode cX10_isSo 120 = .ok (.iload_n 2, 1) := by decide +kernel
theorem dX10_isSo_121 : decode cX10_isSo 121 = .ok (.bipush 10, 2) := by decide +kernel
theorem dX10_isSo_123 : decode cX10_isSo 123 = .ok (.idiv, 1) := by decide +kernel
theorem dX10_isSo_124 : decode cX10_isSo 124 = .ok (.if_icmp .lt 7, 3) := by decide +kernel
theorem dX10_isSo_127 : decode cX10_isSo 127 = .ok (.iconst 1, 1) := by decide +kernel
theorem dX10_isSo_128 : decode cX10_isSo 128 = .ok (.goto 4, 3) := by decide +kernel
theorem dX10_isSo_131 : decode cX10_isSo 131 = .ok (.iconst 0, 1) := by decide +kernel
theorem dX10_isSo_132 : decode cX10_isSo 132 = .ok (.ireturn, 1) := by decide +kernel
theorem dX10_isSo_133 : decode cX10_isSo 133 = .ok (.aload_n 0, 1) := by decide +kernel
theorem dX10_isSo_134 : decode cX10_isSo 134 = .ok (.getfield 73, 3) := by decide +kernel
theorem dX10_isSo_137 : decode cX10_isSo 137 = .ok (.iload_n 2, 1) := by decide +kernel
theorem dX10_isSo_138 : decode cX10_isSo 138 = .ok (.bipush 10, 2) := by decide +kernel
theorem dX10_isSo_140 : decode cX10_isSo 140 = .ok (.irem, 1) := by decide +kernel
theorem dX10_isSo_141 : decode cX10_isSo 141 = .ok (.iaload, 1) := by decide +kernel
theorem dX10_isSo_142 : decode cX10_isSo 142 = .ok (.ifCond .ne 7, 3) := by decide +kernel
theorem dX10_isSo_145 : decode cX10_isSo 145 = .ok (.iconst 1, 1) := by decide +kernel
theorem dX10_isSo_146 : decode cX10_isSo 146 = .ok (.goto 4, 3) := by decide +kernel
theorem dX10_isSo_149 : decode cX10_isSo 149 = .ok (.iconst 0, 1) := by decide +kernel
theorem dX10_isSo_150 : decode cX10_isSo 150 = .ok (.ireturn, 1) := by decide +kernel
theorem dX10_doLine_0 : decode cX10_doLine 0 = .ok (.iload_n 1, 1) := by decide +kernel
theorem dX10_doLine_1 : decode cX10_doLine 1 = .ok (.tableswitch 286 1 11 #[59, 102, 102, 131, 131, 160, 185, 222, 243, 286, 262], 59) := by decide +kernel
theorem dX10_doLine_60 : decode cX10_doLine 60 = .ok (.aload_n 0, 1) := by decide +kernel
theorem dX10_doLine_61 : decode cX10_doLine 61 = .ok (.iload_n 2, 1) := by decide +kernel
theorem dX10_doLine_62 : decode cX10_doLine 62 = .ok (.iload_n 3, 1) := by decide +kernel
theorem dX10_doLine_63 : decode cX10_doLine 63 = .ok (.iload 4, 2) := by decide +kernel
theorem dX10_doLine_65 : decode cX10_doLine 65 = .ok (.invokevirtual 215, 3) := by decide +kernel
theorem dX10_doLine_68 : decode cX10_doLine 68 = .ok (.ifCond .ne 5, 3) := by decide +kernel
theorem dX10_doLine_71 : decode cX10_doLine 71 = .ok (.iconst 0, 1) := by decide +kernel
theorem dX10_doLine_72 : decode cX10_doLine 72 = .ok (.ireturn, 1) := by decide +kernel
theorem dX10_doLine_73 : decode cX10_doLine 73 = .ok (.aload_n 0, 1) := by decide +kernel
theorem dX10_doLine_74 : decode cX10_doLine 74 = .ok (.getfield 82, 3) := by decide +kernel
theorem dX10_doLine_77 : decode cX10_doLine 77 = .ok (.iconst 5, 1) := by decide +kernel
theorem dX10_doLine_78 : decode cX10_doLine 78 = .ok (.aload_n 0, 1) := by decide +kernel
theorem dX10_doLine_79 : decode cX10_doLine 79 = .ok (.iload_n 2, 1) := by decide +kernel
theorem dX10_doLine_80 : decode cX10_doLine 80 = .ok (.iload_n 3, 1) := by decide +kernel
theorem dX10_doLine_81 : decode cX10_doLine 81 = .ok (.invokevirtual 218, 3) := by decide +kernel
theorem dX10_doLine_84 : decode cX10_doLine 84 = .ok (.ifCond .eq 14, 3) := by decide +kernel
theorem dX10_doLine_87 : decode cX10_doLine 87 = .ok (.aload_n 0, 1) := by decide +kernel
theorem dX10_doLine_88 : decode cX10_doLine 88 = .ok (.getfield 82, 3) := by decide +kernel
theorem dX10_doLine_91 : decode cX10_doLine 91 = .ok (.iconst 5, 1) := by decide +kernel
theorem dX10_doLine_92 : decode cX10_doLine 92 = .ok (.iaload, 1) := by decide +kernel
theorem dX10_doLine_93 : decode cX10_doLine 93 = .ok (.iconst 1, 1) := by decide +kernel
theorem dX10_doLine_94 : decode cX10_doLine 94 = .ok (.iadd, 1) := by decide +kernel
theorem dX10_doLine_95 : decode cX10_doLine 95 = .ok (.goto 5, 3) := by decide +kernel
theorem dX10_doLine_98 : decode cX10_doLine 98 = .ok (.iload 4, 2) := by decide +kernel
theorem dX10_doLine_100 : decode cX10_doLine 100 = .ok (.iastore, 1) := by decide +kernel
theorem dX10_doLine_101 : decode cX10_doLine 101 = .ok (.iconst 1, 1) := by decide +kernel
theorem dX10_doLine_102 : decode cX10_doLine 102 = .ok (.ireturn, 1) := by decide +kernel
theorem dX10_doLine_103 : decode cX10_doLine 103 = .ok (.aload_n 0, 1) := by decide +kernel
theorem dX10_doLine_104 : decode cX10_doLine 104 = .ok (.iload_n 2, 1) := by decide +kernel
theorem dX10_doLine_105 : decode cX10_doLine 105 = .ok (.invokevirtual 184, 3) := by decide +kernel
theorem dX10_doLine_108 : decode cX10_doLine 108 = .ok (.ifCond .ne 5, 3) := by decide +kernel
theorem dX10_doLine_111 : decode cX10_doLine 111 = .ok (.iconst 0, 1) := by decide +kernel
theorem dX10_doLine_112 : decode cX10_doLine 112 = .ok (.ireturn, 1) := by decide +kernel
theorem dX10_doLine_113 : decode cX10_doLine 113 = .ok (.aload_n 0, 1) := by decide +kernel
theorem dX10_doLine_114 : decode cX10_doLine 114 = .ok (.getfield 70, 3) := by decide +kernel
theorem dX10_doLine_117 : decode cX10_doLine 117 = .ok (.iload_n 2, 1) := by decide +kernel
theorem dX10_doLine_118 : decode cX10_doLine 118 = .ok (.iload_n 1, 1) := by decide +kernel
theorem dX10_doLine_119 : decode cX10_doLine 119 = .ok (.iconst 2, 1) := by decide +kernel
theorem dX10_doLine_120 : decode cX10_doLine 120 = .ok (.if_icmp .ne 7, 3) := by decide +kernel
theorem dX10_doLine_123 : decode cX10_doLine 123 = .ok (.iconst 1, 1) := by decide +kernel
theorem dX10_doLine_124 : decode cX10_doLine 124 = .ok (.goto 4, 3) := by decide +kernel
theorem dX10_doLine_127 : decode cX10_doLine 127 = .ok (.iconst 0, 1) := by decide +kernel
theorem dX10_doLine_128 : decode cX10_doLine 128 = .ok (.iastore, 1) := by decide +kernel
theorem dX10_doLine_129 : decode cX10_doLine 129 = .ok (.goto 160, 3) := by decide +kernel
theorem dX10_doLine_132 : decode cX10_doLine 132 = .ok (.aload_n 0, 1) := by decide +kernel
theorem dX10_doLine_133 : decode cX10_doLine 133 = .ok (.iload_n 2, 1) := by decide +kernel
theorem dX10_doLine_134 : decode cX10_doLine 134 = .ok (.invokevirtual 168, 3) := by decide +kernel
theorem dX10_doLine_137 : decode cX10_doLine 137 = .ok (.ifCond .ne 5, 3) := by decide +kernel
theorem dX10_doLine_140 : decode cX10_doLine 140 = .ok (.iconst 0, 1) := by decide +kernel
theorem dX10_doLine_141 : decode cX10_doLine 141 = .ok (.ireturn, 1) := by decide +kernel
theorem dX10_doLine_142 : decode cX10_doLine 142 = .ok (.aload_n 0, 1) := by decide +kernel
theorem dX10_doLine_143 : decode cX10_doLine 143 = .ok (.getfield 25, 3) := by decide +kernel
theorem dX10_doLine_146 : decode cX10_doLine 146 = .ok (.iload_n 2, 1) := by decide +kernel
theorem dX10_doLine_147 : decode cX10_doLine 147 = .ok (.iload_n 1, 1) := by decide +kernel
theorem dX10_doLine_148 : decode cX10_doLine 148 = .ok (.iconst 4, 1) := by decide +kernel
theorem dX10_doLine_149 : decode cX10_doLine 149 = .ok (.if_icmp .ne 7, 3) := by decide +kernel
theorem dX10_doLine_152 : decode cX10_doLine 152 = .ok (.iconst 1, 1) := by decide +kernel
theorem dX10_doLine_153 : decode cX10_doLine 153 = .ok (.goto 4, 3) := by decide +kernel
theorem dX10_doLine_156 : decode cX10_doLine 156 = .ok (.iconst 0, 1) := by decide +kernel
theorem dX10_doLine_157 : decode cX10_doLine 157 = .ok (.iastore, 1) := by decide +kernel
theorem dX10_doLine_158 : decode cX10_doLine 158 = .ok (.goto 131, 3) := by decide +kernel
theorem dX10_doLine_161 : decode cX10_doLine 161 = .ok (.iload_n 2, 1) := by decide +kernel
theorem dX10_doLine_162 : decode cX10_doLine 162 = .ok (.iconst 1, 1) := by decide +kernel
theorem dX10_doLine_163 : decode cX10_doLine 163 = .ok (.bipush 100, 2) := by decide +kernel
theorem dX10_doLine_165 : decode cX10_doLine 165 = .ok (.invokestatic 171, 3) := by decide +kernel
theorem dX10_doLine_168 : decode cX10_doLine 168 = .ok (.ifCond .ne 5, 3) := by decide +kernel
theorem dX10_doLine_171 : decode cX10_doLine 171 = .ok (.iconst 0, 1) := by decide +kernel
theorem dX10_doLine_172 : decode cX10_doLine 172 = .ok (.ireturn, 1) := by decide +kernel
theorem dX10_doLine_173 : decode cX10_doLine 173 = .ok (.aload_n 0, 1) := by decide +kernel
theorem dX10_doLine_174 : decode cX10_doLine 174 = .ok (.getfield 82, 3) := by decide +kernel
theorem dX10_doLine_177 : decode cX10_doLine 177 = .ok (.bipush 9, 2) := by decide +kernel
theorem dX10_doLine_179 : decode cX10_doLine 179 = .ok (.iload_n 2, 1) := by decide +kernel
theorem dX10_doLine_180 : decode cX10_doLine 180 = .ok (.iconst 1, 1) := by decide +kernel
theorem dX10_doLine_181 : decode cX10_doLine 181 = .ok (.isub, 1) := by decide +kernel
theorem dX10_doLine_182 : decode cX10_doLine 182 = .ok (.iastore, 1) := by decide +kernel
theorem dX10_doLine_183 : decode cX10_doLine 183 = .ok (.goto 106, 3) := by decide +kernel
theorem dX10_doLine_186 : decode cX10_doLine 186 = .ok (.aload_n 0, 1) := by decide +kernel
theorem dX10_doLine_187 : decode cX10_doLine 187 = .ok (.iload_n 2, 1) := by decide +kernel
theorem dX10_doLine_188 : decode cX10_doLine 188 = .ok (.invokevirtual 177, 3) := by decide +kernel
theorem dX10_doLine_191 : decode cX10_doLine 191 = .ok (.ifCond .eq 20, 3) := by decide +kernel
theorem dX10_doLine_194 : decode cX10_doLine 194 = .ok (.aload_n 0, 1) := by decide +kernel
theorem dX10_doLine_195 : decode cX10_doLine 195 = .ok (.iload_n 3, 1) := by decide +kernel
theorem dX10_doLine_196 : decode cX10_doLine 196 = .ok (.invokevirtual 164, 3) := by decide +kernel
theorem dX10_doLine_199 : decode cX10_doLine 199 = .ok (.ifCond .eq 12, 3) := by decide +kernel
theorem dX10_doLine_202 : decode cX10_doLine 202 = .ok (.aload_n 0, 1) := by decide +kernel
theorem dX10_doLine_203 : decode cX10_doLine 203 = .ok (.iload_n 2, 1) := by decide +kernel
theorem dX10_doLine_204 : decode cX10_doLine 204 = .ok (.iload_n 3, 1) := by decide +kernel
theorem dX10_doLine_205 : decode cX10_doLine 205 = .ok (.invokevirtual 180, 3) := by decide +kernel
theorem dX10_doLine_208 : decode cX10_doLine 208 = .ok (.ifCond .ne 5, 3) := by decide +kernel
theorem dX10_doLine_211 : decode cX10_doLine 211 = .ok (.iconst 0, 1) := by decide +kernel
theorem dX10_doLine_212 : decode cX10_doLine 212 = .ok (.ireturn, 1) := by decide +kernel
theorem dX10_doLine_213 : decode cX10_doLine 213 = .ok (.aload_n 0, 1) := by decide +kernel
theorem dX10_doLine_214 : decode cX10_doLine 214 = .ok (.getfield 31, 3) := by decide +kernel
theorem dX10_doLine_217 : decode cX10_doLine 217 = .ok (.iload_n 2, 1) := by decide +kernel
theorem dX10_doLine_218 : decode cX10_doLine 218 = .ok (.iload_n 3, 1) := by decide +kernel
theorem dX10_doLine_219 : decode cX10_doLine 219 = .ok (.iastore, 1) := by decide +kernel
theorem dX10_doLine_220 : decode cX10_doLine 220 = .ok (.goto 69, 3) := by decide +kernel
theorem dX10_doLine_223 : decode cX10_doLine 223 = .ok (.aload_n 0, 1) := by decide +kernel
theorem dX10_doLine_224 : decode cX10_doLine 224 = .ok (.iload_n 2, 1) := by decide +kernel
theorem dX10_doLine_225 : decode cX10_doLine 225 = .ok (.invokevirtual 212, 3) := by decide +kernel
theorem dX10_doLine_228 : decode cX10_doLine 228 = .ok (.ifCond .ne 5, 3) := by decide +kernel
theorem dX10_doLine_231 : decode cX10_doLine 231 = .ok (.iconst 0, 1) := by decide +kernel
theorem dX10_doLine_232 : decode cX10_doLine 232 = .ok (.ireturn, 1) := by decide +kernel
theorem dX10_doLine_233 : decode cX10_doLine 233 = .ok (.aload_n 0, 1) := by decide +kernel
theorem dX10_doLine_234 : decode cX10_doLine 234 = .ok (.getfield 82, 3) := by decide +kernel
theorem dX10_doLine_237 : decode cX10_doLine 237 = .ok (.bipush 8, 2) := by decide +kernel
theorem dX10_doLine_239 : decode cX10_doLine 239 = .ok (.iload_n 2, 1) := by decide +kernel
theorem dX10_doLine_240 : decode cX10_doLine 240 = .ok (.iastore, 1) := by decide +kernel
theorem dX10_doLine_241 : decode cX10_doLine 241 = .ok (.goto 48, 3) := by decide +kernel
theorem dX10_doLine_244 : decode cX10_doLine 244 = .ok (.aload_n 0, 1) := by decide +kernel
theorem dX10_doLine_245 : decode cX10_doLine 245 = .ok (.iload_n 2, 1) := by decide +kernel
theorem dX10_doLine_246 : decode cX10_doLine 246 = .ok (.invokevirtual 212, 3) := by decide +kernel
theorem dX10_doLine_249 : decode cX10_doLine 249 = .ok (.ifCond .ne 5, 3) := by decide +kernel
theorem dX10_doLine_252 : decode cX10_doLine 252 = .ok (.iconst 0, 1) := by decide +kernel
theorem dX10_doLine_253 : decode cX10_doLine 253 = .ok (.ireturn, 1) := by decide +kernel
theorem dX10_doLine_254 : decode cX10_doLine 254 = .ok (.aload_n 0, 1) := by decide +kernel
theorem dX10_doLine_255 : decode cX10_doLine 255 = .ok (.getfield 82, 3) := by decide +kernel
theorem dX10_doLine_258 : decode cX10_doLine 258 = .ok (.iconst 5, 1) := by decide +kernel
theorem dX10_doLine_259 : decode cX10_doLine 259 = .ok (.iload_n 2, 1) := by decide +kernel
theorem dX10_doLine_260 : decode cX10_doLine 260 = .ok (.iastore, 1) := by decide +kernel
theorem dX10_doLine_261 : decode cX10_doLine 261 = .ok (.iconst 1, 1) := by decide +kernel
theorem dX10_doLine_262 : decode cX10_doLine 262 = .ok (.ireturn, 1) := by decide +kernel
theorem dX10_doLine_263 : decode cX10_doLine 263 = .ok (.aload_n 0, 1) := by decide +kernel
theorem dX10_doLine_264 : decode cX10_doLine 264 = .ok (.iload_n 2, 1) := by decide +kernel
theorem dX10_doLine_265 : decode cX10_doLine 265 = .ok (.iload_n 3, 1) := by decide +kernel
theorem dX10_doLine_266 : decode cX10_doLine 266 = .ok (.iload 4, 2) := by decide +kernel
theorem dX10_doLine_268 : decode cX10_doLine 268 = .ok (.invokevirtual 190, 3) := by decide +kernel
theorem dX10_doLine_271 : decode cX10_doLine 271 = .ok (.ifCond .eq 5, 3) := by decide +kernel
theorem dX10_doLine_274 : decode cX10_doLine 274 = .ok (.iconst 0, 1) := by decide +kernel
theorem dX10_doLine_275 : decode cX10_doLine 275 = .ok (.ireturn, 1) := by decide +kernel
theorem dX10_doLine_276 : decode cX10_doLine 276 = .ok (.aload_n 0, 1) := by decide +kernel
theorem dX10_doLine_277 : decode cX10_doLine 277 = .ok (.iload_n 2, 1) := by decide +kernel
theorem dX10_doLine_278 : decode cX10_doLine 278 = .ok (.iload_n 3, 1) := by decide +kernel
theorem dX10_doLine_279 : decode cX10_doLine 279 = .ok (.iload 4, 2) := by decide +kernel
theorem dX10_doLine_281 : decode cX10_doLine 281 = .ok (.invokevirtual 194, 3) := by decide +kernel
theorem dX10_doLine_284 : decode cX10_doLine 284 = .ok (.goto 5, 3) := by decide +kernel
theorem dX10_doLine_287 : decode cX10_doLine 287 = .ok (.iconst 0, 1) := by decide +kernel
theorem dX10_doLine_288 : decode cX10_doLine 288 = .ok (.ireturn, 1) := by decide +kernel
theorem dX10_doLine_289 : decode cX10_doLine 289 = .ok (.aload_n 0, 1) := by decide +kernel
theorem dX10_doLine_290 : decode cX10_doLine 290 = .ok (.getfield 82, 3) := by decide +kernel
theorem dX10_doLine_293 : decode cX10_doLine 293 = .ok (.iconst 5, 1) := by decide +kernel
theorem dX10_doLine_294 : decode cX10_doLine 294 = .ok (.dup2, 1) := by decide +kernel
theorem dX10_doLine_295 : decode cX10_doLine 295 = .ok (.iaload, 1) := by decide +kernel
theorem dX10_doLine_296 : decode cX10_doLine 296 = .ok (.iconst 1, 1) := by decide +kernel
theorem dX10_doLine_297 : decode cX10_doLine 297 = .ok (.iadd, 1) := by decide +kernel
theorem dX10_doLine_298 : decode cX10_doLine 298 = .ok (.iastore, 1) := by decide +kernel
theorem dX10_doLine_299 : decode cX10_doLine 299 = .ok (.iconst 1, 1) := by decide +kernel
theorem dX10_doLine_300 : decode cX10_doLine 300 = .ok (.ireturn, 1) := by decide +kernel
theorem dX10_runText_0 : decode cX10_runText 0 = .ok (.aload_n 0, 1) := by decide +kernel
theorem dX10_runText_1 : decode cX10_runText 1 = .ok (.getfield 82, 3) := by decide +kernel
theorem dX10_runText_4 : decode cX10_runText 4 = .ok (.iconst 4, 1) := by decide +kernel
theorem dX10_runText_5 : decode cX10_runText 5 = .ok (.iaload, 1) := by decide +kernel
theorem dX10_runText_6 : decode cX10_runText 6 = .ok (.ifCond .eq 14, 3) := by decide +kernel
theorem dX10_runText_9 : decode cX10_runText 9 = .ok (.aload_n 0, 1) := by decide +kernel
theorem dX10_runText_10 : decode cX10_runText 10 = .ok (.getfield 82, 3) := by decide +kernel
theorem dX10_runText_13 : decode cX10_runText 13 = .ok (.bipush 6, 2) := by decide +kernel
theorem dX10_runText_15 : decode cX10_runText 15 = .ok (.iaload, 1) := by decide +kernel
theorem dX10_runText_16 : decode cX10_runText 16 = .ok (.iconst 1, 1) := by decide +kernel
theorem dX10_runText_17 : decode cX10_runText 17 = .ok (.if_icmp .ne 4, 3) := by decide +kernel
theorem dX10_runText_20 : decode cX10_runText 20 = .ok (.return_, 1) := by decide +kernel
theorem dX10_runText_21 : decode cX10_runText 21 = .ok (.aload_n 0, 1) := by decide +kernel
theorem dX10_runText_22 : decode cX10_runText 22 = .ok (.getfield 82, 3) := by decide +kernel
theorem dX10_runText_25 : decode cX10_runText 25 = .ok (.bipush 9, 2) := by decide +kernel
theorem dX10_runText_27 : decode cX10_runText 27 = .ok (.iaload, 1) := by decide +kernel
theorem dX10_runText_28 : decode cX10_runText 28 = .ok (.ifCond .le 15, 3) := by decide +kernel
theorem dX10_runText_31 : decode cX10_runText 31 = .ok (.aload_n 0, 1) := by decide +kernel
theorem dX10_runText_32 : decode cX10_runText 32 = .ok (.getfield 82, 3) := by decide +kernel
theorem dX10_runText_35 : decode cX10_runText 35 = .ok (.bipush 9, 2) := by decide +kernel
theorem dX10_runText_37 : decode cX10_runText 37 = .ok (.dup2, 1) := by decide +kernel
theorem dX10_runText_38 : decode cX10_runText 38 = .ok (.iaload, 1) := by decide +kernel
theorem dX10_runText_39 : decode cX10_runText 39 = .ok (.iconst 1, 1) := by decide +kernel
theorem dX10_runText_40 : decode cX10_runText 40 = .ok (.isub, 1) := by decide +kernel
theorem dX10_runText_41 : decode cX10_runText 41 = .ok (.iastore, 1) := by decide +kernel
theorem dX10_runText_42 : decode cX10_runText 42 = .ok (.return_, 1) := by decide +kernel
theorem dX10_runText_43 : decode cX10_runText 43 = .ok (.aload_n 0, 1) := by decide +kernel
theorem dX10_runText_44 : decode cX10_runText 44 = .ok (.getfield 82, 3) := by decide +kernel
theorem dX10_runText_47 : decode cX10_runText 47 = .ok (.iconst 5, 1) := by decide +kernel
theorem dX10_runText_48 : decode cX10_runText 48 = .ok (.iaload, 1) := by decide +kernel
theorem dX10_runText_49 : decode cX10_runText 49 = .ok (.istore_n 1, 1) := by decide +kernel
theorem dX10_runText_50 : decode cX10_runText 50 = .ok (.aload_n 0, 1) := by decide +kernel
theorem dX10_runText_51 : decode cX10_runText 51 = .ok (.iload_n 1, 1) := by decide +kernel
theorem dX10_runText_52 : decode cX10_runText 52 = .ok (.invokevirtual 212, 3) := by decide +kernel
theorem dX10_runText_55 : decode cX10_runText 55 = .ok (.ifCond .ne 11, 3) := by decide +kernel
theorem dX10_runText_58 : decode cX10_runText 58 = .ok (.aload_n 0, 1) := by decide +kernel
theorem dX10_runText_59 : decode cX10_runText 59 = .ok (.iconst 4, 1) := by decide +kernel
theorem dX10_runText_60 : decode cX10_runText 60 = .ok (.invokevirtual 205, 3) := by decide +kernel
theorem dX10_runText_63 : decode cX10_runText 63 = .ok (.goto 70, 3) := by decide +kernel
theorem dX10_runText_66 : decode cX10_runText 66 = .ok (.aload_n 0, 1) := by decide +kernel
theorem dX10_runText_67 : decode cX10_runText 67 = .ok (.getfield 98, 3) := by decide +kernel
theorem dX10_runText_70 : decode cX10_runText 70 = .ok (.iload_n 1, 1) := by decide +kernel
theorem dX10_runText_71 : decode cX10_runText 71 = .ok (.iaload, 1) := by decide +kernel
theorem dX10_runText_72 : decode cX10_runText 72 = .ok (.ifCond .ne 26, 3) := by decide +kernel
theorem dX10_runText_75 : decode cX10_runText 75 = .ok (.aload_n 0, 1) := by decide +kernel
theorem dX10_runText_76 : decode cX10_runText 76 = .ok (.aload_n 0, 1) := by decide +kernel
theorem dX10_runText_77 : decode cX10_runText 77 = .ok (.getfield 82, 3) := by decide +kernel
theorem dX10_runText_80 : decode cX10_runText 80 = .ok (.bipush 7, 2) := by decide +kernel
theorem dX10_runText_82 : decode cX10_runText 82 = .ok (.iaload, 1) := by decide +kernel
theorem dX10_runText_83 : decode cX10_runText 83 = .ok (.iconst 1, 1) := by decide +kernel
theorem dX10_runText_84 : decode cX10_runText 84 = .ok (.if_icmp .ne 7, 3) := by decide +kernel
theorem dX10_runText_87 : decode cX10_runText 87 = .ok (.iconst 2, 1) := by decide +kernel
theorem dX10_runText_88 : decode cX10_runText 88 = .ok (.goto 4, 3) := by decide +kernel
theorem dX10_runText_91 : decode cX10_runText 91 = .ok (.iconst 1, 1) := by decide +kernel
theorem dX10_runText_92 : decode cX10_runText 92 = .ok (.invokevirtual 205, 3) := by decide +kernel
theorem dX10_runText_95 : decode cX10_runText 95 = .ok (.goto 38, 3) := by decide +kernel
theorem dX10_runText_98 : decode cX10_runText 98 = .ok (.aload_n 0, 1) := by decide +kernel
theorem dX10_runText_99 : decode cX10_runText 99 = .ok (.aload_n 0, 1) := by decide +kernel
theorem dX10_runText_100 : decode cX10_runText 100 = .ok (.getfield 98, 3) := by decide +kernel
theorem dX10_runText_103 : decode cX10_runText 103 = .ok (.iload_n 1, 1) := by decide +kernel
theorem dX10_runText_104 : decode cX10_runText 104 = .ok (.iaload, 1) := by decide +kernel
theorem dX10_runText_105 : decode cX10_runText 105 = .ok (.aload_n 0, 1) := by decide +kernel
theorem dX10_runText_106 : decode cX10_runText 106 = .ok (.getfield 101, 3) := by decide +kernel
theorem dX10_runText_109 : decode cX10_runText 109 = .ok (.iload_n 1, 1) := by decide +kernel
theorem dX10_runText_110 : decode cX10_runText 110 = .ok (.iaload, 1) := by decide +kernel
theorem dX10_runText_111 : decode cX10_runText 111 = .ok (.aload_n 0, 1) := by decide +kernel
theorem dX10_runText_112 : decode cX10_runText 112 = .ok (.getfield 104, 3) := by decide +kernel
theorem dX10_runText_115 : decode cX10_runText 115 = .ok (.iload_n 1, 1) := by decide +kernel
theorem dX10_runText_116 : decode cX10_runText 116 = .ok (.iaload, 1) := by decide +kernel
theorem dX10_runText_117 : decode cX10_runText 117 = .ok (.aload_n 0, 1) := by decide +kernel
theorem dX10_runText_118 : decode cX10_runText 118 = .ok (.getfield 107, 3) := by decide +kernel
theorem dX10_runText_121 : decode cX10_runText 121 = .ok (.iload_n 1, 1) := by decide +kernel
theorem dX10_runText_122 : decode cX10_runText 122 = .ok (.iaload, 1) := by decide +kernel
theorem dX10_runText_123 : decode cX10_runText 123 = .ok (.invokevirtual 221, 3) := by decide +kernel
theorem dX10_runText_126 : decode cX10_runText 126 = .ok (.ifCond .ne 7, 3) := by decide +kernel
theorem dX10_runText_129 : decode cX10_runText 129 = .ok (.aload_n 0, 1) := by decide +kernel
theorem dX10_runText_130 : decode cX10_runText 130 = .ok (.invokevirtual 225, 3) := by decide +kernel
theorem dX10_runText_133 : decode cX10_runText 133 = .ok (.return_, 1) := by decide +kernel
theorem dX10_line_0 : decode cX10_line 0 = .ok (.iload_n 1, 1) := by decide +kernel
theorem dX10_line_1 : decode cX10_line 1 = .ok (.iconst 0, 1) := by decide +kernel
theorem dX10_line_2 : decode cX10_line 2 = .ok (.bipush 11, 2) := by decide +kernel
theorem dX10_line_4 : decode cX10_line 4 = .ok (.invokestatic 171, 3) := by decide +kernel
theorem dX10_line_7 : decode cX10_line 7 = .ok (.ifCond .ne 9, 3) := by decide +kernel
theorem dX10_line_10 : decode cX10_line 10 = .ok (.aload_n 0, 1) := by decide +kernel
theorem dX10_line_11 : decode cX10_line 11 = .ok (.iconst 1, 1) := by decide +kernel
theorem dX10_line_12 : decode cX10_line 12 = .ok (.invokevirtual 160, 3) := by decide +kernel
theorem dX10_line_15 : decode cX10_line 15 = .ok (.ireturn, 1) := by decide +kernel
theorem dX10_line_16 : decode cX10_line 16 = .ok (.aload_n 0, 1) := by decide +kernel
theorem dX10_line_17 : decode cX10_line 17 = .ok (.getfield 82, 3) := by decide +kernel
theorem dX10_line_20 : decode cX10_line 20 = .ok (.iconst 4, 1) := by decide +kernel
theorem dX10_line_21 : decode cX10_line 21 = .ok (.iaload, 1) := by decide +kernel
theorem dX10_line_22 : decode cX10_line 22 = .ok (.iconst 1, 1) := by decide +kernel
theorem dX10_line_23 : decode cX10_line 23 = .ok (.if_icmp .ne 9, 3) := by decide +kernel
theorem dX10_line_26 : decode cX10_line 26 = .ok (.aload_n 0, 1) := by decide +kernel
theorem dX10_line_27 : decode cX10_line 27 = .ok (.iconst 3, 1) := by decide +kernel
theorem dX10_line_28 : decode cX10_line 28 = .ok (.invokevirtual 160, 3) := by decide +kernel
theorem dX10_line_31 : decode cX10_line 31 = .ok (.ireturn, 1) := by decide +kernel
theorem dX10_line_32 : decode cX10_line 32 = .ok (.aload_n 0, 1) := by decide +kernel
theorem dX10_line_33 : decode cX10_line 33 = .ok (.getfield 209, 3) := by decide +kernel
theorem dX10_line_36 : decode cX10_line 36 = .ok (.bipush 40, 2) := by decide +kernel
theorem dX10_line_38 : decode cX10_line 38 = .ok (.if_icmp .ne 9, 3) := by decide +kernel
theorem dX10_line_41 : decode cX10_line 41 = .ok (.aload_n 0, 1) := by decide +kernel
theorem dX10_line_42 : decode cX10_line 42 = .ok (.iconst 4, 1) := by decide +kernel
theorem dX10_line_43 : decode cX10_line 43 = .ok (.invokevirtual 160, 3) := by decide +kernel
theorem dX10_line_46 : decode cX10_line 46 = .ok (.ireturn, 1) := by decide +kernel
theorem dX10_line_47 : decode cX10_line 47 = .ok (.aload_n 0, 1) := by decide +kernel
theorem dX10_line_48 : decode cX10_line 48 = .ok (.getfield 98, 3) := by decide +kernel
theorem dX10_line_51 : decode cX10_line 51 = .ok (.aload_n 0, 1) := by decide +kernel
theorem dX10_line_52 : decode cX10_line 52 = .ok (.getfield 209, 3) := by decide +kernel
theorem dX10_line_55 : decode cX10_line 55 = .ok (.iload_n 1, 1) := by decide +kernel
theorem dX10_line_56 : decode cX10_line 56 = .ok (.iastore, 1) := by decide +kernel
theorem dX10_line_57 : decode cX10_line 57 = .ok (.aload_n 0, 1) := by decide +kernel
theorem dX10_line_58 : decode cX10_line 58 = .ok (.getfield 101, 3) := by decide +kernel
theorem dX10_line_61 : decode cX10_line 61 = .ok (.aload_n 0, 1) := by decide +kernel
theorem dX10_line_62 : decode cX10_line 62 = .ok (.getfield 209, 3) := by decide +kernel
theorem dX10_line_65 : decode cX10_line 65 = .ok (.iload_n 2, 1) := by decide +kernel
theorem dX10_line_66 : decode cX10_line 66 = .ok (.iastore, 1) := by decide +kernel
theorem dX10_line_67 : decode cX10_line 67 = .ok (.aload_n 0, 1) := by decide +kernel
theorem dX10_line_68 : decode cX10_line 68 = .ok (.getfield 104, 3) := by decide +kernel
theorem dX10_line_71 : decode cX10_line 71 = .ok (.aload_n 0, 1) := by decide +kernel
theorem dX10_line_72 : decode cX10_line 72 = .ok (.getfield 209, 3) := by decide +kernel
theorem dX10_line_75 : decode cX10_line 75 = .ok (.iload_n 3, 1) := by decide +kernel
theorem dX10_line_76 : decode cX10_line 76 = .ok (.iastore, 1) := by decide +kernel
theorem dX10_line_77 : decode cX10_line 77 = .ok (.aload_n 0, 1) := by decide +kernel
theorem dX10_line_78 : decode cX10_line 78 = .ok (.getfield 107, 3) := by decide +kernel
theorem dX10_line_81 : decode cX10_line 81 = .ok (.aload_n 0, 1) := by decide +kernel
theorem dX10_line_82 : decode cX10_line 82 = .ok (.getfield 209, 3) := by decide +kernel
theorem dX10_line_85 : decode cX10_line 85 = .ok (.iload 4, 2) := by decide +kernel
theorem dX10_line_87 : decode cX10_line 87 = .ok (.iastore, 1) := by decide +kernel
theorem dX10_line_88 : decode cX10_line 88 = .ok (.aload_n 0, 1) := by decide +kernel
theorem dX10_line_89 : decode cX10_line 89 = .ok (.dup, 1) := by decide +kernel
theorem dX10_line_90 : decode cX10_line 90 = .ok (.getfield 209, 3) := by decide +kernel
theorem dX10_line_93 : decode cX10_line 93 = .ok (.iconst 1, 1) := by decide +kernel
theorem dX10_line_94 : decode cX10_line 94 = .ok (.iadd, 1) := by decide +kernel
theorem dX10_line_95 : decode cX10_line 95 = .ok (.putfield 209, 3) := by decide +kernel
theorem dX10_line_98 : decode cX10_line 98 = .ok (.aload_n 0, 1) := by decide +kernel
theorem dX10_line_99 : decode cX10_line 99 = .ok (.getfield 209, 3) := by decide +kernel
theorem dX10_line_102 : decode cX10_line 102 = .ok (.iconst 1, 1) := by decide +kernel
theorem dX10_line_103 : decode cX10_line 103 = .ok (.isub, 1) := by decide +kernel
theorem dX10_line_104 : decode cX10_line 104 = .ok (.ireturn, 1) := by decide +kernel
theorem dX10_erase_0 : decode cX10_erase 0 = .ok (.aload_n 0, 1) := by decide +kernel
theorem dX10_erase_1 : decode cX10_erase 1 = .ok (.getfield 82, 3) := by decide +kernel
theorem dX10_erase_4 : decode cX10_erase 4 = .ok (.iconst 4, 1) := by decide +kernel
theorem dX10_erase_5 : decode cX10_erase 5 = .ok (.iaload, 1) := by decide +kernel
theorem dX10_erase_6 : decode cX10_erase 6 = .ok (.iconst 1, 1) := by decide +kernel
theorem dX10_erase_7 : decode cX10_erase 7 = .ok (.if_icmp .ne 9, 3) := by decide +kernel
theorem dX10_erase_10 : decode cX10_erase 10 = .ok (.aload_n 0, 1) := by decide +kernel
theorem dX10_erase_11 : decode cX10_erase 11 = .ok (.iconst 3, 1) := by decide +kernel
theorem dX10_erase_12 : decode cX10_erase 12 = .ok (.invokevirtual 160, 3) := by decide +kernel
theorem dX10_erase_15 : decode cX10_erase 15 = .ok (.ireturn, 1) := by decide +kernel
theorem dX10_erase_16 : decode cX10_erase 16 = .ok (.aload_n 0, 1) := by decide +kernel
theorem dX10_erase_17 : decode cX10_erase 17 = .ok (.getfield 209, 3) := by decide +kernel
theorem dX10_erase_20 : decode cX10_erase 20 = .ok (.istore_n 1, 1) := by decide +kernel
theorem dX10_erase_21 : decode cX10_erase 21 = .ok (.aload_n 0, 1) := by decide +kernel
theorem dX10_erase_22 : decode cX10_erase 22 = .ok (.iconst 0, 1) := by decide +kernel
theorem dX10_erase_23 : decode cX10_erase 23 = .ok (.putfield 209, 3) := by decide +kernel
theorem dX10_erase_26 : decode cX10_erase 26 = .ok (.iload_n 1, 1) := by decide +kernel
theorem dX10_erase_27 : decode cX10_erase 27 = .ok (.ireturn, 1) := by decide +kernel
theorem dX10_begin_0 : decode cX10_begin 0 = .ok (.aload_n 0, 1) := by decide +kernel
theorem dX10_begin_1 : decode cX10_begin 1 = .ok (.getfield 82, 3) := by decide +kernel
theorem dX10_begin_4 : decode cX10_begin 4 = .ok (.iconst 4, 1) := by decide +kernel
theorem dX10_begin_5 : decode cX10_begin 5 = .ok (.iaload, 1) := by decide +kernel
theorem dX10_begin_6 : decode cX10_begin 6 = .ok (.iconst 1, 1) := by decide +kernel
theorem dX10_begin_7 : decode cX10_begin 7 = .ok (.if_icmp .eq 10, 3) := by decide +kernel
theorem dX10_begin_10 : decode cX10_begin 10 = .ok (.aload_n 0, 1) := by decide +kernel
theorem dX10_begin_11 : decode cX10_begin 11 = .ok (.getfield 209, 3) := by decide +kernel
theorem dX10_begin_14 : decode cX10_begin 14 = .ok (.ifCond .ne 9, 3) := by decide +kernel
theorem dX10_begin_17 : decode cX10_begin 17 = .ok (.aload_n 0, 1) := by decide +kernel
theorem dX10_begin_18 : decode cX10_begin 18 = .ok (.iconst 3, 1) := by decide +kernel
theorem dX10_begin_19 : decode cX10_begin 19 = .ok (.invokevirtual 160, 3) := by decide +kernel
theorem dX10_begin_22 : decode cX10_begin 22 = .ok (.ireturn, 1) := by decide +kernel
theorem dX10_begin_23 : decode cX10_begin 23 = .ok (.aload_n 0, 1) := by decide +kernel
theorem dX10_begin_24 : decode cX10_begin 24 = .ok (.getfield 82, 3) := by decide +kernel
theorem dX10_begin_27 : decode cX10_begin 27 = .ok (.iconst 4, 1) := by decide +kernel
theorem dX10_begin_28 : decode cX10_begin 28 = .ok (.iconst 1, 1) := by decide +kernel
theorem dX10_begin_29 : decode cX10_begin 29 = .ok (.iastore, 1) := by decide +kernel
theorem dX10_begin_30 : decode cX10_begin 30 = .ok (.aload_n 0, 1) := by decide +kernel
theorem dX10_begin_31 : decode cX10_begin 31 = .ok (.getfield 82, 3) := by decide +kernel
theorem dX10_begin_34 : decode cX10_begin 34 = .ok (.iconst 5, 1) := by decide +kernel
theorem dX10_begin_35 : decode cX10_begin 35 = .ok (.iconst 0, 1) := by decide +kernel
theorem dX10_begin_36 : decode cX10_begin 36 = .ok (.iastore, 1) := by decide +kernel
theorem dX10_begin_37 : decode cX10_begin 37 = .ok (.iconst 1, 1) := by decide +kernel
theorem dX10_begin_38 : decode cX10_begin 38 = .ok (.ireturn, 1) := by decide +kernel
theorem dX10_halt_0 : decode cX10_halt 0 = .ok (.iload_n 1, 1) := by decide +kernel
theorem dX10_halt_1 : decode cX10_halt 1 = .ok (.iconst 0, 1) := by decide +kernel
theorem dX10_halt_2 : decode cX10_halt 2 = .ok (.iconst 1, 1) := by decide +kernel
theorem dX10_halt_3 : decode cX10_halt 3 = .ok (.invokestatic 171, 3) := by decide +kernel
theorem dX10_halt_6 : decode cX10_halt 6 = .ok (.ifCond .ne 9, 3) := by decide +kernel
theorem dX10_halt_9 : decode cX10_halt 9 = .ok (.aload_n 0, 1) := by decide +kernel
theorem dX10_halt_10 : decode cX10_halt 10 = .ok (.iconst 1, 1) := by decide +kernel
theorem dX10_halt_11 : decode cX10_halt 11 = .ok (.invokevirtual 160, 3) := by decide +kernel
theorem dX10_halt_14 : decode cX10_halt 14 = .ok (.ireturn, 1) := by decide +kernel
theorem dX10_halt_15 : decode cX10_halt 15 = .ok (.aload_n 0, 1) := by decide +kernel
theorem dX10_halt_16 : decode cX10_halt 16 = .ok (.getfield 82, 3) := by decide +kernel
theorem dX10_halt_19 : decode cX10_halt 19 = .ok (.iconst 4, 1) := by decide +kernel
theorem dX10_halt_20 : decode cX10_halt 20 = .ok (.iaload, 1) := by decide +kernel
theorem dX10_halt_21 : decode cX10_halt 21 = .ok (.ifCond .eq 14, 3) := by decide +kernel
theorem dX10_halt_24 : decode cX10_halt 24 = .ok (.aload_n 0, 1) := by decide +kernel
theorem dX10_halt_25 : decode cX10_halt 25 = .ok (.getfield 82, 3) := by decide +kernel
theorem dX10_halt_28 : decode cX10_halt 28 = .ok (.bipush 6, 2) := by decide +kernel
theorem dX10_halt_30 : decode cX10_halt 30 = .ok (.iaload, 1) := by decide +kernel
theorem dX10_halt_31 : decode cX10_halt 31 = .ok (.iload_n 1, 1) := by decide +kernel
theorem dX10_halt_32 : decode cX10_halt 32 = .ok (.if_icmp .ne 9, 3) := by decide +kernel
theorem dX10_halt_35 : decode cX10_halt 35 = .ok (.aload_n 0, 1) := by decide +kernel
theorem dX10_halt_36 : decode cX10_halt 36 = .ok (.iconst 3, 1) := by decide +kernel
theorem dX10_halt_37 : decode cX10_halt 37 = .ok (.invokevirtual 160, 3) := by decide +kernel
theorem dX10_halt_40 : decode cX10_halt 40 = .ok (.ireturn, 1) := by decide +kernel
theorem dX10_halt_41 : decode cX10_halt 41 = .ok (.aload_n 0, 1) := by decide +kernel
theorem dX10_halt_42 : decode cX10_halt 42 = .ok (.getfield 82, 3) := by decide +kernel
theorem dX10_halt_45 : decode cX10_halt 45 = .ok (.bipush 6, 2) := by decide +kernel
theorem dX10_halt_47 : decode cX10_halt 47 = .ok (.iload_n 1, 1) := by decide +kernel
theorem dX10_halt_48 : decode cX10_halt 48 = .ok (.iastore, 1) := by decide +kernel
theorem dX10_halt_49 : decode cX10_halt 49 = .ok (.iconst 1, 1) := by decide +kernel
theorem dX10_halt_50 : decode cX10_halt 50 = .ok (.ireturn, 1) := by decide +kernel
theorem dX10_abort_0 : decode cX10_abort 0 = .ok (.aload_n 0, 1) := by decide +kernel
theorem dX10_abort_1 : decode cX10_abort 1 = .ok (.getfield 82, 3) := by decide +kernel
theorem dX10_abort_4 : decode cX10_abort 4 = .ok (.iconst 4, 1) := by decide +kernel
theorem dX10_abort_5 : decode cX10_abort 5 = .ok (.iaload, 1) := by decide +kernel
theorem dX10_abort_6 : decode cX10_abort 6 = .ok (.ifCond .ne 9, 3) := by decide +kernel
theorem dX10_abort_9 : decode cX10_abort 9 = .ok (.aload_n 0, 1) := by decide +kernel
theorem dX10_abort_10 : decode cX10_abort 10 = .ok (.iconst 3, 1) := by decide +kernel
theorem dX10_abort_11 : decode cX10_abort 11 = .ok (.invokevirtual 160, 3) := by decide +kernel
theorem dX10_abort_14 : decode cX10_abort 14 = .ok (.ireturn, 1) := by decide +kernel
theorem dX10_abort_15 : decode cX10_abort 15 = .ok (.aload_n 0, 1) := by decide +kernel
theorem dX10_abort_16 : decode cX10_abort 16 = .ok (.invokevirtual 225, 3) := by decide +kernel
theorem dX10_abort_19 : decode cX10_abort 19 = .ok (.aload_n 0, 1) := by decide +kernel
theorem dX10_abort_20 : decode cX10_abort 20 = .ok (.getfield 82, 3) := by decide +kernel
theorem dX10_abort_23 : decode cX10_abort 23 = .ok (.iconst 4, 1) := by decide +kernel
theorem dX10_abort_24 : decode cX10_abort 24 = .ok (.iaload, 1) := by decide +kernel
theorem dX10_abort_25 : decode cX10_abort 25 = .ok (.ireturn, 1) := by decide +kernel
theorem dX10_text_0 : decode cX10_text 0 = .ok (.iload_n 1, 1) := by decide +kernel
theorem dX10_text_1 : decode cX10_text 1 = .ok (.iconst 0, 1) := by decide +kernel
theorem dX10_text_2 : decode cX10_text 2 = .ok (.bipush 6, 2) := by decide +kernel
theorem dX10_text_4 : decode cX10_text 4 = .ok (.invokestatic 171, 3) := by decide +kernel
theorem dX10_text_7 : decode cX10_text 7 = .ok (.ifCond .ne 9, 3) := by decide +kernel
theorem dX10_text_10 : decode cX10_text 10 = .ok (.aload_n 0, 1) := by decide +kernel
theorem dX10_text_11 : decode cX10_text 11 = .ok (.iconst 1, 1) := by decide +kernel
theorem dX10_text_12 : decode cX10_text 12 = .ok (.invokevirtual 160, 3) := by decide +kernel
theorem dX10_text_15 : decode cX10_text 15 = .ok (.ireturn, 1) := by decide +kernel
theorem dX10_text_16 : decode cX10_text 16 = .ok (.aload_n 0, 1) := by decide +kernel
theorem dX10_text_17 : decode cX10_text 17 = .ok (.getfield 82, 3) := by decide +kernel
theorem dX10_text_20 : decode cX10_text 20 = .ok (.iconst 4, 1) := by decide +kernel
theorem dX10_text_21 : decode cX10_text 21 = .ok (.iload_n 1, 1) := by decide +kernel
theorem dX10_text_22 : decode cX10_text 22 = .ok (.iadd, 1) := by decide +kernel
theorem dX10_text_23 : decode cX10_text 23 = .ok (.iaload, 1) := by decide +kernel
theorem dX10_text_24 : decode cX10_text 24 = .ok (.ireturn, 1) := by decide +kernel
theorem dX10_mendAll_0 : decode cX10_mendAll 0 = .ok (.iconst 0, 1) := by decide +kernel
theorem dX10_mendAll_1 : decode cX10_mendAll 1 = .ok (.istore_n 1, 1) := by decide +kernel
theorem dX10_mendAll_2 : decode cX10_mendAll 2 = .ok (.iload_n 1, 1) := by decide +kernel
theorem dX10_mendAll_3 : decode cX10_mendAll 3 = .ok (.aload_n 0, 1) := by decide +kernel
theorem dX10_mendAll_4 : decode cX10_mendAll 4 = .ok (.getfield 154, 3) := by decide +kernel
theorem dX10_mendAll_7 : decode cX10_mendAll 7 = .ok (.if_icmp .ge 68, 3) := by decide +kernel
theorem dX10_mendAll_10 : decode cX10_mendAll 10 = .ok (.aload_n 0, 1) := by decide +kernel
theorem dX10_mendAll_11 : decode cX10_mendAll 11 = .ok (.getfield 37, 3) := by decide +kernel
theorem dX10_mendAll_14 : decode cX10_mendAll 14 = .ok (.iload_n 1, 1) := by decide +kernel
theorem dX10_mendAll_15 : decode cX10_mendAll 15 = .ok (.iaload, 1) := by decide +kernel
theorem dX10_mendAll_16 : decode cX10_mendAll 16 = .ok (.ifCond .lt 53, 3) := by decide +kernel
theorem dX10_mendAll_19 : decode cX10_mendAll 19 = .ok (.aload_n 0, 1) := by decide +kernel
theorem dX10_mendAll_20 : decode cX10_mendAll 20 = .ok (.getfield 40, 3) := by decide +kernel
theorem dX10_mendAll_23 : decode cX10_mendAll 23 = .ok (.iload_n 1, 1) := by decide +kernel
theorem dX10_mendAll_24 : decode cX10_mendAll 24 = .ok (.dup2, 1) := by decide +kernel
theorem dX10_mendAll_25 : decode cX10_mendAll 25 = .ok (.iaload, 1) := by decide +kernel
theorem dX10_mendAll_26 : decode cX10_mendAll 26 = .ok (.iconst 1, 1) := by decide +kernel
theorem dX10_mendAll_27 : decode cX10_mendAll 27 = .ok (.isub, 1) := by decide +kernel
theorem dX10_mendAll_28 : decode cX10_mendAll 28 = .ok (.iastore, 1) := by decide +kernel
theorem dX10_mendAll_29 : decode cX10_mendAll 29 = .ok (.aload_n 0, 1) := by decide +kernel
theorem dX10_mendAll_30 : decode cX10_mendAll 30 = .ok (.getfield 40, 3) := by decide +kernel
theorem dX10_mendAll_33 : decode cX10_mendAll 33 = .ok (.iload_n 1, 1) := by decide +kernel
theorem dX10_mendAll_34 : decode cX10_mendAll 34 = .ok (.iaload, 1) := by decide +kernel
theorem dX10_mendAll_35 : decode cX10_mendAll 35 = .ok (.ifCond .ne 34, 3) := by decide +kernel
theorem dX10_mendAll_38 : decode cX10_mendAll 38 = .ok (.aload_n 0, 1) := by decide +kernel
theorem dX10_mendAll_39 : decode cX10_mendAll 39 = .ok (.getfield 73, 3) := by decide +kernel
theorem dX10_mendAll_42 : decode cX10_mendAll 42 = .ok (.aload_n 0, 1) := by decide +kernel
theorem dX10_mendAll_43 : decode cX10_mendAll 43 = .ok (.getfield 37, 3) := by decide +kernel
theorem dX10_mendAll_46 : decode cX10_mendAll 46 = .ok (.iload_n 1, 1) := by decide +kernel
theorem dX10_mendAll_47 : decode cX10_mendAll 47 = .ok (.iaload, 1) := by decide +kernel
theorem dX10_mendAll_48 : decode cX10_mendAll 48 = .ok (.iconst 0, 1) := by decide +kernel
theorem dX10_mendAll_49 : decode cX10_mendAll 49 = .ok (.iastore, 1) := by decide +kernel
theorem dX10_mendAll_50 : decode cX10_mendAll 50 = .ok (.aload_n 0, 1) := by decide +kernel
theorem dX10_mendAll_51 : decode cX10_mendAll 51 = .ok (.getfield 67, 3) := by decide +kernel
theorem dX10_mendAll_54 : decode cX10_mendAll 54 = .ok (.aload_n 0, 1) := by decide +kernel
theorem dX10_mendAll_55 : decode cX10_mendAll 55 = .ok (.getfield 37, 3) := by decide +kernel
theorem dX10_mendAll_58 : decode cX10_mendAll 58 = .ok (.iload_n 1, 1) := by decide +kernel
theorem dX10_mendAll_59 : decode cX10_mendAll 59 = .ok (.iaload, 1) := by decide +kernel
theorem dX10_mendAll_60 : decode cX10_mendAll 60 = .ok (.iconst 0, 1) := by decide +kernel
theorem dX10_mendAll_61 : decode cX10_mendAll 61 = .ok (.iastore, 1) := by decide +kernel
theorem dX10_mendAll_62 : decode cX10_mendAll 62 = .ok (.aload_n 0, 1) := by decide +kernel
theorem dX10_mendAll_63 : decode cX10_mendAll 63 = .ok (.getfield 37, 3) := by decide +kernel
theorem dX10_mendAll_66 : decode cX10_mendAll 66 = .ok (.iload_n 1, 1) := by decide +kernel
theorem dX10_mendAll_67 : decode cX10_mendAll 67 = .ok (.iconst (-1), 1) := by decide +kernel
theorem dX10_mendAll_68 : decode cX10_mendAll 68 = .ok (.iastore, 1) := by decide +kernel
theorem dX10_mendAll_69 : decode cX10_mendAll 69 = .ok (.iinc 1 1, 3) := by decide +kernel
theorem dX10_mendAll_72 : decode cX10_mendAll 72 = .ok (.goto (-70), 3) := by decide +kernel
theorem dX10_mendAll_75 : decode cX10_mendAll 75 = .ok (.return_, 1) := by decide +kernel
theorem dX10_feedAll_0 : decode cX10_feedAll 0 = .ok (.aload_n 0, 1) := by decide +kernel
theorem dX10_feedAll_1 : decode cX10_feedAll 1 = .ok (.getfield 82, 3) := by decide +kernel
theorem dX10_feedAll_4 : decode cX10_feedAll 4 = .ok (.iconst 1, 1) := by decide +kernel
theorem dX10_feedAll_5 : decode cX10_feedAll 5 = .ok (.iaload, 1) := by decide +kernel
theorem dX10_feedAll_6 : decode cX10_feedAll 6 = .ok (.aload_n 0, 1) := by decide +kernel
theorem dX10_feedAll_7 : decode cX10_feedAll 7 = .ok (.getfield 82, 3) := by decide +kernel
theorem dX10_feedAll_10 : decode cX10_feedAll 10 = .ok (.iconst 0, 1) := by decide +kernel
theorem dX10_feedAll_11 : decode cX10_feedAll 11 = .ok (.iaload, 1) := by decide +kernel
theorem dX10_feedAll_12 : decode cX10_feedAll 12 = .ok (.bipush 9, 2) := by decide +kernel
theorem dX10_feedAll_14 : decode cX10_feedAll 14 = .ok (.irem, 1) := by decide +kernel
theorem dX10_feedAll_15 : decode cX10_feedAll 15 = .ok (.bipush 6, 2) := by decide +kernel
theorem dX10_feedAll_17 : decode cX10_feedAll 17 = .ok (.if_icmp .ge 10, 3) := by decide +kernel
theorem dX10_feedAll_20 : decode cX10_feedAll 20 = .ok (.aload_n 0, 1) := by decide +kernel
theorem dX10_feedAll_21 : decode cX10_feedAll 21 = .ok (.getfield 228, 3) := by decide +kernel
theorem dX10_feedAll_24 : decode cX10_feedAll 24 = .ok (.goto 4, 3) := by decide +kernel
theorem dX10_feedAll_27 : decode cX10_feedAll 27 = .ok (.iconst 0, 1) := by decide +kernel
theorem dX10_feedAll_28 : decode cX10_feedAll 28 = .ok (.iadd, 1) := by decide +kernel
theorem dX10_feedAll_29 : decode cX10_feedAll 29 = .ok (.istore_n 1, 1) := by decide +kernel
theorem dX10_feedAll_30 : decode cX10_feedAll 30 = .ok (.iconst 0, 1) := by decide +kernel
theorem dX10_feedAll_31 : decode cX10_feedAll 31 = .ok (.istore_n 2, 1) := by decide +kernel
theorem dX10_feedAll_32 : decode cX10_feedAll 32 = .ok (.iload_n 2, 1) := by decide +kernel
theorem dX10_feedAll_33 : decode cX10_feedAll 33 = .ok (.aload_n 0, 1) := by decide +kernel
theorem dX10_feedAll_34 : decode cX10_feedAll 34 = .ok (.getfield 157, 3) := by decide +kernel
theorem dX10_feedAll_37 : decode cX10_feedAll 37 = .ok (.if_icmp .ge 65, 3) := by decide +kernel
theorem dX10_feedAll_40 : decode cX10_feedAll 40 = .ok (.aload_n 0, 1) := by decide +kernel
theorem dX10_feedAll_41 : decode cX10_feedAll 41 = .ok (.iload_n 2, 1) := by decide +kernel
theorem dX10_feedAll_42 : decode cX10_feedAll 42 = .ok (.invokevirtual 198, 3) := by decide +kernel
theorem dX10_feedAll_45 : decode cX10_feedAll 45 = .ok (.ifCond .eq 17, 3) := by decide +kernel
theorem dX10_feedAll_48 : decode cX10_feedAll 48 = .ok (.iload_n 1, 1) := by decide +kernel
theorem dX10_feedAll_49 : decode cX10_feedAll 49 = .ok (.aload_n 0, 1) := by decide +kernel
theorem dX10_feedAll_50 : decode cX10_feedAll 50 = .ok (.getfield 58, 3) := by decide +kernel
theorem dX10_feedAll_53 : decode cX10_feedAll 53 = .ok (.iload_n 2, 1) := by decide +kernel
theorem dX10_feedAll_54 : decode cX10_feedAll 54 = .ok (.iaload, 1) := by decide +kernel
theorem dX10_feedAll_55 : decode cX10_feedAll 55 = .ok (.if_icmp .lt 7, 3) := by decide +kernel
theorem dX10_feedAll_58 : decode cX10_feedAll 58 = .ok (.iconst 1, 1) := by decide +kernel
theorem dX10_feedAll_59 : decode cX10_feedAll 59 = .ok (.goto 4, 3) := by decide +kernel
theorem dX10_feedAll_62 : decode cX10_feedAll 62 = .ok (.iconst 0, 1) := by decide +kernel
theorem dX10_feedAll_63 : decode cX10_feedAll 63 = .ok (.istore_n 3, 1) := by decide +kernel
theorem dX10_feedAll_64 : decode cX10_feedAll 64 = .ok (.aload_n 0, 1) := by decide +kernel
theorem dX10_feedAll_65 : decode cX10_feedAll 65 = .ok (.getfield 76, 3) := by decide +kernel
theorem dX10_feedAll_68 : decode cX10_feedAll 68 = .ok (.iload_n 2, 1) := by decide +kernel
theorem dX10_feedAll_69 : decode cX10_feedAll 69 = .ok (.iload_n 3, 1) := by decide +kernel
theorem dX10_feedAll_70 : decode cX10_feedAll 70 = .ok (.ifCond .eq 7, 3) := by decide +kernel
theorem dX10_feedAll_73 : decode cX10_feedAll 73 = .ok (.iconst 1, 1) := by decide +kernel
theorem dX10_feedAll_74 : decode cX10_feedAll 74 = .ok (.goto 4, 3) := by decide +kernel
theorem dX10_feedAll_77 : decode cX10_feedAll 77 = .ok (.iconst 0, 1) := by decide +kernel
theorem dX10_feedAll_78 : decode cX10_feedAll 78 = .ok (.iastore, 1) := by decide +kernel
theorem dX10_feedAll_79 : decode cX10_feedAll 79 = .ok (.iload_n 1, 1) := by decide +kernel
theorem dX10_feedAll_80 : decode cX10_feedAll 80 = .ok (.iload_n 3, 1) := by decide +kernel
theorem dX10_feedAll_81 : decode cX10_feedAll 81 = .ok (.ifCond .eq 12, 3) := by decide +kernel
theorem dX10_feedAll_84 : decode cX10_feedAll 84 = .ok (.aload_n 0, 1) := by decide +kernel
theorem dX10_feedAll_85 : decode cX10_feedAll 85 = .ok (.getfield 58, 3) := by decide +kernel
theorem dX10_feedAll_88 : decode cX10_feedAll 88 = .ok (.iload_n 2, 1) := by decide +kernel
theorem dX10_feedAll_89 : decode cX10_feedAll 89 = .ok (.iaload, 1) := by decide +kernel
theorem dX10_feedAll_90 : decode cX10_feedAll 90 = .ok (.goto 4, 3) := by decide +kernel
theorem dX10_feedAll_93 : decode cX10_feedAll 93 = .ok (.iconst 0, 1) := by decide +kernel
theorem dX10_feedAll_94 : decode cX10_feedAll 94 = .ok (.isub, 1) := by decide +kernel
theorem dX10_feedAll_95 : decode cX10_feedAll 95 = .ok (.istore_n 1, 1) := by decide +kernel
theorem dX10_feedAll_96 : decode cX10_feedAll 96 = .ok (.iinc 2 1, 3) := by decide +kernel
theorem dX10_feedAll_99 : decode cX10_feedAll 99 = .ok (.goto (-67), 3) := by decide +kernel
theorem dX10_feedAll_102 : decode cX10_feedAll 102 = .ok (.aload_n 0, 1) := by decide +kernel
theorem dX10_feedAll_103 : decode cX10_feedAll 103 = .ok (.getfield 82, 3) := by decide +kernel
theorem dX10_feedAll_106 : decode cX10_feedAll 106 = .ok (.iconst 1, 1) := by decide +kernel
theorem dX10_feedAll_107 : decode cX10_feedAll 107 = .ok (.iload_n 1, 1) := by decide +kernel
theorem dX10_feedAll_108 : decode cX10_feedAll 108 = .ok (.aload_n 0, 1) := by decide +kernel
theorem dX10_feedAll_109 : decode cX10_feedAll 109 = .ok (.getfield 85, 3) := by decide +kernel
theorem dX10_feedAll_112 : decode cX10_feedAll 112 = .ok (.if_icmp .le 10, 3) := by decide +kernel
theorem dX10_feedAll_115 : decode cX10_feedAll 115 = .ok (.aload_n 0, 1) := by decide +kernel
theorem dX10_feedAll_116 : decode cX10_feedAll 116 = .ok (.getfield 85, 3) := by decide +kernel
theorem dX10_feedAll_119 : decode cX10_feedAll 119 = .ok (.goto 4, 3) := by decide +kernel
theorem dX10_feedAll_122 : decode cX10_feedAll 122 = .ok (.iload_n 1, 1) := by decide +kernel
theorem dX10_feedAll_123 : decode cX10_feedAll 123 = .ok (.iastore, 1) := by decide +kernel
theorem dX10_feedAll_124 : decode cX10_feedAll 124 = .ok (.return_, 1) := by decide +kernel
theorem dX10_lesser_0 : decode cX10_lesser 0 = .ok (.iload_n 0, 1) := by decide +kernel
theorem dX10_lesser_1 : decode cX10_lesser 1 = .ok (.iload_n 1, 1) := by decide +kernel
theorem dX10_lesser_2 : decode cX10_lesser 2 = .ok (.if_icmp .ge 7, 3) := by decide +kernel
theorem dX10_lesser_5 : decode cX10_lesser 5 = .ok (.iload_n 0, 1) := by decide +kernel
theorem dX10_lesser_6 : decode cX10_lesser 6 = .ok (.goto 4, 3) := by decide +kernel
theorem dX10_lesser_9 : decode cX10_lesser 9 = .ok (.iload_n 1, 1) := by decide +kernel
theorem dX10_lesser_10 : decode cX10_lesser 10 = .ok (.ireturn, 1) := by decide +kernel
theorem dX10_workOf_0 : decode cX10_workOf 0 = .ok (.iconst 4, 1) := by decide +kernel
theorem dX10_workOf_1 : decode cX10_workOf 1 = .ok (.aload_n 0, 1) := by decide +kernel
theorem dX10_workOf_2 : decode cX10_workOf 2 = .ok (.getfield 52, 3) := by decide +kernel
theorem dX10_workOf_5 : decode cX10_workOf 5 = .ok (.iload_n 1, 1) := by decide +kernel
theorem dX10_workOf_6 : decode cX10_workOf 6 = .ok (.iaload, 1) := by decide +kernel
theorem dX10_workOf_7 : decode cX10_workOf 7 = .ok (.imul, 1) := by decide +kernel
theorem dX10_workOf_8 : decode cX10_workOf 8 = .ok (.istore_n 2, 1) := by decide +kernel
theorem dX10_workOf_9 : decode cX10_workOf 9 = .ok (.aload_n 0, 1) := by decide +kernel
theorem dX10_workOf_10 : decode cX10_workOf 10 = .ok (.getfield 49, 3) := by decide +kernel
theorem dX10_workOf_13 : decode cX10_workOf 13 = .ok (.iload_n 1, 1) := by decide +kernel
theorem dX10_workOf_14 : decode cX10_workOf 14 = .ok (.iaload, 1) := by decide +kernel
theorem dX10_workOf_15 : decode cX10_workOf 15 = .ok (.tableswitch 295 1 5 #[33, 76, 141, 184, 243], 33) := by decide +kernel
theorem dX10_workOf_48 : decode cX10_workOf 48 = .ok (.aload_n 0, 1) := by decide +kernel
theorem dX10_workOf_49 : decode cX10_workOf 49 = .ok (.getfield 55, 3) := by decide +kernel
theorem dX10_workOf_52 : decode cX10_workOf 52 = .ok (.iload_n 1, 1) := by decide +kernel
theorem dX10_workOf_53 : decode cX10_workOf 53 = .ok (.iaload, 1) := by decide +kernel
theorem dX10_workOf_54 : decode cX10_workOf 54 = .ok (.aload_n 0, 1) := by decide +kernel
theorem dX10_workOf_55 : decode cX10_workOf 55 = .ok (.getfield 7, 3) := by decide +kernel
theorem dX10_workOf_58 : decode cX10_workOf 58 = .ok (.iload_n 2, 1) := by decide +kernel
theorem dX10_workOf_59 : decode cX10_workOf 59 = .ok (.iconst 1, 1) := by decide +kernel
theorem dX10_workOf_60 : decode cX10_workOf 60 = .ok (.iadd, 1) := by decide +kernel
theorem dX10_workOf_61 : decode cX10_workOf 61 = .ok (.iaload, 1) := by decide +kernel
theorem dX10_workOf_62 : decode cX10_workOf 62 = .ok (.invokestatic 231, 3) := by decide +kernel
theorem dX10_workOf_65 : decode cX10_workOf 65 = .ok (.istore_n 3, 1) := by decide +kernel
theorem dX10_workOf_66 : decode cX10_workOf 66 = .ok (.aload_n 0, 1) := by decide +kernel
theorem dX10_workOf_67 : decode cX10_workOf 67 = .ok (.getfield 7, 3) := by decide +kernel
theorem dX10_workOf_70 : decode cX10_workOf 70 = .ok (.iload_n 2, 1) := by decide +kernel
theorem dX10_workOf_71 : decode cX10_workOf 71 = .ok (.iconst 1, 1) := by decide +kernel
theorem dX10_workOf_72 : decode cX10_workOf 72 = .ok (.iadd, 1) := by decide +kernel
theorem dX10_workOf_73 : decode cX10_workOf 73 = .ok (.dup2, 1) := by decide +kernel
theorem dX10_workOf_74 : decode cX10_workOf 74 = .ok (.iaload, 1) := by decide +kernel
theorem dX10_workOf_75 : decode cX10_workOf 75 = .ok (.iload_n 3, 1) := by decide +kernel
theorem dX10_workOf_76 : decode cX10_workOf 76 = .ok (.isub, 1) := by decide +kernel
theorem dX10_workOf_77 : decode cX10_workOf 77 = .ok (.iastore, 1) := by decide +kernel
theorem dX10_workOf_78 : decode cX10_workOf 78 = .ok (.aload_n 0, 1) := by decide +kernel
theorem dX10_workOf_79 : decode cX10_workOf 79 = .ok (.getfield 28, 3) := by decide +kernel
theorem dX10_workOf_82 : decode cX10_workOf 82 = .ok (.iconst 3, 1) := by decide +kernel
theorem dX10_workOf_83 : decode cX10_workOf 83 = .ok (.dup2, 1) := by decide +kernel
theorem dX10_workOf_84 : decode cX10_workOf 84 = .ok (.iaload, 1) := by decide +kernel
theorem dX10_workOf_85 : decode cX10_workOf 85 = .ok (.iload_n 3, 1) := by decide +kernel
theorem dX10_workOf_86 : decode cX10_workOf 86 = .ok (.iadd, 1) := by decide +kernel
theorem dX10_workOf_87 : decode cX10_workOf 87 = .ok (.iastore, 1) := by decide +kernel
theorem dX10_workOf_88 : decode cX10_workOf 88 = .ok (.goto 222, 3) := by decide +kernel
theorem dX10_workOf_91 : decode cX10_workOf 91 = .ok (.aload_n 0, 1) := by decide +kernel
theorem dX10_workOf_92 : decode cX10_workOf 92 = .ok (.getfield 55, 3) := by decide +kernel
theorem dX10_workOf_95 : decode cX10_workOf 95 = .ok (.iload_n 1, 1) := by decide +kernel
theorem dX10_workOf_96 : decode cX10_workOf 96 = .ok (.iaload, 1) := by decide +kernel
theorem dX10_workOf_97 : decode cX10_workOf 97 = .ok (.aload_n 0, 1) := by decide +kernel
theorem dX10_workOf_98 : decode cX10_workOf 98 = .ok (.getfield 28, 3) := by decide +kernel
theorem dX10_workOf_101 : decode cX10_workOf 101 = .ok (.iconst 0, 1) := by decide +kernel
theorem dX10_workOf_102 : decode cX10_workOf 102 = .ok (.iaload, 1) := by decide +kernel
theorem dX10_workOf_103 : decode cX10_workOf 103 = .ok (.invokestatic 231, 3) := by decide +kernel
theorem dX10_workOf_106 : decode cX10_workOf 106 = .ok (.istore_n 3, 1) := by decide +kernel
theorem dX10_workOf_107 : decode cX10_workOf 107 = .ok (.aload_n 0, 1) := by decide +kernel
theorem dX10_workOf_108 : decode cX10_workOf 108 = .ok (.getfield 28, 3) := by decide +kernel
theorem dX10_workOf_111 : decode cX10_workOf 111 = .ok (.iconst 0, 1) := by decide +kernel
theorem dX10_workOf_112 : decode cX10_workOf 112 = .ok (.dup2, 1) := by decide +kernel
theorem dX10_workOf_113 : decode cX10_workOf 113 = .ok (.iaload, 1) := by decide +kernel
theorem dX10_workOf_114 : decode cX10_workOf 114 = .ok (.iload_n 3, 1) := by decide +kernel
theorem dX10_workOf_115 : decode cX10_workOf 115 = .ok (.isub, 1) := by decide +kernel
theorem dX10_workOf_116 : decode cX10_workOf 116 = .ok (.iastore, 1) := by decide +kernel
theorem dX10_workOf_117 : decode cX10_workOf 117 = .ok (.aload_n 0, 1) := by decide +kernel
theorem dX10_workOf_118 : decode cX10_workOf 118 = .ok (.getfield 7, 3) := by decide +kernel
theorem dX10_workOf_121 : decode cX10_workOf 121 = .ok (.iload_n 2, 1) := by decide +kernel
theorem dX10_workOf_122 : decode cX10_workOf 122 = .ok (.iconst 0, 1) := by decide +kernel
theorem dX10_workOf_123 : decode cX10_workOf 123 = .ok (.iadd, 1) := by decide +kernel
theorem dX10_workOf_124 : decode cX10_workOf 124 = .ok (.dup2, 1) := by decide +kernel
theorem dX10_workOf_125 : decode cX10_workOf 125 = .ok (.iaload, 1) := by decide +kernel
theorem dX10_workOf_126 : decode cX10_workOf 126 = .ok (.bipush 8, 2) := by decide +kernel
theorem dX10_workOf_128 : decode cX10_workOf 128 = .ok (.iload_n 3, 1) := by decide +kernel
theorem dX10_workOf_129 : decode cX10_workOf 129 = .ok (.imul, 1) := by decide +kernel
theorem dX10_workOf_130 : decode cX10_workOf 130 = .ok (.bipush 9, 2) := by decide +kernel
theorem dX10_workOf_132 : decode cX10_workOf 132 = .ok (.idiv, 1) := by decide +kernel
theorem dX10_workOf_133 : decode cX10_workOf 133 = .ok (.iadd, 1) := by decide +kernel
theorem dX10_workOf_134 : decode cX10_workOf 134 = .ok (.iastore, 1) := by decide +kernel
theorem dX10_workOf_135 : decode cX10_workOf 135 = .ok (.aload_n 0, 1) := by decide +kernel
theorem dX10_workOf_136 : decode cX10_workOf 136 = .ok (.getfield 28, 3) := by decide +kernel
theorem dX10_workOf_139 : decode cX10_workOf 139 = .ok (.iconst 4, 1) := by decide +kernel
theorem dX10_workOf_140 : decode cX10_workOf 140 = .ok (.dup2, 1) := by decide +kernel
theorem dX10_workOf_141 : decode cX10_workOf 141 = .ok (.iaload, 1) := by decide +kernel
theorem dX10_workOf_142 : decode cX10_workOf 142 = .ok (.iload_n 3, 1) := by decide +kernel
theorem dX10_workOf_143 : decode cX10_workOf 143 = .ok (.bipush 8, 2) := by decide +kernel
theorem dX10_workOf_145 : decode cX10_workOf 145 = .ok (.iload_n 3, 1) := by decide +kernel
theorem dX10_workOf_146 : decode cX10_workOf 146 = .ok (.imul, 1) := by decide +kernel
theorem dX10_workOf_147 : decode cX10_workOf 147 = .ok (.bipush 9, 2) := by decide +kernel
theorem dX10_workOf_149 : decode cX10_workOf 149 = .ok (.idiv, 1) := by decide +kernel
theorem dX10_workOf_150 : decode cX10_workOf 150 = .ok (.isub, 1) := by decide +kernel
theorem dX10_workOf_151 : decode cX10_workOf 151 = .ok (.iadd, 1) := by decide +kernel
theorem dX10_workOf_152 : decode cX10_workOf 152 = .ok (.iastore, 1) := by decide +kernel
theorem dX10_workOf_153 : decode cX10_workOf 153 = .ok (.goto 157, 3) := by decide +kernel
theorem dX10_workOf_156 : decode cX10_workOf 156 = .ok (.aload_n 0, 1) := by decide +kernel
theorem dX10_workOf_157 : decode cX10_workOf 157 = .ok (.getfield 55, 3) := by decide +kernel
theorem dX10_workOf_160 : decode cX10_workOf 160 = .ok (.iload_n 1, 1) := by decide +kernel
theorem dX10_workOf_161 : decode cX10_workOf 161 = .ok (.iaload, 1) := by decide +kernel
theorem dX10_workOf_162 : decode cX10_workOf 162 = .ok (.aload_n 0, 1) := by decide +kernel
theorem dX10_workOf_163 : decode cX10_workOf 163 = .ok (.getfield 7, 3) := by decide +kernel
theorem dX10_workOf_166 : decode cX10_workOf 166 = .ok (.iload_n 2, 1) := by decide +kernel
theorem dX10_workOf_167 : decode cX10_workOf 167 = .ok (.iconst 2, 1) := by decide +kernel
theorem dX10_workOf_168 : decode cX10_workOf 168 = .ok (.iadd, 1) := by decide +kernel
theorem dX10_workOf_169 : decode cX10_workOf 169 = .ok (.iaload, 1) := by decide +kernel
theorem dX10_workOf_170 : decode cX10_workOf 170 = .ok (.invokestatic 231, 3) := by decide +kernel
theorem dX10_workOf_173 : decode cX10_workOf 173 = .ok (.istore_n 3, 1) := by decide +kernel
theorem dX10_workOf_174 : decode cX10_workOf 174 = .ok (.aload_n 0, 1) := by decide +kernel
theorem dX10_workOf_175 : decode cX10_workOf 175 = .ok (.getfield 7, 3) := by decide +kernel
theorem dX10_workOf_178 : decode cX10_workOf 178 = .ok (.iload_n 2, 1) := by decide +kernel
theorem dX10_workOf_179 : decode cX10_workOf 179 = .ok (.iconst 2, 1) := by decide +kernel
theorem dX10_workOf_180 : decode cX10_workOf 180 = .ok (.iadd, 1) := by decide +kernel
theorem dX10_workOf_181 : decode cX10_workOf 181 = .ok (.dup2, 1) := by decide +kernel
theorem dX10_workOf_182 : decode cX10_workOf 182 = .ok (.iaload, 1) := by decide +kernel
theorem dX10_workOf_183 : decode cX10_workOf 183 = .ok (.iload_n 3, 1) := by decide +kernel
theorem dX10_workOf_184 : decode cX10_workOf 184 = .ok (.isub, 1) := by decide +kernel
theorem dX10_workOf_185 : decode cX10_workOf 185 = .ok (.iastore, 1) := by decide +kernel
theorem dX10_workOf_186 : decode cX10_workOf 186 = .ok (.aload_n 0, 1) := by decide +kernel
theorem dX10_workOf_187 : decode cX10_workOf 187 = .ok (.getfield 28, 3) := by decide +kernel
theorem dX10_workOf_190 : decode cX10_workOf 190 = .ok (.iconst 0, 1) := by decide +kernel
theorem dX10_workOf_191 : decode cX10_workOf 191 = .ok (.dup2, 1) := by decide +kernel
theorem dX10_workOf_192 : decode cX10_workOf 192 = .ok (.iaload, 1) := by decide +kernel
theorem dX10_workOf_193 : decode cX10_workOf 193 = .ok (.iload_n 3, 1) := by decide +kernel
theorem dX10_workOf_194 : decode cX10_workOf 194 = .ok (.iadd, 1) := by decide +kernel
theorem dX10_workOf_195 : decode cX10_workOf 195 = .ok (.iastore, 1) := by decide +kernel
theorem dX10_workOf_196 : decode cX10_workOf 196 = .ok (.goto 114, 3) := by decide +kernel
theorem dX10_workOf_199 : decode cX10_workOf 199 = .ok (.aload_n 0, 1) := by decide +kernel
theorem dX10_workOf_200 : decode cX10_workOf 200 = .ok (.getfield 55, 3) := by decide +kernel
theorem dX10_workOf_203 : decode cX10_workOf 203 = .ok (.iload_n 1, 1) := by decide +kernel
theorem dX10_workOf_204 : decode cX10_workOf 204 = .ok (.iaload, 1) := by decide +kernel
theorem dX10_workOf_205 : decode cX10_workOf 205 = .ok (.aload_n 0, 1) := by decide +kernel
theorem dX10_workOf_206 : decode cX10_workOf 206 = .ok (.getfield 28, 3) := by decide +kernel
theorem dX10_workOf_209 : decode cX10_workOf 209 = .ok (.iconst 1, 1) := by decide +kernel
theorem dX10_workOf_210 : decode cX10_workOf 210 = .ok (.iaload, 1) := by decide +kernel
theorem dX10_workOf_211 : decode cX10_workOf 211 = .ok (.invokestatic 231, 3) := by decide +kernel
theorem dX10_workOf_214 : decode cX10_workOf 214 = .ok (.istore_n 3, 1) := by decide +kernel
theorem dX10_workOf_215 : decode cX10_workOf 215 = .ok (.aload_n 0, 1) := by decide +kernel
theorem dX10_workOf_216 : decode cX10_workOf 216 = .ok (.getfield 28, 3) := by decide +kernel
theorem dX10_workOf_219 : decode cX10_workOf 219 = .ok (.iconst 1, 1) := by decide +kernel
theorem dX10_workOf_220 : decode cX10_workOf 220 = .ok (.dup2, 1) := by decide +kernel
theorem dX10_workOf_221 : decode cX10_workOf 221 = .ok (.iaload, 1) := by decide +kernel
theorem dX10_workOf_222 : decode cX10_workOf 222 = .ok (.iload_n 3, 1) := by decide +kernel
theorem dX10_workOf_223 : decode cX10_workOf 223 = .ok (.isub, 1) := by decide +kernel
theorem dX10_workOf_224 : decode cX10_workOf 224 = .ok (.iastore, 1) := by decide +kernel
theorem dX10_workOf_225 : decode cX10_workOf 225 = .ok (.aload_n 0, 1) := by decide +kernel
theorem dX10_workOf_226 : decode cX10_workOf 226 = .ok (.getfield 28, 3) := by decide +kernel
theorem dX10_workOf_229 : decode cX10_workOf 229 = .ok (.iconst 0, 1) := by decide +kernel
theorem dX10_workOf_230 : decode cX10_workOf 230 = .ok (.dup2, 1) := by decide +kernel
theorem dX10_workOf_231 : decode cX10_workOf 231 = .ok (.iaload, 1) := by decide +kernel
theorem dX10_workOf_232 : decode cX10_workOf 232 = .ok (.iconst 3, 1) := by decide +kernel
theorem dX10_workOf_233 : decode cX10_workOf 233 = .ok (.iload_n 3, 1) := by decide +kernel
theorem dX10_workOf_234 : decode cX10_workOf 234 = .ok (.imul, 1) := by decide +kernel
theorem dX10_workOf_235 : decode cX10_workOf 235 = .ok (.iconst 4, 1) := by decide +kernel
theorem dX10_workOf_236 : decode cX10_workOf 236 = .ok (.idiv, 1) := by decide +kernel
theorem dX10_workOf_237 : decode cX10_workOf 237 = .ok (.iadd, 1) := by decide +kernel
theorem dX10_workOf_238 : decode cX10_workOf 238 = .ok (.iastore, 1) := by decide +kernel
theorem dX10_workOf_239 : decode cX10_workOf 239 = .ok (.aload_n 0, 1) := by decide +kernel
theorem dX10_workOf_240 : decode cX10_workOf 240 = .ok (.getfield 28, 3) := by decide +kernel
theorem dX10_workOf_243 : decode cX10_workOf 243 = .ok (.iconst 2, 1) := by decide +kernel
theorem dX10_workOf_244 : decode cX10_workOf 244 = .ok (.dup2, 1) := by decide +kernel
theorem dX10_workOf_245 : decode cX10_workOf 245 = .ok (.iaload, 1) := by decide +kernel
theorem dX10_workOf_246 : decode cX10_workOf 246 = .ok (.iload_n 3, 1) := by decide +kernel
theorem dX10_workOf_247 : decode cX10_workOf 247 = .ok (.iconst 3, 1) := by decide +kernel
theorem dX10_workOf_248 : decode cX10_workOf 248 = .ok (.iload_n 3, 1) := by decide +kernel
theorem dX10_workOf_249 : decode cX10_workOf 249 = .ok (.imul, 1) := by decide +kernel
theorem dX10_workOf_250 : decode cX10_workOf 250 = .ok (.iconst 4, 1) := by decide +kernel
theorem dX10_workOf_251 : decode cX10_workOf 251 = .ok (.idiv, 1) := by decide +kernel
theorem dX10_workOf_252 : decode cX10_workOf 252 = .ok (.isub, 1) := by decide +kernel
theorem dX10_workOf_253 : decode cX10_workOf 253 = .ok (.iadd, 1) := by decide +kernel
theorem dX10_workOf_254 : decode cX10_workOf 254 = .ok (.iastore, 1) := by decide +kernel
theorem dX10_workOf_255 : decode cX10_workOf 255 = .ok (.goto 55, 3) := by decide +kernel
theorem dX10_workOf_258 : decode cX10_workOf 258 = .ok (.bipush 10, 2) := by decide +kernel
theorem dX10_workOf_260 : decode cX10_workOf 260 = .ok (.aload_n 0, 1) := by decide +kernel
theorem dX10_workOf_261 : decode cX10_workOf 261 = .ok (.getfield 55, 3) := by decide +kernel
theorem dX10_workOf_264 : decode cX10_workOf 264 = .ok (.iload_n 1, 1) := by decide +kernel
theorem dX10_workOf_265 : decode cX10_workOf 265 = .ok (.iaload, 1) := by decide +kernel
theorem dX10_workOf_266 : decode cX10_workOf 266 = .ok (.imul, 1) := by decide +kernel
theorem dX10_workOf_267 : decode cX10_workOf 267 = .ok (.aload_n 0, 1) := by decide +kernel
theorem dX10_workOf_268 : decode cX10_workOf 268 = .ok (.getfield 13, 3) := by decide +kernel
theorem dX10_workOf_271 : decode cX10_workOf 271 = .ok (.aload_n 0, 1) := by decide +kernel
theorem dX10_workOf_272 : decode cX10_workOf 272 = .ok (.getfield 52, 3) := by decide +kernel
theorem dX10_workOf_275 : decode cX10_workOf 275 = .ok (.iload_n 1, 1) := by decide +kernel
theorem dX10_workOf_276 : decode cX10_workOf 276 = .ok (.iaload, 1) := by decide +kernel
theorem dX10_workOf_277 : decode cX10_workOf 277 = .ok (.iaload, 1) := by decide +kernel
theorem dX10_workOf_278 : decode cX10_workOf 278 = .ok (.invokestatic 231, 3) := by decide +kernel
theorem dX10_workOf_281 : decode cX10_workOf 281 = .ok (.istore_n 3, 1) := by decide +kernel
theorem dX10_workOf_282 : decode cX10_workOf 282 = .ok (.aload_n 0, 1) := by decide +kernel
theorem dX10_workOf_283 : decode cX10_workOf 283 = .ok (.getfield 13, 3) := by decide +kernel
theorem dX10_workOf_286 : decode cX10_workOf 286 = .ok (.aload_n 0, 1) := by decide +kernel
theorem dX10_workOf_287 : decode cX10_workOf 287 = .ok (.getfield 52, 3) := by decide +kernel
theorem dX10_workOf_290 : decode cX10_workOf 290 = .ok (.iload_n 1, 1) := by decide +kernel
theorem dX10_workOf_291 : decode cX10_workOf 291 = .ok (.iaload, 1) := by decide +kernel
theorem dX10_workOf_292 : decode cX10_workOf 292 = .ok (.dup2, 1) := by decide +kernel
theorem dX10_workOf_293 : decode cX10_workOf 293 = .ok (.iaload, 1) := by decide +kernel
theorem dX10_workOf_294 : decode cX10_workOf 294 = .ok (.iload_n 3, 1) := by decide +kernel
theorem dX10_workOf_295 : decode cX10_workOf 295 = .ok (.isub, 1) := by decide +kernel
theorem dX10_workOf_296 : decode cX10_workOf 296 = .ok (.iastore, 1) := by decide +kernel
theorem dX10_workOf_297 : decode cX10_workOf 297 = .ok (.aload_n 0, 1) := by decide +kernel
theorem dX10_workOf_298 : decode cX10_workOf 298 = .ok (.getfield 28, 3) := by decide +kernel
theorem dX10_workOf_301 : decode cX10_workOf 301 = .ok (.iconst 5, 1) := by decide +kernel
theorem dX10_workOf_302 : decode cX10_workOf 302 = .ok (.dup2, 1) := by decide +kernel
theorem dX10_workOf_303 : decode cX10_workOf 303 = .ok (.iaload, 1) := by decide +kernel
theorem dX10_workOf_304 : decode cX10_workOf 304 = .ok (.iload_n 3, 1) := by decide +kernel
theorem dX10_workOf_305 : decode cX10_workOf 305 = .ok (.iadd, 1) := by decide +kernel
theorem dX10_workOf_306 : decode cX10_workOf 306 = .ok (.iastore, 1) := by decide +kernel
theorem dX10_workOf_307 : decode cX10_workOf 307 = .ok (.goto 3, 3) := by decide +kernel
theorem dX10_workOf_310 : decode cX10_workOf 310 = .ok (.aload_n 0, 1) := by decide +kernel
theorem dX10_workOf_311 : decode cX10_workOf 311 = .ok (.getfield 67, 3) := by decide +kernel
theorem dX10_workOf_314 : decode cX10_workOf 314 = .ok (.iload_n 1, 1) := by decide +kernel
theorem dX10_workOf_315 : decode cX10_workOf 315 = .ok (.dup2, 1) := by decide +kernel
theorem dX10_workOf_316 : decode cX10_workOf 316 = .ok (.iaload, 1) := by decide +kernel
theorem dX10_workOf_317 : decode cX10_workOf 317 = .ok (.iconst 1, 1) := by decide +kernel
theorem dX10_workOf_318 : decode cX10_workOf 318 = .ok (.iadd, 1) := by decide +kernel
theorem dX10_workOf_319 : decode cX10_workOf 319 = .ok (.iastore, 1) := by decide +kernel
theorem dX10_workOf_320 : decode cX10_workOf 320 = .ok (.aload_n 0, 1) := by decide +kernel
theorem dX10_workOf_321 : decode cX10_workOf 321 = .ok (.getfield 13, 3) := by decide +kernel
theorem dX10_workOf_324 : decode cX10_workOf 324 = .ok (.aload_n 0, 1) := by decide +kernel
theorem dX10_workOf_325 : decode cX10_workOf 325 = .ok (.getfield 52, 3) := by decide +kernel
theorem dX10_workOf_328 : decode cX10_workOf 328 = .ok (.iload_n 1, 1) := by decide +kernel
theorem dX10_workOf_329 : decode cX10_workOf 329 = .ok (.iaload, 1) := by decide +kernel
theorem dX10_workOf_330 : decode cX10_workOf 330 = .ok (.dup2, 1) := by decide +kernel
theorem dX10_workOf_331 : decode cX10_workOf 331 = .ok (.iaload, 1) := by decide +kernel
theorem dX10_workOf_332 : decode cX10_workOf 332 = .ok (.iconst 2, 1) := by decide +kernel
theorem dX10_workOf_333 : decode cX10_workOf 333 = .ok (.iadd, 1) := by decide +kernel
theorem dX10_workOf_334 : decode cX10_workOf 334 = .ok (.iastore, 1) := by decide +kernel
theorem dX10_workOf_335 : decode cX10_workOf 335 = .ok (.aload_n 0, 1) := by decide +kernel
theorem dX10_workOf_336 : decode cX10_workOf 336 = .ok (.getfield 73, 3) := by decide +kernel
theorem dX10_workOf_339 : decode cX10_workOf 339 = .ok (.iload_n 1, 1) := by decide +kernel
theorem dX10_workOf_340 : decode cX10_workOf 340 = .ok (.aload_n 0, 1) := by decide +kernel
theorem dX10_workOf_341 : decode cX10_workOf 341 = .ok (.getfield 67, 3) := by decide +kernel
theorem dX10_workOf_344 : decode cX10_workOf 344 = .ok (.iload_n 1, 1) := by decide +kernel
theorem dX10_workOf_345 : decode cX10_workOf 345 = .ok (.iaload, 1) := by decide +kernel
theorem dX10_workOf_346 : decode cX10_workOf 346 = .ok (.aload_n 0, 1) := by decide +kernel
theorem dX10_workOf_347 : decode cX10_workOf 347 = .ok (.getfield 64, 3) := by decide +kernel
theorem dX10_workOf_350 : decode cX10_workOf 350 = .ok (.iload_n 1, 1) := by decide +kernel
theorem dX10_workOf_351 : decode cX10_workOf 351 = .ok (.iaload, 1) := by decide +kernel
theorem dX10_workOf_352 : decode cX10_workOf 352 = .ok (.if_icmp .ne 7, 3) := by decide +kernel
theorem dX10_workOf_355 : decode cX10_workOf 355 = .ok (.iconst 1, 1) := by decide +kernel
theorem dX10_workOf_356 : decode cX10_workOf 356 = .ok (.goto 9, 3) := by decide +kernel
theorem dX10_workOf_359 : decode cX10_workOf 359 = .ok (.aload_n 0, 1) := by decide +kernel
theorem dX10_workOf_360 : decode cX10_workOf 360 = .ok (.getfield 73, 3) := by decide +kernel
theorem dX10_workOf_363 : decode cX10_workOf 363 = .ok (.iload_n 1, 1) := by decide +kernel
theorem dX10_workOf_364 : decode cX10_workOf 364 = .ok (.iaload, 1) := by decide +kernel
theorem dX10_workOf_365 : decode cX10_workOf 365 = .ok (.iastore, 1) := by decide +kernel
theorem dX10_workOf_366 : decode cX10_workOf 366 = .ok (.return_, 1) := by decide +kernel
theorem dX10_breathe_0 : decode cX10_breathe 0 = .ok (.iconst 4, 1) := by decide +kernel
theorem dX10_breathe_1 : decode cX10_breathe 1 = .ok (.aload_n 0, 1) := by decide +kernel
theorem dX10_breathe_2 : decode cX10_breathe 2 = .ok (.getfield 31, 3) := by decide +kernel
theorem dX10_breathe_5 : decode cX10_breathe 5 = .ok (.iload_n 1, 1) := by decide +kernel
theorem dX10_breathe_6 : decode cX10_breathe 6 = .ok (.iaload, 1) := by decide +kernel
theorem dX10_breathe_7 : decode cX10_breathe 7 = .ok (.imul, 1) := by decide +kernel
theorem dX10_breathe_8 : decode cX10_breathe 8 = .ok (.istore_n 2, 1) := by decide +kernel
theorem dX10_breathe_9 : decode cX10_breathe 9 = .ok (.aload_n 0, 1) := by decide +kernel
theorem dX10_breathe_10 : decode cX10_breathe 10 = .ok (.getfield 34, 3) := by decide +kernel
theorem dX10_breathe_13 : decode cX10_breathe 13 = .ok (.iload_n 1, 1) := by decide +kernel
theorem dX10_breathe_14 : decode cX10_breathe 14 = .ok (.iaload, 1) := by decide +kernel
theorem dX10_breathe_15 : decode cX10_breathe 15 = .ok (.ifCond .ne 7, 3) := by decide +kernel
theorem dX10_breathe_18 : decode cX10_breathe 18 = .ok (.iconst 4, 1) := by decide +kernel
theorem dX10_breathe_19 : decode cX10_breathe 19 = .ok (.goto 20, 3) := by decide +kernel
theorem dX10_breathe_22 : decode cX10_breathe 22 = .ok (.aload_n 0, 1) := by decide +kernel
theorem dX10_breathe_23 : decode cX10_breathe 23 = .ok (.getfield 34, 3) := by decide +kernel
theorem dX10_breathe_26 : decode cX10_breathe 26 = .ok (.iload_n 1, 1) := by decide +kernel
theorem dX10_breathe_27 : decode cX10_breathe 27 = .ok (.iaload, 1) := by decide +kernel
theorem dX10_breathe_28 : decode cX10_breathe 28 = .ok (.iconst 1, 1) := by decide +kernel
theorem dX10_breathe_29 : decode cX10_breathe 29 = .ok (.if_icmp .ne 8, 3) := by decide +kernel
theorem dX10_breathe_32 : decode cX10_breathe 32 = .ok (.bipush 6, 2) := by decide +kernel
theorem dX10_breathe_34 : decode cX10_breathe 34 = .ok (.goto 5, 3) := by decide +kernel
theorem dX10_breathe_37 : decode cX10_breathe 37 = .ok (.bipush 14, 2) := by decide +kernel
theorem dX10_breathe_39 : decode cX10_breathe 39 = .ok (.istore_n 3, 1) := by decide +kernel
theorem dX10_breathe_40 : decode cX10_breathe 40 = .ok (.iload_n 3, 1) := by decide +kernel
theorem dX10_breathe_41 : decode cX10_breathe 41 = .ok (.aload_n 0, 1) := by decide +kernel
theorem dX10_breathe_42 : decode cX10_breathe 42 = .ok (.getfield 7, 3) := by decide +kernel
theorem dX10_breathe_45 : decode cX10_breathe 45 = .ok (.iload_n 2, 1) := by decide +kernel
theorem dX10_breathe_46 : decode cX10_breathe 46 = .ok (.iconst 0, 1) := by decide +kernel
theorem dX10_breathe_47 : decode cX10_breathe 47 = .ok (.iadd, 1) := by decide +kernel
theorem dX10_breathe_48 : decode cX10_breathe 48 = .ok (.iaload, 1) := by decide +kernel
theorem dX10_breathe_49 : decode cX10_breathe 49 = .ok (.invokestatic 231, 3) := by decide +kernel
theorem dX10_breathe_52 : decode cX10_breathe 52 = .ok (.istore 4, 2) := by decide +kernel
theorem dX10_breathe_54 : decode cX10_breathe 54 = .ok (.aload_n 0, 1) := by decide +kernel
theorem dX10_breathe_55 : decode cX10_breathe 55 = .ok (.getfield 43, 3) := by decide +kernel
theorem dX10_breathe_58 : decode cX10_breathe 58 = .ok (.iload_n 1, 1) := by decide +kernel
theorem dX10_breathe_59 : decode cX10_breathe 59 = .ok (.dup2, 1) := by decide +kernel
theorem dX10_breathe_60 : decode cX10_breathe 60 = .ok (.iaload, 1) := by decide +kernel
theorem dX10_breathe_61 : decode cX10_breathe 61 = .ok (.iload 4, 2) := by decide +kernel
theorem dX10_breathe_63 : decode cX10_breathe 63 = .ok (.iload_n 3, 1) := by decide +kernel
theorem dX10_breathe_64 : decode cX10_breathe 64 = .ok (.if_icmp .ge 7, 3) := by decide +kernel
theorem dX10_breathe_67 : decode cX10_breathe 67 = .ok (.iconst 1, 1) := by decide +kernel
theorem dX10_breathe_68 : decode cX10_breathe 68 = .ok (.goto 4, 3) := by decide +kernel
theorem dX10_breathe_71 : decode cX10_breathe 71 = .ok (.iconst 0, 1) := by decide +kernel
theorem dX10_breathe_72 : decode cX10_breathe 72 = .ok (.iadd, 1) := by decide +kernel
theorem dX10_breathe_73 : decode cX10_breathe 73 = .ok (.iastore, 1) := by decide +kernel
theorem dX10_breathe_74 : decode cX10_breathe 74 = .ok (.aload_n 0, 1) := by decide +kernel
theorem dX10_breathe_75 : decode cX10_breathe 75 = .ok (.getfield 7, 3) := by decide +kernel
theorem dX10_breathe_78 : decode cX10_breathe 78 = .ok (.iload_n 2, 1) := by decide +kernel
theorem dX10_breathe_79 : decode cX10_breathe 79 = .ok (.iconst 0, 1) := by decide +kernel
theorem dX10_breathe_80 : decode cX10_breathe 80 = .ok (.iadd, 1) := by decide +kernel
theorem dX10_breathe_81 : decode cX10_breathe 81 = .ok (.dup2, 1) := by decide +kernel
theorem dX10_breathe_82 : decode cX10_breathe 82 = .ok (.iaload, 1) := by decide +kernel
theorem dX10_breathe_83 : decode cX10_breathe 83 = .ok (.iload 4, 2) := by decide +kernel
theorem dX10_breathe_85 : decode cX10_breathe 85 = .ok (.isub, 1) := by decide +kernel
theorem dX10_breathe_86 : decode cX10_breathe 86 = .ok (.iastore, 1) := by decide +kernel
theorem dX10_breathe_87 : decode cX10_breathe 87 = .ok (.aload_n 0, 1) := by decide +kernel
theorem dX10_breathe_88 : decode cX10_breathe 88 = .ok (.getfield 7, 3) := by decide +kernel
theorem dX10_breathe_91 : decode cX10_breathe 91 = .ok (.iload_n 2, 1) := by decide +kernel
theorem dX10_breathe_92 : decode cX10_breathe 92 = .ok (.iconst 1, 1) := by decide +kernel
theorem dX10_breathe_93 : decode cX10_breathe 93 = .ok (.iadd, 1) := by decide +kernel
theorem dX10_breathe_94 : decode cX10_breathe 94 = .ok (.dup2, 1) := by decide +kernel
theorem dX10_breathe_95 : decode cX10_breathe 95 = .ok (.iaload, 1) := by decide +kernel
theorem dX10_breathe_96 : decode cX10_breathe 96 = .ok (.iload 4, 2) := by decide +kernel
theorem dX10_breathe_98 : decode cX10_breathe 98 = .ok (.iadd, 1) := by decide +kernel
theorem dX10_breathe_99 : decode cX10_breathe 99 = .ok (.iastore, 1) := by decide +kernel
theorem dX10_breathe_100 : decode cX10_breathe 100 = .ok (.bipush 10, 2) := by decide +kernel
theorem dX10_breathe_102 : decode cX10_breathe 102 = .ok (.aload_n 0, 1) := by decide +kernel
theorem dX10_breathe_103 : decode cX10_breathe 103 = .ok (.getfield 28, 3) := by decide +kernel
theorem dX10_breathe_106 : decode cX10_breathe 106 = .ok (.iconst 0, 1) := by decide +kernel
theorem dX10_breathe_107 : decode cX10_breathe 107 = .ok (.iaload, 1) := by decide +kernel
theorem dX10_breathe_108 : decode cX10_breathe 108 = .ok (.invokestatic 231, 3) := by decide +kernel
theorem dX10_breathe_111 : decode cX10_breathe 111 = .ok (.istore 4, 2) := by decide +kernel
theorem dX10_breathe_113 : decode cX10_breathe 113 = .ok (.aload_n 0, 1) := by decide +kernel
theorem dX10_breathe_114 : decode cX10_breathe 114 = .ok (.getfield 46, 3) := by decide +kernel
theorem dX10_breathe_117 : decode cX10_breathe 117 = .ok (.iload_n 1, 1) := by decide +kernel
theorem dX10_breathe_118 : decode cX10_breathe 118 = .ok (.dup2, 1) := by decide +kernel
theorem dX10_breathe_119 : decode cX10_breathe 119 = .ok (.iaload, 1) := by decide +kernel
theorem dX10_breathe_120 : decode cX10_breathe 120 = .ok (.iload 4, 2) := by decide +kernel
theorem dX10_breathe_122 : decode cX10_breathe 122 = .ok (.bipush 10, 2) := by decide +kernel
theorem dX10_breathe_124 : decode cX10_breathe 124 = .ok (.if_icmp .ge 7, 3) := by decide +kernel
theorem dX10_breathe_127 : decode cX10_breathe 127 = .ok (.iconst 1, 1) := by decide +kernel
theorem dX10_breathe_128 : decode cX10_breathe 128 = .ok (.goto 4, 3) := by decide +kernel
theorem dX10_breathe_131 : decode cX10_breathe 131 = .ok (.iconst 0, 1) := by decide +kernel
theorem dX10_breathe_132 : decode cX10_breathe 132 = .ok (.iadd, 1) := by decide +kernel
theorem dX10_breathe_133 : decode cX10_breathe 133 = .ok (.iastore, 1) := by decide +kernel
theorem dX10_breathe_134 : decode cX10_breathe 134 = .ok (.aload_n 0, 1) := by decide +kernel
theorem dX10_breathe_135 : decode cX10_breathe 135 = .ok (.getfield 28, 3) := by decide +kernel
theorem dX10_breathe_138 : decode cX10_breathe 138 = .ok (.iconst 0, 1) := by decide +kernel
theorem dX10_breathe_139 : decode cX10_breathe 139 = .ok (.dup2, 1) := by decide +kernel
theorem dX10_breathe_140 : decode cX10_breathe 140 = .ok (.iaload, 1) := by decide +kernel
theorem dX10_breathe_141 : decode cX10_breathe 141 = .ok (.iload 4, 2) := by decide +kernel
theorem dX10_breathe_143 : decode cX10_breathe 143 = .ok (.isub, 1) := by decide +kernel
theorem dX10_breathe_144 : decode cX10_breathe 144 = .ok (.iastore, 1) := by decide +kernel
theorem dX10_breathe_145 : decode cX10_breathe 145 = .ok (.aload_n 0, 1) := by decide +kernel
theorem dX10_breathe_146 : decode cX10_breathe 146 = .ok (.getfield 7, 3) := by decide +kernel
theorem dX10_breathe_149 : decode cX10_breathe 149 = .ok (.iload_n 2, 1) := by decide +kernel
theorem dX10_breathe_150 : decode cX10_breathe 150 = .ok (.iconst 2, 1) := by decide +kernel
theorem dX10_breathe_151 : decode cX10_breathe 151 = .ok (.iadd, 1) := by decide +kernel
theorem dX10_breathe_152 : decode cX10_breathe 152 = .ok (.dup2, 1) := by decide +kernel
theorem dX10_breathe_153 : decode cX10_breathe 153 = .ok (.iaload, 1) := by decide +kernel
theorem dX10_breathe_154 : decode cX10_breathe 154 = .ok (.iconst 4, 1) := by decide +kernel
theorem dX10_breathe_155 : decode cX10_breathe 155 = .ok (.iload 4, 2) := by decide +kernel
theorem dX10_breathe_157 : decode cX10_breathe 157 = .ok (.imul, 1) := by decide +kernel
theorem dX10_breathe_158 : decode cX10_breathe 158 = .ok (.bipush 10, 2) := by decide +kernel
theorem dX10_breathe_160 : decode cX10_breathe 160 = .ok (.idiv, 1) := by decide +kernel
theorem dX10_breathe_161 : decode cX10_breathe 161 = .ok (.iadd, 1) := by decide +kernel
theorem dX10_breathe_162 : decode cX10_breathe 162 = .ok (.iastore, 1) := by decide +kernel
theorem dX10_breathe_163 : decode cX10_breathe 163 = .ok (.aload_n 0, 1) := by decide +kernel
theorem dX10_breathe_164 : decode cX10_breathe 164 = .ok (.getfield 28, 3) := by decide +kernel
theorem dX10_breathe_167 : decode cX10_breathe 167 = .ok (.iconst 1, 1) := by decide +kernel
theorem dX10_breathe_168 : decode cX10_breathe 168 = .ok (.dup2, 1) := by decide +kernel
theorem dX10_breathe_169 : decode cX10_breathe 169 = .ok (.iaload, 1) := by decide +kernel
theorem dX10_breathe_170 : decode cX10_breathe 170 = .ok (.iload 4, 2) := by decide +kernel
theorem dX10_breathe_172 : decode cX10_breathe 172 = .ok (.iconst 4, 1) := by decide +kernel
theorem dX10_breathe_173 : decode cX10_breathe 173 = .ok (.iload 4, 2) := by decide +kernel
theorem dX10_breathe_175 : decode cX10_breathe 175 = .ok (.imul, 1) := by decide +kernel
theorem dX10_breathe_176 : decode cX10_breathe 176 = .ok (.bipush 10, 2) := by decide +kernel
theorem dX10_breathe_178 : decode cX10_breathe 178 = .ok (.idiv, 1) := by decide +kernel
theorem dX10_breathe_179 : decode cX10_breathe 179 = .ok (.isub, 1) := by decide +kernel
theorem dX10_breathe_180 : decode cX10_breathe 180 = .ok (.iadd, 1) := by decide +kernel
theorem dX10_breathe_181 : decode cX10_breathe 181 = .ok (.iastore, 1) := by decide +kernel
theorem dX10_breathe_182 : decode cX10_breathe 182 = .ok (.aload_n 0, 1) := by decide +kernel
theorem dX10_breathe_183 : decode cX10_breathe 183 = .ok (.getfield 13, 3) := by decide +kernel
theorem dX10_breathe_186 : decode cX10_breathe 186 = .ok (.aload_n 0, 1) := by decide +kernel
theorem dX10_breathe_187 : decode cX10_breathe 187 = .ok (.getfield 31, 3) := by decide +kernel
theorem dX10_breathe_190 : decode cX10_breathe 190 = .ok (.iload_n 1, 1) := by decide +kernel
theorem dX10_breathe_191 : decode cX10_breathe 191 = .ok (.iaload, 1) := by decide +kernel
theorem dX10_breathe_192 : decode cX10_breathe 192 = .ok (.dup2, 1) := by decide +kernel
theorem dX10_breathe_193 : decode cX10_breathe 193 = .ok (.iaload, 1) := by decide +kernel
theorem dX10_breathe_194 : decode cX10_breathe 194 = .ok (.aload_n 0, 1) := by decide +kernel
theorem dX10_breathe_195 : decode cX10_breathe 195 = .ok (.getfield 34, 3) := by decide +kernel
theorem dX10_breathe_198 : decode cX10_breathe 198 = .ok (.iload_n 1, 1) := by decide +kernel
theorem dX10_breathe_199 : decode cX10_breathe 199 = .ok (.iaload, 1) := by decide +kernel
theorem dX10_breathe_200 : decode cX10_breathe 200 = .ok (.ifCond .ne 8, 3) := by decide +kernel
theorem dX10_breathe_203 : decode cX10_breathe 203 = .ok (.bipush 10, 2) := by decide +kernel
theorem dX10_breathe_205 : decode cX10_breathe 205 = .ok (.goto 20, 3) := by decide +kernel
theorem dX10_breathe_208 : decode cX10_breathe 208 = .ok (.aload_n 0, 1) := by decide +kernel
theorem dX10_breathe_209 : decode cX10_breathe 209 = .ok (.getfield 34, 3) := by decide +kernel
theorem dX10_breathe_212 : decode cX10_breathe 212 = .ok (.iload_n 1, 1) := by decide +kernel
theorem dX10_breathe_213 : decode cX10_breathe 213 = .ok (.iaload, 1) := by decide +kernel
theorem dX10_breathe_214 : decode cX10_breathe 214 = .ok (.iconst 1, 1) := by decide +kernel
theorem dX10_breathe_215 : decode cX10_breathe 215 = .ok (.if_icmp .ne 8, 3) := by decide +kernel
theorem dX10_breathe_218 : decode cX10_breathe 218 = .ok (.bipush 15, 2) := by decide +kernel
theorem dX10_breathe_220 : decode cX10_breathe 220 = .ok (.goto 5, 3) := by decide +kernel
theorem dX10_breathe_223 : decode cX10_breathe 223 = .ok (.bipush 40, 2) := by decide +kernel
theorem dX10_breathe_225 : decode cX10_breathe 225 = .ok (.iadd, 1) := by decide +kernel
theorem dX10_breathe_226 : decode cX10_breathe 226 = .ok (.iastore, 1) := by decide +kernel
theorem dX10_breathe_227 : decode cX10_breathe 227 = .ok (.return_, 1) := by decide +kernel
theorem dX10_leakAll_0 : decode cX10_leakAll 0 = .ok (.iconst 0, 1) := by decide +kernel
theorem dX10_leakAll_1 : decode cX10_leakAll 1 = .ok (.istore_n 1, 1) := by decide +kernel
theorem dX10_leakAll_2 : decode cX10_leakAll 2 = .ok (.iload_n 1, 1) := by decide +kernel
theorem dX10_leakAll_3 : decode cX10_leakAll 3 = .ok (.iconst 4, 1) := by decide +kernel
theorem dX10_leakAll_4 : decode cX10_leakAll 4 = .ok (.aload_n 0, 1) := by decide +kernel
theorem dX10_leakAll_5 : decode cX10_leakAll 5 = .ok (.getfield 148, 3) := by decide +kernel
theorem dX10_leakAll_8 : decode cX10_leakAll 8 = .ok (.imul, 1) := by decide +kernel
theorem dX10_leakAll_9 : decode cX10_leakAll 9 = .ok (.if_icmp .ge 52, 3) := by decide +kernel
theorem dX10_leakAll_12 : decode cX10_leakAll 12 = .ok (.aload_n 0, 1) := by decide +kernel
theorem dX10_leakAll_13 : decode cX10_leakAll 13 = .ok (.getfield 7, 3) := by decide +kernel
theorem dX10_leakAll_16 : decode cX10_leakAll 16 = .ok (.iload_n 1, 1) := by decide +kernel
theorem dX10_leakAll_17 : decode cX10_leakAll 17 = .ok (.iaload, 1) := by decide +kernel
theorem dX10_leakAll_18 : decode cX10_leakAll 18 = .ok (.i2l, 1) := by decide +kernel
theorem dX10_leakAll_19 : decode cX10_leakAll 19 = .ok (.aload_n 0, 1) := by decide +kernel
theorem dX10_leakAll_20 : decode cX10_leakAll 20 = .ok (.getfield 16, 3) := by decide +kernel
theorem dX10_leakAll_23 : decode cX10_leakAll 23 = .ok (.iload_n 1, 1) := by decide +kernel
theorem dX10_leakAll_24 : decode cX10_leakAll 24 = .ok (.iconst 4, 1) := by decide +kernel
theorem dX10_leakAll_25 : decode cX10_leakAll 25 = .ok (.idiv, 1) := by decide +kernel
theorem dX10_leakAll_26 : decode cX10_leakAll 26 = .ok (.iaload, 1) := by decide +kernel
theorem dX10_leakAll_27 : decode cX10_leakAll 27 = .ok (.i2l, 1) := by decide +kernel
theorem dX10_leakAll_28 : decode cX10_leakAll 28 = .ok (.lmul, 1) := by decide +kernel
theorem dX10_leakAll_29 : decode cX10_leakAll 29 = .ok (.ldc2_w 235, 3) := by decide +kernel
theorem dX10_leakAll_32 : decode cX10_leakAll 32 = .ok (.ldiv, 1) := by decide +kernel
theorem dX10_leakAll_33 : decode cX10_leakAll 33 = .ok (.l2i, 1) := by decide +kernel
theorem dX10_leakAll_34 : decode cX10_leakAll 34 = .ok (.istore_n 2, 1) := by decide +kernel
theorem dX10_leakAll_35 : decode cX10_leakAll 35 = .ok (.aload_n 0, 1) := by decide +kernel
theorem dX10_leakAll_36 : decode cX10_leakAll 36 = .ok (.getfield 7, 3) := by decide +kernel
theorem dX10_leakAll_39 : decode cX10_leakAll 39 = .ok (.iload_n 1, 1) := by decide +kernel
theorem dX10_leakAll_40 : decode cX10_leakAll 40 = .ok (.dup2, 1) := by decide +kernel
theorem dX10_leakAll_41 : decode cX10_leakAll 41 = .ok (.iaload, 1) := by decide +kernel
theorem dX10_leakAll_42 : decode cX10_leakAll 42 = .ok (.iload_n 2, 1) := by decide +kernel
theorem dX10_leakAll_43 : decode cX10_leakAll 43 = .ok (.isub, 1) := by decide +kernel
theorem dX10_leakAll_44 : decode cX10_leakAll 44 = .ok (.iastore, 1) := by decide +kernel
theorem dX10_leakAll_45 : decode cX10_leakAll 45 = .ok (.aload_n 0, 1) := by decide +kernel
theorem dX10_leakAll_46 : decode cX10_leakAll 46 = .ok (.getfield 28, 3) := by decide +kernel
theorem dX10_leakAll_49 : decode cX10_leakAll 49 = .ok (.iconst 4, 1) := by decide +kernel
theorem dX10_leakAll_50 : decode cX10_leakAll 50 = .ok (.dup2, 1) := by decide +kernel
theorem dX10_leakAll_51 : decode cX10_leakAll 51 = .ok (.iaload, 1) := by decide +kernel
theorem dX10_leakAll_52 : decode cX10_leakAll 52 = .ok (.iload_n 2, 1) := by decide +kernel
theorem dX10_leakAll_53 : decode cX10_leakAll 53 = .ok (.iadd, 1) := by decide +kernel
theorem dX10_leakAll_54 : decode cX10_leakAll 54 = .ok (.iastore, 1) := by decide +kernel
theorem dX10_leakAll_55 : decode cX10_leakAll 55 = .ok (.iinc 1 1, 3) := by decide +kernel
theorem dX10_leakAll_58 : decode cX10_leakAll 58 = .ok (.goto (-56), 3) := by decide +kernel
theorem dX10_leakAll_61 : decode cX10_leakAll 61 = .ok (.return_, 1) := by decide +kernel
theorem dX10_mixAll_0 : decode cX10_mixAll 0 = .ok (.iconst 0, 1) := by decide +kernel
theorem dX10_mixAll_1 : decode cX10_mixAll 1 = .ok (.istore_n 1, 1) := by decide +kernel
theorem dX10_mixAll_2 : decode cX10_mixAll 2 = .ok (.iload_n 1, 1) := by decide +kernel
theorem dX10_mixAll_3 : decode cX10_mixAll 3 = .ok (.aload_n 0, 1) := by decide +kernel
theorem dX10_mixAll_4 : decode cX10_mixAll 4 = .ok (.getfield 151, 3) := by decide +kernel
theorem dX10_mixAll_7 : decode cX10_mixAll 7 = .ok (.if_icmp .ge 160, 3) := by decide +kernel
theorem dX10_mixAll_10 : decode cX10_mixAll 10 = .ok (.aload_n 0, 1) := by decide +kernel
theorem dX10_mixAll_11 : decode cX10_mixAll 11 = .ok (.getfield 25, 3) := by decide +kernel
theorem dX10_mixAll_14 : decode cX10_mixAll 14 = .ok (.iload_n 1, 1) := by decide +kernel
theorem dX10_mixAll_15 : decode cX10_mixAll 15 = .ok (.iaload, 1) := by decide +kernel
theorem dX10_mixAll_16 : decode cX10_mixAll 16 = .ok (.iconst 1, 1) := by decide +kernel
theorem dX10_mixAll_17 : decode cX10_mixAll 17 = .ok (.if_icmp .ne 144, 3) := by decide +kernel
theorem dX10_mixAll_20 : decode cX10_mixAll 20 = .ok (.iconst 0, 1) := by decide +kernel
theorem dX10_mixAll_21 : decode cX10_mixAll 21 = .ok (.istore_n 2, 1) := by decide +kernel
theorem dX10_mixAll_22 : decode cX10_mixAll 22 = .ok (.iload_n 2, 1) := by decide +kernel
theorem dX10_mixAll_23 : decode cX10_mixAll 23 = .ok (.iconst 4, 1) := by decide +kernel
theorem dX10_mixAll_24 : decode cX10_mixAll 24 = .ok (.if_icmp .ge 81, 3) := by decide +kernel
theorem dX10_mixAll_27 : decode cX10_mixAll 27 = .ok (.aload_n 0, 1) := by decide +kernel
theorem dX10_mixAll_28 : decode cX10_mixAll 28 = .ok (.getfield 7, 3) := by decide +kernel
theorem dX10_mixAll_31 : decode cX10_mixAll 31 = .ok (.iconst 4, 1) := by decide +kernel
theorem dX10_mixAll_32 : decode cX10_mixAll 32 = .ok (.aload_n 0, 1) := by decide +kernel
theorem dX10_mixAll_33 : decode cX10_mixAll 33 = .ok (.getfield 19, 3) := by decide +kernel
theorem dX10_mixAll_36 : decode cX10_mixAll 36 = .ok (.iload_n 1, 1) := by decide +kernel
theorem dX10_mixAll_37 : decode cX10_mixAll 37 = .ok (.iaload, 1) := by decide +kernel
theorem dX10_mixAll_38 : decode cX10_mixAll 38 = .ok (.imul, 1) := by decide +kernel
theorem dX10_mixAll_39 : decode cX10_mixAll 39 = .ok (.iload_n 2, 1) := by decide +kernel
theorem dX10_mixAll_40 : decode cX10_mixAll 40 = .ok (.iadd, 1) := by decide +kernel
theorem dX10_mixAll_41 : decode cX10_mixAll 41 = .ok (.iaload, 1) := by decide +kernel
theorem dX10_mixAll_42 : decode cX10_mixAll 42 = .ok (.aload_n 0, 1) := by decide +kernel
theorem dX10_mixAll_43 : decode cX10_mixAll 43 = .ok (.getfield 7, 3) := by decide +kernel
theorem dX10_mixAll_46 : decode cX10_mixAll 46 = .ok (.iconst 4, 1) := by decide +kernel
theorem dX10_mixAll_47 : decode cX10_mixAll 47 = .ok (.aload_n 0, 1) := by decide +kernel
theorem dX10_mixAll_48 : decode cX10_mixAll 48 = .ok (.getfield 22, 3) := by decide +kernel
theorem dX10_mixAll_51 : decode cX10_mixAll 51 = .ok (.iload_n 1, 1) := by decide +kernel
theorem dX10_mixAll_52 : decode cX10_mixAll 52 = .ok (.iaload, 1) := by decide +kernel
theorem dX10_mixAll_53 : decode cX10_mixAll 53 = .ok (.imul, 1) := by decide +kernel
theorem dX10_mixAll_54 : decode cX10_mixAll 54 = .ok (.iload_n 2, 1) := by decide +kernel
theorem dX10_mixAll_55 : decode cX10_mixAll 55 = .ok (.iadd, 1) := by decide +kernel
theorem dX10_mixAll_56 : decode cX10_mixAll 56 = .ok (.iaload, 1) := by decide +kernel
theorem dX10_mixAll_57 : decode cX10_mixAll 57 = .ok (.isub, 1) := by decide +kernel
theorem dX10_mixAll_58 : decode cX10_mixAll 58 = .ok (.iconst 4, 1) := by decide +kernel
theorem dX10_mixAll_59 : decode cX10_mixAll 59 = .ok (.idiv, 1) := by decide +kernel
theorem dX10_mixAll_60 : decode cX10_mixAll 60 = .ok (.istore_n 3, 1) := by decide +kernel
theorem dX10_mixAll_61 : decode cX10_mixAll 61 = .ok (.aload_n 0, 1) := by decide +kernel
theorem dX10_mixAll_62 : decode cX10_mixAll 62 = .ok (.getfield 7, 3) := by decide +kernel
theorem dX10_mixAll_65 : decode cX10_mixAll 65 = .ok (.iconst 4, 1) := by decide +kernel
theorem dX10_mixAll_66 : decode cX10_mixAll 66 = .ok (.aload_n 0, 1) := by decide +kernel
theorem dX10_mixAll_67 : decode cX10_mixAll 67 = .ok (.getfield 19, 3) := by decide +kernel
theorem dX10_mixAll_70 : decode cX10_mixAll 70 = .ok (.iload_n 1, 1) := by decide +kernel
theorem dX10_mixAll_71 : decode cX10_mixAll 71 = .ok (.iaload, 1) := by decide +kernel
theorem dX10_mixAll_72 : decode cX10_mixAll 72 = .ok (.imul, 1) := by decide +kernel
theorem dX10_mixAll_73 : decode cX10_mixAll 73 = .ok (.iload_n 2, 1) := by decide +kernel
theorem dX10_mixAll_74 : decode cX10_mixAll 74 = .ok (.iadd, 1) := by decide +kernel
theorem dX10_mixAll_75 : decode cX10_mixAll 75 = .ok (.dup2, 1) := by decide +kernel
theorem dX10_mixAll_76 : decode cX10_mixAll 76 = .ok (.iaload, 1) := by decide +kernel
theorem dX10_mixAll_77 : decode cX10_mixAll 77 = .ok (.iload_n 3, 1) := by decide +kernel
theorem dX10_mixAll_78 : decode cX10_mixAll 78 = .ok (.isub, 1) := by decide +kernel
theorem dX10_mixAll_79 : decode cX10_mixAll 79 = .ok (.iastore, 1) := by decide +kernel
theorem dX10_mixAll_80 : decode cX10_mixAll 80 = .ok (.aload_n 0, 1) := by decide +kernel
theorem dX10_mixAll_81 : decode cX10_mixAll 81 = .ok (.getfield 7, 3) := by decide +kernel
theorem dX10_mixAll_84 : decode cX10_mixAll 84 = .ok (.iconst 4, 1) := by decide +kernel
theorem dX10_mixAll_85 : decode cX10_mixAll 85 = .ok (.aload_n 0, 1) := by decide +kernel
theorem dX10_mixAll_86 : decode cX10_mixAll 86 = .ok (.getfield 22, 3) := by decide +kernel
theorem dX10_mixAll_89 : decode cX10_mixAll 89 = .ok (.iload_n 1, 1) := by decide +kernel
theorem dX10_mixAll_90 : decode cX10_mixAll 90 = .ok (.iaload, 1) := by decide +kernel
theorem dX10_mixAll_91 : decode cX10_mixAll 91 = .ok (.imul, 1) := by decide +kernel
theorem dX10_mixAll_92 : decode cX10_mixAll 92 = .ok (.iload_n 2, 1) := by decide +kernel
theorem dX10_mixAll_93 : decode cX10_mixAll 93 = .ok (.iadd, 1) := by decide +kernel
theorem dX10_mixAll_94 : decode cX10_mixAll 94 = .ok (.dup2, 1) := by decide +kernel
theorem dX10_mixAll_95 : decode cX10_mixAll 95 = .ok (.iaload, 1) := by decide +kernel
theorem dX10_mixAll_96 : decode cX10_mixAll 96 = .ok (.iload_n 3, 1) := by decide +kernel
theorem dX10_mixAll_97 : decode cX10_mixAll 97 = .ok (.iadd, 1) := by decide +kernel
theorem dX10_mixAll_98 : decode cX10_mixAll 98 = .ok (.iastore, 1) := by decide +kernel
theorem dX10_mixAll_99 : decode cX10_mixAll 99 = .ok (.iinc 2 1, 3) := by decide +kernel
theorem dX10_mixAll_102 : decode cX10_mixAll 102 = .ok (.goto (-80), 3) := by decide +kernel
theorem dX10_mixAll_105 : decode cX10_mixAll 105 = .ok (.aload_n 0, 1) := by decide +kernel
theorem dX10_mixAll_106 : decode cX10_mixAll 106 = .ok (.getfield 13, 3) := by decide +kernel
theorem dX10_mixAll_109 : decode cX10_mixAll 109 = .ok (.aload_n 0, 1) := by decide +kernel
theorem dX10_mixAll_110 : decode cX10_mixAll 110 = .ok (.getfield 19, 3) := by decide +kernel
theorem dX10_mixAll_113 : decode cX10_mixAll 113 = .ok (.iload_n 1, 1) := by decide +kernel
theorem dX10_mixAll_114 : decode cX10_mixAll 114 = .ok (.iaload, 1) := by decide +kernel
theorem dX10_mixAll_115 : decode cX10_mixAll 115 = .ok (.iaload, 1) := by decide +kernel
theorem dX10_mixAll_116 : decode cX10_mixAll 116 = .ok (.aload_n 0, 1) := by decide +kernel
theorem dX10_mixAll_117 : decode cX10_mixAll 117 = .ok (.getfield 13, 3) := by decide +kernel
theorem dX10_mixAll_120 : decode cX10_mixAll 120 = .ok (.aload_n 0, 1) := by decide +kernel
theorem dX10_mixAll_121 : decode cX10_mixAll 121 = .ok (.getfield 22, 3) := by decide +kernel
theorem dX10_mixAll_124 : decode cX10_mixAll 124 = .ok (.iload_n 1, 1) := by decide +kernel
theorem dX10_mixAll_125 : decode cX10_mixAll 125 = .ok (.iaload, 1) := by decide +kernel
theorem dX10_mixAll_126 : decode cX10_mixAll 126 = .ok (.iaload, 1) := by decide +kernel
theorem dX10_mixAll_127 : decode cX10_mixAll 127 = .ok (.isub, 1) := by decide +kernel
theorem dX10_mixAll_128 : decode cX10_mixAll 128 = .ok (.iconst 4, 1) := by decide +kernel
theorem dX10_mixAll_129 : decode cX10_mixAll 129 = .ok (.idiv, 1) := by decide +kernel
theorem dX10_mixAll_130 : decode cX10_mixAll 130 = .ok (.istore_n 2, 1) := by decide +kernel
theorem dX10_mixAll_131 : decode cX10_mixAll 131 = .ok (.aload_n 0, 1) := by decide +kernel
theorem dX10_mixAll_132 : decode cX10_mixAll 132 = .ok (.getfield 13, 3) := by decide +kernel
theorem dX10_mixAll_135 : decode cX10_mixAll 135 = .ok (.aload_n 0, 1) := by decide +kernel
theorem dX10_mixAll_136 : decode cX10_mixAll 136 = .ok (.getfield 19, 3) := by decide +kernel
theorem dX10_mixAll_139 : decode cX10_mixAll 139 = .ok (.iload_n 1, 1) := by decide +kernel
theorem dX10_mixAll_140 : decode cX10_mixAll 140 = .ok (.iaload, 1) := by decide +kernel
theorem dX10_mixAll_141 : decode cX10_mixAll 141 = .ok (.dup2, 1) := by decide +kernel
theorem dX10_mixAll_142 : decode cX10_mixAll 142 = .ok (.iaload, 1) := by decide +kernel
theorem dX10_mixAll_143 : decode cX10_mixAll 143 = .ok (.iload_n 2, 1) := by decide +kernel
theorem dX10_mixAll_144 : decode cX10_mixAll 144 = .ok (.isub, 1) := by decide +kernel
theorem dX10_mixAll_145 : decode cX10_mixAll 145 = .ok (.iastore, 1) := by decide +kernel
theorem dX10_mixAll_146 : decode cX10_mixAll 146 = .ok (.aload_n 0, 1) := by decide +kernel
theorem dX10_mixAll_147 : decode cX10_mixAll 147 = .ok (.getfield 13, 3) := by decide +kernel
theorem dX10_mixAll_150 : decode cX10_mixAll 150 = .ok (.aload_n 0, 1) := by decide +kernel
theorem dX10_mixAll_151 : decode cX10_mixAll 151 = .ok (.getfield 22, 3) := by decide +kernel
theorem dX10_mixAll_154 : decode cX10_mixAll 154 = .ok (.iload_n 1, 1) := by decide +kernel
theorem dX10_mixAll_155 : decode cX10_mixAll 155 = .ok (.iaload, 1) := by decide +kernel
theorem dX10_mixAll_156 : decode cX10_mixAll 156 = .ok (.dup2, 1) := by decide +kernel
theorem dX10_mixAll_157 : decode cX10_mixAll 157 = .ok (.iaload, 1) := by decide +kernel
theorem dX10_mixAll_158 : decode cX10_mixAll 158 = .ok (.iload_n 2, 1) := by decide +kernel
theorem dX10_mixAll_159 : decode cX10_mixAll 159 = .ok (.iadd, 1) := by decide +kernel
theorem dX10_mixAll_160 : decode cX10_mixAll 160 = .ok (.iastore, 1) := by decide +kernel
theorem dX10_mixAll_161 : decode cX10_mixAll 161 = .ok (.iinc 1 1, 3) := by decide +kernel
theorem dX10_mixAll_164 : decode cX10_mixAll 164 = .ok (.goto (-162), 3) := by decide +kernel
theorem dX10_mixAll_167 : decode cX10_mixAll 167 = .ok (.return_, 1) := by decide +kernel
theorem dX10_brokenAt_0 : decode cX10_brokenAt 0 = .ok (.iconst 0, 1) := by decide +kernel
theorem dX10_brokenAt_1 : decode cX10_brokenAt 1 = .ok (.istore_n 1, 1) := by decide +kernel
theorem dX10_brokenAt_2 : decode cX10_brokenAt 2 = .ok (.iload_n 1, 1) := by decide +kernel
theorem dX10_brokenAt_3 : decode cX10_brokenAt 3 = .ok (.aload_n 0, 1) := by decide +kernel
theorem dX10_brokenAt_4 : decode cX10_brokenAt 4 = .ok (.getfield 148, 3) := by decide +kernel
theorem dX10_brokenAt_7 : decode cX10_brokenAt 7 = .ok (.if_icmp .ge 98, 3) := by decide +kernel
theorem dX10_brokenAt_10 : decode cX10_brokenAt 10 = .ok (.iconst 0, 1) := by decide +kernel
theorem dX10_brokenAt_11 : decode cX10_brokenAt 11 = .ok (.istore_n 2, 1) := by decide +kernel
theorem dX10_brokenAt_12 : decode cX10_brokenAt 12 = .ok (.iconst 0, 1) := by decide +kernel
theorem dX10_brokenAt_13 : decode cX10_brokenAt 13 = .ok (.istore_n 3, 1) := by decide +kernel
theorem dX10_brokenAt_14 : decode cX10_brokenAt 14 = .ok (.iload_n 3, 1) := by decide +kernel
theorem dX10_brokenAt_15 : decode cX10_brokenAt 15 = .ok (.aload_n 0, 1) := by decide +kernel
theorem dX10_brokenAt_16 : decode cX10_brokenAt 16 = .ok (.getfield 154, 3) := by decide +kernel
theorem dX10_brokenAt_19 : decode cX10_brokenAt 19 = .ok (.if_icmp .ge 27, 3) := by decide +kernel
theorem dX10_brokenAt_22 : decode cX10_brokenAt 22 = .ok (.iload_n 2, 1) := by decide +kernel
theorem dX10_brokenAt_23 : decode cX10_brokenAt 23 = .ok (.aload_n 0, 1) := by decide +kernel
theorem dX10_brokenAt_24 : decode cX10_brokenAt 24 = .ok (.getfield 31, 3) := by decide +kernel
theorem dX10_brokenAt_27 : decode cX10_brokenAt 27 = .ok (.iload_n 3, 1) := by decide +kernel
theorem dX10_brokenAt_28 : decode cX10_brokenAt 28 = .ok (.iaload, 1) := by decide +kernel
theorem dX10_brokenAt_29 : decode cX10_brokenAt 29 = .ok (.iload_n 1, 1) := by decide +kernel
theorem dX10_brokenAt_30 : decode cX10_brokenAt 30 = .ok (.if_icmp .ne 7, 3) := by decide +kernel
theorem dX10_brokenAt_33 : decode cX10_brokenAt 33 = .ok (.iconst 1, 1) := by decide +kernel
theorem dX10_brokenAt_34 : decode cX10_brokenAt 34 = .ok (.goto 4, 3) := by decide +kernel
theorem dX10_brokenAt_37 : decode cX10_brokenAt 37 = .ok (.iconst 0, 1) := by decide +kernel
theorem dX10_brokenAt_38 : decode cX10_brokenAt 38 = .ok (.ior, 1) := by decide +kernel
theorem dX10_brokenAt_39 : decode cX10_brokenAt 39 = .ok (.istore_n 2, 1) := by decide +kernel
theorem dX10_brokenAt_40 : decode cX10_brokenAt 40 = .ok (.iinc 3 1, 3) := by decide +kernel
theorem dX10_brokenAt_43 : decode cX10_brokenAt 43 = .ok (.goto (-29), 3) := by decide +kernel
theorem dX10_brokenAt_46 : decode cX10_brokenAt 46 = .ok (.iload_n 2, 1) := by decide +kernel
theorem dX10_brokenAt_47 : decode cX10_brokenAt 47 = .ok (.ifCond .eq 52, 3) := by decide +kernel
theorem dX10_brokenAt_50 : decode cX10_brokenAt 50 = .ok (.aload_n 0, 1) := by decide +kernel
theorem dX10_brokenAt_51 : decode cX10_brokenAt 51 = .ok (.getfield 7, 3) := by decide +kernel
theorem dX10_brokenAt_54 : decode cX10_brokenAt 54 = .ok (.iconst 4, 1) := by decide +kernel
theorem dX10_brokenAt_55 : decode cX10_brokenAt 55 = .ok (.iload_n 1, 1) := by decide +kernel
theorem dX10_brokenAt_56 : decode cX10_brokenAt 56 = .ok (.imul, 1) := by decide +kernel
theorem dX10_brokenAt_57 : decode cX10_brokenAt 57 = .ok (.iconst 0, 1) := by decide +kernel
theorem dX10_brokenAt_58 : decode cX10_brokenAt 58 = .ok (.iadd, 1) := by decide +kernel
theorem dX10_brokenAt_59 : decode cX10_brokenAt 59 = .ok (.iaload, 1) := by decide +kernel
theorem dX10_brokenAt_60 : decode cX10_brokenAt 60 = .ok (.aload_n 0, 1) := by decide +kernel
theorem dX10_brokenAt_61 : decode cX10_brokenAt 61 = .ok (.getfield 89, 3) := by decide +kernel
theorem dX10_brokenAt_64 : decode cX10_brokenAt 64 = .ok (.if_icmp .lt 33, 3) := by decide +kernel
theorem dX10_brokenAt_67 : decode cX10_brokenAt 67 = .ok (.aload_n 0, 1) := by decide +kernel
theorem dX10_brokenAt_68 : decode cX10_brokenAt 68 = .ok (.getfield 7, 3) := by decide +kernel
theorem dX10_brokenAt_71 : decode cX10_brokenAt 71 = .ok (.iconst 4, 1) := by decide +kernel
theorem dX10_brokenAt_72 : decode cX10_brokenAt 72 = .ok (.iload_n 1, 1) := by decide +kernel
theorem dX10_brokenAt_73 : decode cX10_brokenAt 73 = .ok (.imul, 1) := by decide +kernel
theorem dX10_brokenAt_74 : decode cX10_brokenAt 74 = .ok (.iconst 1, 1) := by decide +kernel
theorem dX10_brokenAt_75 : decode cX10_brokenAt 75 = .ok (.iadd, 1) := by decide +kernel
theorem dX10_brokenAt_76 : decode cX10_brokenAt 76 = .ok (.iaload, 1) := by decide +kernel
theorem dX10_brokenAt_77 : decode cX10_brokenAt 77 = .ok (.aload_n 0, 1) := by decide +kernel
theorem dX10_brokenAt_78 : decode cX10_brokenAt 78 = .ok (.getfield 92, 3) := by decide +kernel
theorem dX10_brokenAt_81 : decode cX10_brokenAt 81 = .ok (.if_icmp .gt 16, 3) := by decide +kernel
theorem dX10_brokenAt_84 : decode cX10_brokenAt 84 = .ok (.aload_n 0, 1) := by decide +kernel
theorem dX10_brokenAt_85 : decode cX10_brokenAt 85 = .ok (.getfield 13, 3) := by decide +kernel
theorem dX10_brokenAt_88 : decode cX10_brokenAt 88 = .ok (.iload_n 1, 1) := by decide +kernel
theorem dX10_brokenAt_89 : decode cX10_brokenAt 89 = .ok (.iaload, 1) := by decide +kernel
theorem dX10_brokenAt_90 : decode cX10_brokenAt 90 = .ok (.aload_n 0, 1) := by decide +kernel
theorem dX10_brokenAt_91 : decode cX10_brokenAt 91 = .ok (.getfield 95, 3) := by decide +kernel
theorem dX10_brokenAt_94 : decode cX10_brokenAt 94 = .ok (.if_icmp .le 5, 3) := by decide +kernel
theorem dX10_brokenAt_97 : decode cX10_brokenAt 97 = .ok (.iload_n 1, 1) := by decide +kernel
theorem dX10_brokenAt_98 : decode cX10_brokenAt 98 = .ok (.ireturn, 1) := by decide +kernel
theorem dX10_brokenAt_99 : decode cX10_brokenAt 99 = .ok (.iinc 1 1, 3) := by decide +kernel
theorem dX10_brokenAt_102 : decode cX10_brokenAt 102 = .ok (.goto (-100), 3) := by decide +kernel
theorem dX10_brokenAt_105 : decode cX10_brokenAt 105 = .ok (.iconst (-1), 1) := by decide +kernel
theorem dX10_brokenAt_106 : decode cX10_brokenAt 106 = .ok (.ireturn, 1) := by decide +kernel
theorem dX10_tick_0 : decode cX10_tick 0 = .ok (.aload_n 0, 1) := by decide +kernel
theorem dX10_tick_1 : decode cX10_tick 1 = .ok (.invokevirtual 237, 3) := by decide +kernel
theorem dX10_tick_4 : decode cX10_tick 4 = .ok (.aload_n 0, 1) := by decide +kernel
theorem dX10_tick_5 : decode cX10_tick 5 = .ok (.invokevirtual 240, 3) := by decide +kernel
theorem dX10_tick_8 : decode cX10_tick 8 = .ok (.aload_n 0, 1) := by decide +kernel
theorem dX10_tick_9 : decode cX10_tick 9 = .ok (.invokevirtual 243, 3) := by decide +kernel
theorem dX10_tick_12 : decode cX10_tick 12 = .ok (.iconst 0, 1) := by decide +kernel
theorem dX10_tick_13 : decode cX10_tick 13 = .ok (.istore_n 1, 1) := by decide +kernel
theorem dX10_tick_14 : decode cX10_tick 14 = .ok (.iload_n 1, 1) := by decide +kernel
theorem dX10_tick_15 : decode cX10_tick 15 = .ok (.aload_n 0, 1) := by decide +kernel
theorem dX10_tick_16 : decode cX10_tick 16 = .ok (.getfield 157, 3) := by decide +kernel
theorem dX10_tick_19 : decode cX10_tick 19 = .ok (.if_icmp .ge 24, 3) := by decide +kernel
theorem dX10_tick_22 : decode cX10_tick 22 = .ok (.aload_n 0, 1) := by decide +kernel
theorem dX10_tick_23 : decode cX10_tick 23 = .ok (.getfield 76, 3) := by decide +kernel
theorem dX10_tick_26 : decode cX10_tick 26 = .ok (.iload_n 1, 1) := by decide +kernel
theorem dX10_tick_27 : decode cX10_tick 27 = .ok (.iaload, 1) := by decide +kernel
theorem dX10_tick_28 : decode cX10_tick 28 = .ok (.iconst 1, 1) := by decide +kernel
theorem dX10_tick_29 : decode cX10_tick 29 = .ok (.if_icmp .ne 8, 3) := by decide +kernel
theorem dX10_tick_32 : decode cX10_tick 32 = .ok (.aload_n 0, 1) := by decide +kernel
theorem dX10_tick_33 : decode cX10_tick 33 = .ok (.iload_n 1, 1) := by decide +kernel
theorem dX10_tick_34 : decode cX10_tick 34 = .ok (.invokevirtual 246, 3) := by decide +kernel
theorem dX10_tick_37 : decode cX10_tick 37 = .ok (.iinc 1 1, 3) := by decide +kernel
theorem dX10_tick_40 : decode cX10_tick 40 = .ok (.goto (-26), 3) := by decide +kernel
theorem dX10_tick_43 : decode cX10_tick 43 = .ok (.iconst 0, 1) := by decide +kernel
theorem dX10_tick_44 : decode cX10_tick 44 = .ok (.istore_n 1, 1) := by decide +kernel
theorem dX10_tick_45 : decode cX10_tick 45 = .ok (.iload_n 1, 1) := by decide +kernel
theorem dX10_tick_46 : decode cX10_tick 46 = .ok (.aload_n 0, 1) := by decide +kernel
theorem dX10_tick_47 : decode cX10_tick 47 = .ok (.getfield 154, 3) := by decide +kernel
theorem dX10_tick_50 : decode cX10_tick 50 = .ok (.if_icmp .ge 14, 3) := by decide +kernel
theorem dX10_tick_53 : decode cX10_tick 53 = .ok (.aload_n 0, 1) := by decide +kernel
theorem dX10_tick_54 : decode cX10_tick 54 = .ok (.iload_n 1, 1) := by decide +kernel
theorem dX10_tick_55 : decode cX10_tick 55 = .ok (.invokevirtual 249, 3) := by decide +kernel
theorem dX10_tick_58 : decode cX10_tick 58 = .ok (.iinc 1 1, 3) := by decide +kernel
theorem dX10_tick_61 : decode cX10_tick 61 = .ok (.goto (-16), 3) := by decide +kernel
theorem dX10_tick_64 : decode cX10_tick 64 = .ok (.aload_n 0, 1) := by decide +kernel
theorem dX10_tick_65 : decode cX10_tick 65 = .ok (.invokevirtual 252, 3) := by decide +kernel
theorem dX10_tick_68 : decode cX10_tick 68 = .ok (.aload_n 0, 1) := by decide +kernel
theorem dX10_tick_69 : decode cX10_tick 69 = .ok (.invokevirtual 255, 3) := by decide +kernel
theorem dX10_tick_72 : decode cX10_tick 72 = .ok (.aload_n 0, 1) := by decide +kernel
theorem dX10_tick_73 : decode cX10_tick 73 = .ok (.invokevirtual 258, 3) := by decide +kernel
theorem dX10_tick_76 : decode cX10_tick 76 = .ok (.istore_n 1, 1) := by decide +kernel
theorem dX10_tick_77 : decode cX10_tick 77 = .ok (.iload_n 1, 1) := by decide +kernel
theorem dX10_tick_78 : decode cX10_tick 78 = .ok (.ifCond .lt 31, 3) := by decide +kernel
theorem dX10_tick_81 : decode cX10_tick 81 = .ok (.aload_n 0, 1) := by decide +kernel
theorem dX10_tick_82 : decode cX10_tick 82 = .ok (.getfield 82, 3) := by decide +kernel
theorem dX10_tick_85 : decode cX10_tick 85 = .ok (.iconst 2, 1) := by decide +kernel
theorem dX10_tick_86 : decode cX10_tick 86 = .ok (.iaload, 1) := by decide +kernel
theorem dX10_tick_87 : decode cX10_tick 87 = .ok (.ifCond .ge 22, 3) := by decide +kernel
theorem dX10_tick_90 : decode cX10_tick 90 = .ok (.aload_n 0, 1) := by decide +kernel
theorem dX10_tick_91 : decode cX10_tick 91 = .ok (.getfield 82, 3) := by decide +kernel
theorem dX10_tick_94 : decode cX10_tick 94 = .ok (.iconst 2, 1) := by decide +kernel
theorem dX10_tick_95 : decode cX10_tick 95 = .ok (.aload_n 0, 1) := by decide +kernel
theorem dX10_tick_96 : decode cX10_tick 96 = .ok (.getfield 82, 3) := by decide +kernel
theorem dX10_tick_99 : decode cX10_tick 99 = .ok (.iconst 0, 1) := by decide +kernel
theorem dX10_tick_100 : decode cX10_tick 100 = .ok (.iaload, 1) := by decide +kernel
theorem dX10_tick_101 : decode cX10_tick 101 = .ok (.iastore, 1) := by decide +kernel
theorem dX10_tick_102 : decode cX10_tick 102 = .ok (.aload_n 0, 1) := by decide +kernel
theorem dX10_tick_103 : decode cX10_tick 103 = .ok (.getfield 82, 3) := by decide +kernel
theorem dX10_tick_106 : decode cX10_tick 106 = .ok (.iconst 3, 1) := by decide +kernel
theorem dX10_tick_107 : decode cX10_tick 107 = .ok (.iload_n 1, 1) := by decide +kernel
theorem dX10_tick_108 : decode cX10_tick 108 = .ok (.iastore, 1) := by decide +kernel
theorem dX10_tick_109 : decode cX10_tick 109 = .ok (.aload_n 0, 1) := by decide +kernel
theorem dX10_tick_110 : decode cX10_tick 110 = .ok (.getfield 82, 3) := by decide +kernel
theorem dX10_tick_113 : decode cX10_tick 113 = .ok (.iconst 0, 1) := by decide +kernel
theorem dX10_tick_114 : decode cX10_tick 114 = .ok (.dup2, 1) := by decide +kernel
theorem dX10_tick_115 : decode cX10_tick 115 = .ok (.iaload, 1) := by decide +kernel
theorem dX10_tick_116 : decode cX10_tick 116 = .ok (.iconst 1, 1) := by decide +kernel
theorem dX10_tick_117 : decode cX10_tick 117 = .ok (.iadd, 1) := by decide +kernel
theorem dX10_tick_118 : decode cX10_tick 118 = .ok (.iastore, 1) := by decide +kernel
theorem dX10_tick_119 : decode cX10_tick 119 = .ok (.iload_n 1, 1) := by decide +kernel
theorem dX10_tick_120 : decode cX10_tick 120 = .ok (.ifCond .lt 7, 3) := by decide +kernel
theorem dX10_tick_123 : decode cX10_tick 123 = .ok (.iconst 1, 1) := by decide +kernel
theorem dX10_tick_124 : decode cX10_tick 124 = .ok (.goto 4, 3) := by decide +kernel
theorem dX10_tick_127 : decode cX10_tick 127 = .ok (.iconst 0, 1) := by decide +kernel
theorem dX10_tick_128 : decode cX10_tick 128 = .ok (.ireturn, 1) := by decide +kernel
theorem dX10_sun_0 : decode cX10_sun 0 = .ok (.iload_n 1, 1) := by decide +kernel
theorem dX10_sun_1 : decode cX10_sun 1 = .ok (.iconst 0, 1) := by decide +kernel
theorem dX10_sun_2 : decode cX10_sun 2 = .ok (.sipush 500, 3) := by decide +kernel
theorem dX10_sun_5 : decode cX10_sun 5 = .ok (.invokestatic 171, 3) := by decide +kernel
theorem dX10_sun_8 : decode cX10_sun 8 = .ok (.ifCond .eq 14, 3) := by decide +kernel
theorem dX10_sun_11 : decode cX10_sun 11 = .ok (.iload_n 2, 1) := by decide +kernel
theorem dX10_sun_12 : decode cX10_sun 12 = .ok (.iconst 0, 1) := by decide +kernel
theorem dX10_sun_13 : decode cX10_sun 13 = .ok (.sipush 5000, 3) := by decide +kernel
theorem dX10_sun_16 : decode cX10_sun 16 = .ok (.invokestatic 171, 3) := by decide +kernel
theorem dX10_sun_19 : decode cX10_sun 19 = .ok (.ifCond .ne 9, 3) := by decide +kernel
theorem dX10_sun_22 : decode cX10_sun 22 = .ok (.aload_n 0, 1) := by decide +kernel
theorem dX10_sun_23 : decode cX10_sun 23 = .ok (.iconst 1, 1) := by decide +kernel
theorem dX10_sun_24 : decode cX10_sun 24 = .ok (.invokevirtual 160, 3) := by decide +kernel
theorem dX10_sun_27 : decode cX10_sun 27 = .ok (.ireturn, 1) := by decide +kernel
theorem dX10_sun_28 : decode cX10_sun 28 = .ok (.aload_n 0, 1) := by decide +kernel
theorem dX10_sun_29 : decode cX10_sun 29 = .ok (.iload_n 1, 1) := by decide +kernel
theorem dX10_sun_30 : decode cX10_sun 30 = .ok (.putfield 228, 3) := by decide +kernel
theorem dX10_sun_33 : decode cX10_sun 33 = .ok (.aload_n 0, 1) := by decide +kernel
theorem dX10_sun_34 : decode cX10_sun 34 = .ok (.iload_n 2, 1) := by decide +kernel
theorem dX10_sun_35 : decode cX10_sun 35 = .ok (.putfield 85, 3) := by decide +kernel
theorem dX10_sun_38 : decode cX10_sun 38 = .ok (.aload_n 0, 1) := by decide +kernel
theorem dX10_sun_39 : decode cX10_sun 39 = .ok (.getfield 82, 3) := by decide +kernel
theorem dX10_sun_42 : decode cX10_sun 42 = .ok (.iconst 1, 1) := by decide +kernel
theorem dX10_sun_43 : decode cX10_sun 43 = .ok (.aload_n 0, 1) := by decide +kernel
theorem dX10_sun_44 : decode cX10_sun 44 = .ok (.getfield 82, 3) := by decide +kernel
theorem dX10_sun_47 : decode cX10_sun 47 = .ok (.iconst 1, 1) := by decide +kernel
theorem dX10_sun_48 : decode cX10_sun 48 = .ok (.iaload, 1) := by decide +kernel
theorem dX10_sun_49 : decode cX10_sun 49 = .ok (.aload_n 0, 1) := by decide +kernel
theorem dX10_sun_50 : decode cX10_sun 50 = .ok (.getfield 85, 3) := by decide +kernel
theorem dX10_sun_53 : decode cX10_sun 53 = .ok (.invokestatic 231, 3) := by decide +kernel
theorem dX10_sun_56 : decode cX10_sun 56 = .ok (.iastore, 1) := by decide +kernel
theorem dX10_sun_57 : decode cX10_sun 57 = .ok (.aload_n 0, 1) := by decide +kernel
theorem dX10_sun_58 : decode cX10_sun 58 = .ok (.getfield 82, 3) := by decide +kernel
theorem dX10_sun_61 : decode cX10_sun 61 = .ok (.iconst 1, 1) := by decide +kernel
theorem dX10_sun_62 : decode cX10_sun 62 = .ok (.iaload, 1) := by decide +kernel
theorem dX10_sun_63 : decode cX10_sun 63 = .ok (.ireturn, 1) := by decide +kernel
theorem dX10_battery_0 : decode cX10_battery 0 = .ok (.iload_n 1, 1) := by decide +kernel
theorem dX10_battery_1 : decode cX10_battery 1 = .ok (.iconst (-1), 1) := by decide +kernel
theorem dX10_battery_2 : decode cX10_battery 2 = .ok (.aload_n 0, 1) := by decide +kernel
theorem dX10_battery_3 : decode cX10_battery 3 = .ok (.getfield 85, 3) := by decide +kernel
theorem dX10_battery_6 : decode cX10_battery 6 = .ok (.invokestatic 171, 3) := by decide +kernel
theorem dX10_battery_9 : decode cX10_battery 9 = .ok (.ifCond .ne 9, 3) := by decide +kernel
theorem dX10_battery_12 : decode cX10_battery 12 = .ok (.aload_n 0, 1) := by decide +kernel
theorem dX10_battery_13 : decode cX10_battery 13 = .ok (.iconst 1, 1) := by decide +kernel
theorem dX10_battery_14 : decode cX10_battery 14 = .ok (.invokevirtual 160, 3) := by decide +kernel
theorem dX10_battery_17 : decode cX10_battery 17 = .ok (.ireturn, 1) := by decide +kernel
theorem dX10_battery_18 : decode cX10_battery 18 = .ok (.aload_n 0, 1) := by decide +kernel
theorem dX10_battery_19 : decode cX10_battery 19 = .ok (.getfield 82, 3) := by decide +kernel
theorem dX10_battery_22 : decode cX10_battery 22 = .ok (.iconst 1, 1) := by decide +kernel
theorem dX10_battery_23 : decode cX10_battery 23 = .ok (.iaload, 1) := by decide +kernel
theorem dX10_battery_24 : decode cX10_battery 24 = .ok (.istore_n 2, 1) := by decide +kernel
theorem dX10_battery_25 : decode cX10_battery 25 = .ok (.aload_n 0, 1) := by decide +kernel
theorem dX10_battery_26 : decode cX10_battery 26 = .ok (.getfield 82, 3) := by decide +kernel
theorem dX10_battery_29 : decode cX10_battery 29 = .ok (.iconst 1, 1) := by decide +kernel
theorem dX10_battery_30 : decode cX10_battery 30 = .ok (.iload_n 1, 1) := by decide +kernel
theorem dX10_battery_31 : decode cX10_battery 31 = .ok (.ifCond .ge 7, 3) := by decide +kernel
theorem dX10_battery_34 : decode cX10_battery 34 = .ok (.iload_n 2, 1) := by decide +kernel
theorem dX10_battery_35 : decode cX10_battery 35 = .ok (.goto 4, 3) := by decide +kernel
theorem dX10_battery_38 : decode cX10_battery 38 = .ok (.iload_n 1, 1) := by decide +kernel
theorem dX10_battery_39 : decode cX10_battery 39 = .ok (.iastore, 1) := by decide +kernel
theorem dX10_battery_40 : decode cX10_battery 40 = .ok (.iload_n 2, 1) := by decide +kernel
theorem dX10_battery_41 : decode cX10_battery 41 = .ok (.ireturn, 1) := by decide +kernel
theorem dX10_bounds_0 : decode cX10_bounds 0 = .ok (.iload_n 1, 1) := by decide +kernel
theorem dX10_bounds_1 : decode cX10_bounds 1 = .ok (.iconst 0, 1) := by decide +kernel
theorem dX10_bounds_2 : decode cX10_bounds 2 = .ok (.ldc 175, 2) := by decide +kernel
theorem dX10_bounds_4 : decode cX10_bounds 4 = .ok (.invokestatic 171, 3) := by decide +kernel
theorem dX10_bounds_7 : decode cX10_bounds 7 = .ok (.ifCond .eq 23, 3) := by decide +kernel
theorem dX10_bounds_10 : decode cX10_bounds 10 = .ok (.iload_n 2, 1) := by decide +kernel
theorem dX10_bounds_11 : decode cX10_bounds 11 = .ok (.iconst 0, 1) := by decide +kernel
theorem dX10_bounds_12 : decode cX10_bounds 12 = .ok (.ldc 175, 2) := by decide +kernel
theorem dX10_bounds_14 : decode cX10_bounds 14 = .ok (.invokestatic 171, 3) := by decide +kernel
theorem dX10_bounds_17 : decode cX10_bounds 17 = .ok (.ifCond .eq 13, 3) := by decide +kernel
theorem dX10_bounds_20 : decode cX10_bounds 20 = .ok (.iload_n 3, 1) := by decide +kernel
theorem dX10_bounds_21 : decode cX10_bounds 21 = .ok (.iconst 0, 1) := by decide +kernel
theorem dX10_bounds_22 : decode cX10_bounds 22 = .ok (.ldc 175, 2) := by decide +kernel
theorem dX10_bounds_24 : decode cX10_bounds 24 = .ok (.invokestatic 171, 3) := by decide +kernel
theorem dX10_bounds_27 : decode cX10_bounds 27 = .ok (.ifCond .ne 9, 3) := by decide +kernel
theorem dX10_bounds_30 : decode cX10_bounds 30 = .ok (.aload_n 0, 1) := by decide +kernel
theorem dX10_bounds_31 : decode cX10_bounds 31 = .ok (.iconst 1, 1) := by decide +kernel
theorem dX10_bounds_32 : decode cX10_bounds 32 = .ok (.invokevirtual 160, 3) := by decide +kernel
theorem dX10_bounds_35 : decode cX10_bounds 35 = .ok (.ireturn, 1) := by decide +kernel
theorem dX10_bounds_36 : decode cX10_bounds 36 = .ok (.aload_n 0, 1) := by decide +kernel
theorem dX10_bounds_37 : decode cX10_bounds 37 = .ok (.iload_n 1, 1) := by decide +kernel
theorem dX10_bounds_38 : decode cX10_bounds 38 = .ok (.putfield 89, 3) := by decide +kernel
theorem dX10_bounds_41 : decode cX10_bounds 41 = .ok (.aload_n 0, 1) := by decide +kernel
theorem dX10_bounds_42 : decode cX10_bounds 42 = .ok (.iload_n 2, 1) := by decide +kernel
theorem dX10_bounds_43 : decode cX10_bounds 43 = .ok (.putfield 92, 3) := by decide +kernel
theorem dX10_bounds_46 : decode cX10_bounds 46 = .ok (.aload_n 0, 1) := by decide +kernel
theorem dX10_bounds_47 : decode cX10_bounds 47 = .ok (.iload_n 3, 1) := by decide +kernel
theorem dX10_bounds_48 : decode cX10_bounds 48 = .ok (.putfield 95, 3) := by decide +kernel
theorem dX10_bounds_51 : decode cX10_bounds 51 = .ok (.iconst 1, 1) := by decide +kernel
theorem dX10_bounds_52 : decode cX10_bounds 52 = .ok (.ireturn, 1) := by decide +kernel
theorem dX10_ticks_0 : decode cX10_ticks 0 = .ok (.iload_n 1, 1) := by decide +kernel
theorem dX10_ticks_1 : decode cX10_ticks 1 = .ok (.iconst 1, 1) := by decide +kernel
theorem dX10_ticks_2 : decode cX10_ticks 2 = .ok (.bipush 100, 2) := by decide +kernel
theorem dX10_ticks_4 : decode cX10_ticks 4 = .ok (.invokestatic 171, 3) := by decide +kernel
theorem dX10_ticks_7 : decode cX10_ticks 7 = .ok (.ifCond .ne 9, 3) := by decide +kernel
theorem dX10_ticks_10 : decode cX10_ticks 10 = .ok (.aload_n 0, 1) := by decide +kernel
theorem dX10_ticks_11 : decode cX10_ticks 11 = .ok (.iconst 1, 1) := by decide +kernel
theorem dX10_ticks_12 : decode cX10_ticks 12 = .ok (.invokevirtual 160, 3) := by decide +kernel
theorem dX10_ticks_15 : decode cX10_ticks 15 = .ok (.ireturn, 1) := by decide +kernel
theorem dX10_ticks_16 : decode cX10_ticks 16 = .ok (.aload_n 0, 1) := by decide +kernel
theorem dX10_ticks_17 : decode cX10_ticks 17 = .ok (.getfield 82, 3) := by decide +kernel
theorem dX10_ticks_20 : decode cX10_ticks 20 = .ok (.iconst 0, 1) := by decide +kernel
theorem dX10_ticks_21 : decode cX10_ticks 21 = .ok (.iaload, 1) := by decide +kernel
theorem dX10_ticks_22 : decode cX10_ticks 22 = .ok (.iload_n 1, 1) := by decide +kernel
theorem dX10_ticks_23 : decode cX10_ticks 23 = .ok (.iadd, 1) := by decide +kernel
theorem dX10_ticks_24 : decode cX10_ticks 24 = .ok (.sipush 3000, 3) := by decide +kernel
theorem dX10_ticks_27 : decode cX10_ticks 27 = .ok (.if_icmp .le 9, 3) := by decide +kernel
theorem dX10_ticks_30 : decode cX10_ticks 30 = .ok (.aload_n 0, 1) := by decide +kernel
theorem dX10_ticks_31 : decode cX10_ticks 31 = .ok (.iconst 4, 1) := by decide +kernel
theorem dX10_ticks_32 : decode cX10_ticks 32 = .ok (.invokevirtual 160, 3) := by decide +kernel
theorem dX10_ticks_35 : decode cX10_ticks 35 = .ok (.ireturn, 1) := by decide +kernel
theorem dX10_ticks_36 : decode cX10_ticks 36 = .ok (.iconst 0, 1) := by decide +kernel
theorem dX10_ticks_37 : decode cX10_ticks 37 = .ok (.istore_n 2, 1) := by decide +kernel
theorem dX10_ticks_38 : decode cX10_ticks 38 = .ok (.iload_n 2, 1) := by decide +kernel
theorem dX10_ticks_39 : decode cX10_ticks 39 = .ok (.iload_n 1, 1) := by decide +kernel
theorem dX10_ticks_40 : decode cX10_ticks 40 = .ok (.if_icmp .ge 14, 3) := by decide +kernel
theorem dX10_ticks_43 : decode cX10_ticks 43 = .ok (.aload_n 0, 1) := by decide +kernel
theorem dX10_ticks_44 : decode cX10_ticks 44 = .ok (.invokevirtual 262, 3) := by decide +kernel
theorem dX10_ticks_47 : decode cX10_ticks 47 = .ok (.istore_n 3, 1) := by decide +kernel
theorem dX10_ticks_48 : decode cX10_ticks 48 = .ok (.iinc 2 1, 3) := by decide +kernel
theorem dX10_ticks_51 : decode cX10_ticks 51 = .ok (.goto (-13), 3) := by decide +kernel
theorem dX10_ticks_54 : decode cX10_ticks 54 = .ok (.aload_n 0, 1) := by decide +kernel
theorem dX10_ticks_55 : decode cX10_ticks 55 = .ok (.getfield 82, 3) := by decide +kernel
theorem dX10_ticks_58 : decode cX10_ticks 58 = .ok (.iconst 0, 1) := by decide +kernel
theorem dX10_ticks_59 : decode cX10_ticks 59 = .ok (.iaload, 1) := by decide +kernel
theorem dX10_ticks_60 : decode cX10_ticks 60 = .ok (.ireturn, 1) := by decide +kernel
theorem dX10_broke_0 : decode cX10_broke 0 = .ok (.iload_n 1, 1) := by decide +kernel
theorem dX10_broke_1 : decode cX10_broke 1 = .ok (.iconst 0, 1) := by decide +kernel
theorem dX10_broke_2 : decode cX10_broke 2 = .ok (.iconst 1, 1) := by decide +kernel
theorem dX10_broke_3 : decode cX10_broke 3 = .ok (.invokestatic 171, 3) := by decide +kernel
theorem dX10_broke_6 : decode cX10_broke 6 = .ok (.ifCond .ne 9, 3) := by decide +kernel
theorem dX10_broke_9 : decode cX10_broke 9 = .ok (.aload_n 0, 1) := by decide +kernel
theorem dX10_broke_10 : decode cX10_broke 10 = .ok (.iconst 1, 1) := by decide +kernel
theorem dX10_broke_11 : decode cX10_broke 11 = .ok (.invokevirtual 160, 3) := by decide +kernel
theorem dX10_broke_14 : decode cX10_broke 14 = .ok (.ireturn, 1) := by decide +kernel
theorem dX10_broke_15 : decode cX10_broke 15 = .ok (.aload_n 0, 1) := by decide +kernel
theorem dX10_broke_16 : decode cX10_broke 16 = .ok (.getfield 82, 3) := by decide +kernel
theorem dX10_broke_19 : decode cX10_broke 19 = .ok (.iconst 2, 1) := by decide +kernel
theorem dX10_broke_20 : decode cX10_broke 20 = .ok (.iaload, 1) := by decide +kernel
theorem dX10_broke_21 : decode cX10_broke 21 = .ok (.ifCond .ge 11, 3) := by decide +kernel
theorem dX10_broke_24 : decode cX10_broke 24 = .ok (.aload_n 0, 1) := by decide +kernel
theorem dX10_broke_25 : decode cX10_broke 25 = .ok (.iconst 2, 1) := by decide +kernel
theorem dX10_broke_26 : decode cX10_broke 26 = .ok (.invokevirtual 160, 3) := by decide +kernel
theorem dX10_broke_29 : decode cX10_broke 29 = .ok (.goto 11, 3) := by decide +kernel
theorem dX10_broke_32 : decode cX10_broke 32 = .ok (.aload_n 0, 1) := by decide +kernel
theorem dX10_broke_33 : decode cX10_broke 33 = .ok (.getfield 82, 3) := by decide +kernel
theorem dX10_broke_36 : decode cX10_broke 36 = .ok (.iconst 2, 1) := by decide +kernel
theorem dX10_broke_37 : decode cX10_broke 37 = .ok (.iload_n 1, 1) := by decide +kernel
theorem dX10_broke_38 : decode cX10_broke 38 = .ok (.iadd, 1) := by decide +kernel
theorem dX10_broke_39 : decode cX10_broke 39 = .ok (.iaload, 1) := by decide +kernel
theorem dX10_broke_40 : decode cX10_broke 40 = .ok (.ireturn, 1) := by decide +kernel
theorem dX10_lays_0 : decode cX10_lays 0 = .ok (.iconst 0, 1) := by decide +kernel
theorem dX10_lays_1 : decode cX10_lays 1 = .ok (.istore_n 3, 1) := by decide +kernel
theorem dX10_lays_2 : decode cX10_lays 2 = .ok (.iload_n 3, 1) := by decide +kernel
theorem dX10_lays_3 : decode cX10_lays 3 = .ok (.aload_n 1, 1) := by decide +kernel
theorem dX10_lays_4 : decode cX10_lays 4 = .ok (.arraylength, 1) := by decide +kernel
theorem dX10_lays_5 : decode cX10_lays 5 = .ok (.if_icmp .ge 50, 3) := by decide +kernel
theorem dX10_lays_8 : decode cX10_lays 8 = .ok (.iload_n 2, 1) := by decide +kernel
theorem dX10_lays_9 : decode cX10_lays 9 = .ok (.ifCond .eq 18, 3) := by decide +kernel
theorem dX10_lays_12 : decode cX10_lays 12 = .ok (.aload_n 0, 1) := by decide +kernel
theorem dX10_lays_13 : decode cX10_lays 13 = .ok (.getfield 144, 3) := by decide +kernel
theorem dX10_lays_16 : decode cX10_lays 16 = .ok (.aload_n 0, 1) := by decide +kernel
theorem dX10_lays_17 : decode cX10_lays 17 = .ok (.getfield 266, 3) := by decide +kernel
theorem dX10_lays_20 : decode cX10_lays 20 = .ok (.aload_n 1, 1) := by decide +kernel
theorem dX10_lays_21 : decode cX10_lays 21 = .ok (.iload_n 3, 1) := by decide +kernel
theorem dX10_lays_22 : decode cX10_lays 22 = .ok (.iaload, 1) := by decide +kernel
theorem dX10_lays_23 : decode cX10_lays 23 = .ok (.iastore, 1) := by decide +kernel
theorem dX10_lays_24 : decode cX10_lays 24 = .ok (.goto 15, 3) := by decide +kernel
theorem dX10_lays_27 : decode cX10_lays 27 = .ok (.aload_n 1, 1) := by decide +kernel
theorem dX10_lays_28 : decode cX10_lays 28 = .ok (.iload_n 3, 1) := by decide +kernel
theorem dX10_lays_29 : decode cX10_lays 29 = .ok (.aload_n 0, 1) := by decide +kernel
theorem dX10_lays_30 : decode cX10_lays 30 = .ok (.getfield 144, 3) := by decide +kernel
theorem dX10_lays_33 : decode cX10_lays 33 = .ok (.aload_n 0, 1) := by decide +kernel
theorem dX10_lays_34 : decode cX10_lays 34 = .ok (.getfield 266, 3) := by decide +kernel
theorem dX10_lays_37 : decode cX10_lays 37 = .ok (.iaload, 1) := by decide +kernel
theorem dX10_lays_38 : decode cX10_lays 38 = .ok (.iastore, 1) := by decide +kernel
theorem dX10_lays_39 : decode cX10_lays 39 = .ok (.aload_n 0, 1) := by decide +kernel
theorem dX10_lays_40 : decode cX10_lays 40 = .ok (.dup, 1) := by decide +kernel
theorem dX10_lays_41 : decode cX10_lays 41 = .ok (.getfield 266, 3) := by decide +kernel
theorem dX10_lays_44 : decode cX10_lays 44 = .ok (.iconst 1, 1) := by decide +kernel
theorem dX10_lays_45 : decode cX10_lays 45 = .ok (.iadd, 1) := by decide +kernel
theorem dX10_lays_46 : decode cX10_lays 46 = .ok (.putfield 266, 3) := by decide +kernel
theorem dX10_lays_49 : decode cX10_lays 49 = .ok (.iinc 3 1, 3) := by decide +kernel
theorem dX10_lays_52 : decode cX10_lays 52 = .ok (.goto (-50), 3) := by decide +kernel
theorem dX10_lays_55 : decode cX10_lays 55 = .ok (.return_, 1) := by decide +kernel
theorem dX10_layAside_0 : decode cX10_layAside 0 = .ok (.aload_n 0, 1) := by decide +kernel
theorem dX10_layAside_1 : decode cX10_layAside 1 = .ok (.iconst 0, 1) := by decide +kernel
theorem dX10_layAside_2 : decode cX10_layAside 2 = .ok (.putfield 266, 3) := by decide +kernel
theorem dX10_layAside_5 : decode cX10_layAside 5 = .ok (.aload_n 0, 1) := by decide +kernel
theorem dX10_layAside_6 : decode cX10_layAside 6 = .ok (.aload_n 0, 1) := by decide +kernel
theorem dX10_layAside_7 : decode cX10_layAside 7 = .ok (.getfield 7, 3) := by decide +kernel
theorem dX10_layAside_10 : decode cX10_layAside 10 = .ok (.iload_n 1, 1) := by decide +kernel
theorem dX10_layAside_11 : decode cX10_layAside 11 = .ok (.invokevirtual 269, 3) := by decide +kernel
theorem dX10_layAside_14 : decode cX10_layAside 14 = .ok (.aload_n 0, 1) := by decide +kernel
theorem dX10_layAside_15 : decode cX10_layAside 15 = .ok (.aload_n 0, 1) := by decide +kernel
theorem dX10_layAside_16 : decode cX10_layAside 16 = .ok (.getfield 13, 3) := by decide +kernel
theorem dX10_layAside_19 : decode cX10_layAside 19 = .ok (.iload_n 1, 1) := by decide +kernel
theorem dX10_layAside_20 : decode cX10_layAside 20 = .ok (.invokevirtual 269, 3) := by decide +kernel
theorem dX10_layAside_23 : decode cX10_layAside 23 = .ok (.aload_n 0, 1) := by decide +kernel
theorem dX10_layAside_24 : decode cX10_layAside 24 = .ok (.aload_n 0, 1) := by decide +kernel
theorem dX10_layAside_25 : decode cX10_layAside 25 = .ok (.getfield 25, 3) := by decide +kernel
theorem dX10_layAside_28 : decode cX10_layAside 28 = .ok (.iload_n 1, 1) := by decide +kernel
theorem dX10_layAside_29 : decode cX10_layAside 29 = .ok (.invokevirtual 269, 3) := by decide +kernel
theorem dX10_layAside_32 : decode cX10_layAside 32 = .ok (.aload_n 0, 1) := by decide +kernel
theorem dX10_layAside_33 : decode cX10_layAside 33 = .ok (.aload_n 0, 1) := by decide +kernel
theorem dX10_layAside_34 : decode cX10_layAside 34 = .ok (.getfield 28, 3) := by decide +kernel
theorem dX10_layAside_37 : decode cX10_layAside 37 = .ok (.iload_n 1, 1) := by decide +kernel
theorem dX10_layAside_38 : decode cX10_layAside 38 = .ok (.invokevirtual 269, 3) := by decide +kernel
theorem dX10_layAside_41 : decode cX10_layAside 41 = .ok (.aload_n 0, 1) := by decide +kernel
theorem dX10_layAside_42 : decode cX10_layAside 42 = .ok (.aload_n 0, 1) := by decide +kernel
theorem dX10_layAside_43 : decode cX10_layAside 43 = .ok (.getfield 31, 3) := by decide +kernel
theorem dX10_layAside_46 : decode cX10_layAside 46 = .ok (.iload_n 1, 1) := by decide +kernel
theorem dX10_layAside_47 : decode cX10_layAside 47 = .ok (.invokevirtual 269, 3) := by decide +kernel
theorem dX10_layAside_50 : decode cX10_layAside 50 = .ok (.aload_n 0, 1) := by decide +kernel
theorem dX10_layAside_51 : decode cX10_layAside 51 = .ok (.aload_n 0, 1) := by decide +kernel
theorem dX10_layAside_52 : decode cX10_layAside 52 = .ok (.getfield 34, 3) := by decide +kernel
theorem dX10_layAside_55 : decode cX10_layAside 55 = .ok (.iload_n 1, 1) := by decide +kernel
theorem dX10_layAside_56 : decode cX10_layAside 56 = .ok (.invokevirtual 269, 3) := by decide +kernel
theorem dX10_layAside_59 : decode cX10_layAside 59 = .ok (.aload_n 0, 1) := by decide +kernel
theorem dX10_layAside_60 : decode cX10_layAside 60 = .ok (.aload_n 0, 1) := by decide +kernel
theorem dX10_layAside_61 : decode cX10_layAside 61 = .ok (.getfield 37, 3) := by decide +kernel
theorem dX10_layAside_64 : decode cX10_layAside 64 = .ok (.iload_n 1, 1) := by decide +kernel
theorem dX10_layAside_65 : decode cX10_layAside 65 = .ok (.invokevirtual 269, 3) := by decide +kernel
theorem dX10_layAside_68 : decode cX10_layAside 68 = .ok (.aload_n 0, 1) := by decide +kernel
theorem dX10_layAside_69 : decode cX10_layAside 69 = .ok (.aload_n 0, 1) := by decide +kernel
theorem dX10_layAside_70 : decode cX10_layAside 70 = .ok (.getfield 40, 3) := by decide +kernel
theorem dX10_layAside_73 : decode cX10_layAside 73 = .ok (.iload_n 1, 1) := by decide +kernel
theorem dX10_layAside_74 : decode cX10_layAside 74 = .ok (.invokevirtual 269, 3) := by decide +kernel
theorem dX10_layAside_77 : decode cX10_layAside 77 = .ok (.aload_n 0, 1) := by decide +kernel
theorem dX10_layAside_78 : decode cX10_layAside 78 = .ok (.aload_n 0, 1) := by decide +kernel
theorem dX10_layAside_79 : decode cX10_layAside 79 = .ok (.getfield 43, 3) := by decide +kernel
theorem dX10_layAside_82 : decode cX10_layAside 82 = .ok (.iload_n 1, 1) := by decide +kernel
theorem dX10_layAside_83 : decode cX10_layAside 83 = .ok (.invokevirtual 269, 3) := by decide +kernel
theorem dX10_layAside_86 : decode cX10_layAside 86 = .ok (.aload_n 0, 1) := by decide +kernel
theorem dX10_layAside_87 : decode cX10_layAside 87 = .ok (.aload_n 0, 1) := by decide +kernel
theorem dX10_layAside_88 : decode cX10_layAside 88 = .ok (.getfield 46, 3) := by decide +kernel
theorem dX10_layAside_91 : decode cX10_layAside 91 = .ok (.iload_n 1, 1) := by decide +kernel
theorem dX10_layAside_92 : decode cX10_layAside 92 = .ok (.invokevirtual 269, 3) := by decide +kernel
theorem dX10_layAside_95 : decode cX10_layAside 95 = .ok (.aload_n 0, 1) := by decide +kernel
theorem dX10_layAside_96 : decode cX10_layAside 96 = .ok (.aload_n 0, 1) := by decide +kernel
theorem dX10_layAside_97 : decode cX10_layAside 97 = .ok (.getfield 67, 3) := by decide +kernel
theorem dX10_layAside_100 : decode cX10_layAside 100 = .ok (.iload_n 1, 1) := by decide +kernel
theorem dX10_layAside_101 : decode cX10_layAside 101 = .ok (.invokevirtual 269, 3) := by decide +kernel
theorem dX10_layAside_104 : decode cX10_layAside 104 = .ok (.aload_n 0, 1) := by decide +kernel
theorem dX10_layAside_105 : decode cX10_layAside 105 = .ok (.aload_n 0, 1) := by decide +kernel
theorem dX10_layAside_106 : decode cX10_layAside 106 = .ok (.getfield 70, 3) := by decide +kernel
theorem dX10_layAside_109 : decode cX10_layAside 109 = .ok (.iload_n 1, 1) := by decide +kernel
theorem dX10_layAside_110 : decode cX10_layAside 110 = .ok (.invokevirtual 269, 3) := by decide +kernel
theorem dX10_layAside_113 : decode cX10_layAside 113 = .ok (.aload_n 0, 1) := by decide +kernel
theorem dX10_layAside_114 : decode cX10_layAside 114 = .ok (.aload_n 0, 1) := by decide +kernel
theorem dX10_layAside_115 : decode cX10_layAside 115 = .ok (.getfield 73, 3) := by decide +kernel
theorem dX10_layAside_118 : decode cX10_layAside 118 = .ok (.iload_n 1, 1) := by decide +kernel
theorem dX10_layAside_119 : decode cX10_layAside 119 = .ok (.invokevirtual 269, 3) := by decide +kernel
theorem dX10_layAside_122 : decode cX10_layAside 122 = .ok (.aload_n 0, 1) := by decide +kernel
theorem dX10_layAside_123 : decode cX10_layAside 123 = .ok (.aload_n 0, 1) := by decide +kernel
theorem dX10_layAside_124 : decode cX10_layAside 124 = .ok (.getfield 76, 3) := by decide +kernel
theorem dX10_layAside_127 : decode cX10_layAside 127 = .ok (.iload_n 1, 1) := by decide +kernel
theorem dX10_layAside_128 : decode cX10_layAside 128 = .ok (.invokevirtual 269, 3) := by decide +kernel
theorem dX10_layAside_131 : decode cX10_layAside 131 = .ok (.aload_n 0, 1) := by decide +kernel
theorem dX10_layAside_132 : decode cX10_layAside 132 = .ok (.aload_n 0, 1) := by decide +kernel
theorem dX10_layAside_133 : decode cX10_layAside 133 = .ok (.getfield 79, 3) := by decide +kernel
theorem dX10_layAside_136 : decode cX10_layAside 136 = .ok (.iload_n 1, 1) := by decide +kernel
theorem dX10_layAside_137 : decode cX10_layAside 137 = .ok (.invokevirtual 269, 3) := by decide +kernel
theorem dX10_layAside_140 : decode cX10_layAside 140 = .ok (.aload_n 0, 1) := by decide +kernel
theorem dX10_layAside_141 : decode cX10_layAside 141 = .ok (.aload_n 0, 1) := by decide +kernel
theorem dX10_layAside_142 : decode cX10_layAside 142 = .ok (.getfield 82, 3) := by decide +kernel
theorem dX10_layAside_145 : decode cX10_layAside 145 = .ok (.iload_n 1, 1) := by decide +kernel
theorem dX10_layAside_146 : decode cX10_layAside 146 = .ok (.invokevirtual 269, 3) := by decide +kernel
theorem dX10_layAside_149 : decode cX10_layAside 149 = .ok (.return_, 1) := by decide +kernel
theorem dX10_ahead_0 : decode cX10_ahead 0 = .ok (.iload_n 1, 1) := by decide +kernel
theorem dX10_ahead_1 : decode cX10_ahead 1 = .ok (.iconst 1, 1) := by decide +kernel
theorem dX10_ahead_2 : decode cX10_ahead 2 = .ok (.sipush 200, 3) := by decide +kernel
theorem dX10_ahead_5 : decode cX10_ahead 5 = .ok (.invokestatic 171, 3) := by decide +kernel
theorem dX10_ahead_8 : decode cX10_ahead 8 = .ok (.ifCond .ne 9, 3) := by decide +kernel
theorem dX10_ahead_11 : decode cX10_ahead 11 = .ok (.aload_n 0, 1) := by decide +kernel
theorem dX10_ahead_12 : decode cX10_ahead 12 = .ok (.iconst 1, 1) := by decide +kernel
theorem dX10_ahead_13 : decode cX10_ahead 13 = .ok (.invokevirtual 160, 3) := by decide +kernel
theorem dX10_ahead_16 : decode cX10_ahead 16 = .ok (.ireturn, 1) := by decide +kernel
theorem dX10_ahead_17 : decode cX10_ahead 17 = .ok (.aload_n 0, 1) := by decide +kernel
theorem dX10_ahead_18 : decode cX10_ahead 18 = .ok (.iconst 1, 1) := by decide +kernel
theorem dX10_ahead_19 : decode cX10_ahead 19 = .ok (.invokevirtual 273, 3) := by decide +kernel
theorem dX10_ahead_22 : decode cX10_ahead 22 = .ok (.iconst 0, 1) := by decide +kernel
theorem dX10_ahead_23 : decode cX10_ahead 23 = .ok (.istore_n 2, 1) := by decide +kernel
theorem dX10_ahead_24 : decode cX10_ahead 24 = .ok (.iconst 1, 1) := by decide +kernel
theorem dX10_ahead_25 : decode cX10_ahead 25 = .ok (.istore_n 3, 1) := by decide +kernel
theorem dX10_ahead_26 : decode cX10_ahead 26 = .ok (.iload_n 3, 1) := by decide +kernel
theorem dX10_ahead_27 : decode cX10_ahead 27 = .ok (.iload_n 1, 1) := by decide +kernel
theorem dX10_ahead_28 : decode cX10_ahead 28 = .ok (.if_icmp .gt 26, 3) := by decide +kernel
theorem dX10_ahead_31 : decode cX10_ahead 31 = .ok (.iload_n 2, 1) := by decide +kernel
theorem dX10_ahead_32 : decode cX10_ahead 32 = .ok (.ifCond .ne 22, 3) := by decide +kernel
theorem dX10_ahead_35 : decode cX10_ahead 35 = .ok (.aload_n 0, 1) := by decide +kernel
theorem dX10_ahead_36 : decode cX10_ahead 36 = .ok (.invokevirtual 262, 3) := by decide +kernel
theorem dX10_ahead_39 : decode cX10_ahead 39 = .ok (.ifCond .eq 7, 3) := by decide +kernel
theorem dX10_ahead_42 : decode cX10_ahead 42 = .ok (.iload_n 3, 1) := by decide +kernel
theorem dX10_ahead_43 : decode cX10_ahead 43 = .ok (.goto 4, 3) := by decide +kernel
theorem dX10_ahead_46 : decode cX10_ahead 46 = .ok (.iconst 0, 1) := by decide +kernel
theorem dX10_ahead_47 : decode cX10_ahead 47 = .ok (.istore_n 2, 1) := by decide +kernel
theorem dX10_ahead_48 : decode cX10_ahead 48 = .ok (.iinc 3 1, 3) := by decide +kernel
theorem dX10_ahead_51 : decode cX10_ahead 51 = .ok (.goto (-25), 3) := by decide +kernel
theorem dX10_ahead_54 : decode cX10_ahead 54 = .ok (.aload_n 0, 1) := by decide +kernel
theorem dX10_ahead_55 : decode cX10_ahead 55 = .ok (.iconst 0, 1) := by decide +kernel
theorem dX10_ahead_56 : decode cX10_ahead 56 = .ok (.invokevirtual 273, 3) := by decide +kernel
theorem dX10_ahead_59 : decode cX10_ahead 59 = .ok (.iload_n 2, 1) := by decide +kernel
theorem dX10_ahead_60 : decode cX10_ahead 60 = .ok (.ireturn, 1) := by decide +kernel
theorem dX10_partOf_0 : decode cX10_partOf 0 = .ok (.iconst 1, 1) := by decide +kernel
theorem dX10_partOf_1 : decode cX10_partOf 1 = .ok (.iload_n 1, 1) := by decide +kernel
theorem dX10_partOf_2 : decode cX10_partOf 2 = .ok (.ishl, 1) := by decide +kernel
theorem dX10_partOf_3 : decode cX10_partOf 3 = .ok (.istore_n 3, 1) := by decide +kernel
theorem dX10_partOf_4 : decode cX10_partOf 4 = .ok (.iconst 0, 1) := by decide +kernel
theorem dX10_partOf_5 : decode cX10_partOf 5 = .ok (.istore 4, 2) := by decide +kernel
theorem dX10_partOf_7 : decode cX10_partOf 7 = .ok (.iload_n 3, 1) := by decide +kernel
theorem dX10_partOf_8 : decode cX10_partOf 8 = .ok (.iload 4, 2) := by decide +kernel
theorem dX10_partOf_10 : decode cX10_partOf 10 = .ok (.if_icmp .eq 104, 3) := by decide +kernel
theorem dX10_partOf_13 : decode cX10_partOf 13 = .ok (.iload_n 3, 1) := by decide +kernel
theorem dX10_partOf_14 : decode cX10_partOf 14 = .ok (.istore 4, 2) := by decide +kernel
theorem dX10_partOf_16 : decode cX10_partOf 16 = .ok (.iconst 0, 1) := by decide +kernel
theorem dX10_partOf_17 : decode cX10_partOf 17 = .ok (.istore 5, 2) := by decide +kernel
theorem dX10_partOf_19 : decode cX10_partOf 19 = .ok (.iload 5, 2) := by decide +kernel
theorem dX10_partOf_21 : decode cX10_partOf 21 = .ok (.aload_n 0, 1) := by decide +kernel
theorem dX10_partOf_22 : decode cX10_partOf 22 = .ok (.getfield 151, 3) := by decide +kernel
theorem dX10_partOf_25 : decode cX10_partOf 25 = .ok (.if_icmp .ge 86, 3) := by decide +kernel
theorem dX10_partOf_28 : decode cX10_partOf 28 = .ok (.iload_n 3, 1) := by decide +kernel
theorem dX10_partOf_29 : decode cX10_partOf 29 = .ok (.aload_n 0, 1) := by decide +kernel
theorem dX10_partOf_30 : decode cX10_partOf 30 = .ok (.getfield 19, 3) := by decide +kernel
theorem dX10_partOf_33 : decode cX10_partOf 33 = .ok (.iload 5, 2) := by decide +kernel
theorem dX10_partOf_35 : decode cX10_partOf 35 = .ok (.iaload, 1) := by decide +kernel
theorem dX10_partOf_36 : decode cX10_partOf 36 = .ok (.ishr, 1) := by decide +kernel
theorem dX10_partOf_37 : decode cX10_partOf 37 = .ok (.iconst 1, 1) := by decide +kernel
theorem dX10_partOf_38 : decode cX10_partOf 38 = .ok (.iand, 1) := by decide +kernel
theorem dX10_partOf_39 : decode cX10_partOf 39 = .ok (.iconst 1, 1) := by decide +kernel
theorem dX10_partOf_40 : decode cX10_partOf 40 = .ok (.if_icmp .eq 18, 3) := by decide +kernel
theorem dX10_partOf_43 : decode cX10_partOf 43 = .ok (.iload_n 3, 1) := by decide +kernel
theorem dX10_partOf_44 : decode cX10_partOf 44 = .ok (.aload_n 0, 1) := by decide +kernel
theorem dX10_partOf_45 : decode cX10_partOf 45 = .ok (.getfield 22, 3) := by decide +kernel
theorem dX10_partOf_48 : decode cX10_partOf 48 = .ok (.iload 5, 2) := by decide +kernel
theorem dX10_partOf_50 : decode cX10_partOf 50 = .ok (.iaload, 1) := by decide +kernel
theorem dX10_partOf_51 : decode cX10_partOf 51 = .ok (.ishr, 1) := by decide +kernel
theorem dX10_partOf_52 : decode cX10_partOf 52 = .ok (.iconst 1, 1) := by decide +kernel
theorem dX10_partOf_53 : decode cX10_partOf 53 = .ok (.iand, 1) := by decide +kernel
theorem dX10_partOf_54 : decode cX10_partOf 54 = .ok (.iconst 1, 1) := by decide +kernel
theorem dX10_partOf_55 : decode cX10_partOf 55 = .ok (.if_icmp .ne 7, 3) := by decide +kernel
theorem dX10_partOf_58 : decode cX10_partOf 58 = .ok (.iconst 1, 1) := by decide +kernel
theorem dX10_partOf_59 : decode cX10_partOf 59 = .ok (.goto 4, 3) := by decide +kernel
theorem dX10_partOf_62 : decode cX10_partOf 62 = .ok (.iconst 0, 1) := by decide +kernel
theorem dX10_partOf_63 : decode cX10_partOf 63 = .ok (.istore 6, 2) := by decide +kernel
theorem dX10_partOf_65 : decode cX10_partOf 65 = .ok (.iload_n 3, 1) := by decide +kernel
theorem dX10_partOf_66 : decode cX10_partOf 66 = .ok (.iload_n 2, 1) := by decide +kernel
theorem dX10_partOf_67 : decode cX10_partOf 67 = .ok (.iload 5, 2) := by decide +kernel
theorem dX10_partOf_69 : decode cX10_partOf 69 = .ok (.ishr, 1) := by decide +kernel
theorem dX10_partOf_70 : decode cX10_partOf 70 = .ok (.iconst 1, 1) := by decide +kernel
theorem dX10_partOf_71 : decode cX10_partOf 71 = .ok (.iand, 1) := by decide +kernel
theorem dX10_partOf_72 : decode cX10_partOf 72 = .ok (.ifCond .ne 30, 3) := by decide +kernel
theorem dX10_partOf_75 : decode cX10_partOf 75 = .ok (.iload 6, 2) := by decide +kernel
theorem dX10_partOf_77 : decode cX10_partOf 77 = .ok (.ifCond .eq 25, 3) := by decide +kernel
theorem dX10_partOf_80 : decode cX10_partOf 80 = .ok (.iconst 1, 1) := by decide +kernel
theorem dX10_partOf_81 : decode cX10_partOf 81 = .ok (.aload_n 0, 1) := by decide +kernel
theorem dX10_partOf_82 : decode cX10_partOf 82 = .ok (.getfield 19, 3) := by decide +kernel
theorem dX10_partOf_85 : decode cX10_partOf 85 = .ok (.iload 5, 2) := by decide +kernel
theorem dX10_partOf_87 : decode cX10_partOf 87 = .ok (.iaload, 1) := by decide +kernel
theorem dX10_partOf_88 : decode cX10_partOf 88 = .ok (.ishl, 1) := by decide +kernel
theorem dX10_partOf_89 : decode cX10_partOf 89 = .ok (.iconst 1, 1) := by decide +kernel
theorem dX10_partOf_90 : decode cX10_partOf 90 = .ok (.aload_n 0, 1) := by decide +kernel
theorem dX10_partOf_91 : decode cX10_partOf 91 = .ok (.getfield 22, 3) := by decide +kernel
theorem dX10_partOf_94 : decode cX10_partOf 94 = .ok (.iload 5, 2) := by decide +kernel
theorem dX10_partOf_96 : decode cX10_partOf 96 = .ok (.iaload, 1) := by decide +kernel
theorem dX10_partOf_97 : decode cX10_partOf 97 = .ok (.ishl, 1) := by decide +kernel
theorem dX10_partOf_98 : decode cX10_partOf 98 = .ok (.ior, 1) := by decide +kernel
theorem dX10_partOf_99 : decode cX10_partOf 99 = .ok (.goto 4, 3) := by decide +kernel
theorem dX10_partOf_102 : decode cX10_partOf 102 = .ok (.iconst 0, 1) := by decide +kernel
theorem dX10_partOf_103 : decode cX10_partOf 103 = .ok (.ior, 1) := by decide +kernel
theorem dX10_partOf_104 : decode cX10_partOf 104 = .ok (.istore_n 3, 1) := by decide +kernel
theorem dX10_partOf_105 : decode cX10_partOf 105 = .ok (.iinc 5 1, 3) := by decide +kernel
theorem dX10_partOf_108 : decode cX10_partOf 108 = .ok (.goto (-89), 3) := by decide +kernel
theorem dX10_partOf_111 : decode cX10_partOf 111 = .ok (.goto (-104), 3) := by decide +kernel
theorem dX10_partOf_114 : decode cX10_partOf 114 = .ok (.iload_n 3, 1) := by decide +kernel
theorem dX10_partOf_115 : decode cX10_partOf 115 = .ok (.ireturn, 1) := by decide +kernel
theorem dX10_ones_0 : decode cX10_ones 0 = .ok (.iconst 0, 1) := by decide +kernel
theorem dX10_ones_1 : decode cX10_ones 1 = .ok (.istore_n 1, 1) := by decide +kernel
theorem dX10_ones_2 : decode cX10_ones 2 = .ok (.iconst 0, 1) := by decide +kernel
theorem dX10_ones_3 : decode cX10_ones 3 = .ok (.istore_n 2, 1) := by decide +kernel
theorem dX10_ones_4 : decode cX10_ones 4 = .ok (.iload_n 2, 1) := by decide +kernel
theorem dX10_ones_5 : decode cX10_ones 5 = .ok (.bipush 8, 2) := by decide +kernel
theorem dX10_ones_7 : decode cX10_ones 7 = .ok (.if_icmp .ge 17, 3) := by decide +kernel
theorem dX10_ones_10 : decode cX10_ones 10 = .ok (.iload_n 1, 1) := by decide +kernel
theorem dX10_ones_11 : decode cX10_ones 11 = .ok (.iload_n 0, 1) := by decide +kernel
theorem dX10_ones_12 : decode cX10_ones 12 = .ok (.iload_n 2, 1) := by decide +kernel
theorem dX10_ones_13 : decode cX10_ones 13 = .ok (.ishr, 1) := by decide +kernel
theorem dX10_ones_14 : decode cX10_ones 14 = .ok (.iconst 1, 1) := by decide +kernel
theorem dX10_ones_15 : decode cX10_ones 15 = .ok (.iand, 1) := by decide +kernel
theorem dX10_ones_16 : decode cX10_ones 16 = .ok (.iadd, 1) := by decide +kernel
theorem dX10_ones_17 : decode cX10_ones 17 = .ok (.istore_n 1, 1) := by decide +kernel
theorem dX10_ones_18 : decode cX10_ones 18 = .ok (.iinc 2 1, 3) := by decide +kernel
theorem dX10_ones_21 : decode cX10_ones 21 = .ok (.goto (-17), 3) := by decide +kernel
theorem dX10_ones_24 : decode cX10_ones 24 = .ok (.iload_n 1, 1) := by decide +kernel
theorem dX10_ones_25 : decode cX10_ones 25 = .ok (.ireturn, 1) := by decide +kernel
theorem dX10_hunt_0 : decode cX10_hunt 0 = .ok (.aload_n 0, 1) := by decide +kernel
theorem dX10_hunt_1 : decode cX10_hunt 1 = .ok (.iconst 1, 1) := by decide +kernel
theorem dX10_hunt_2 : decode cX10_hunt 2 = .ok (.aload_n 0, 1) := by decide +kernel
theorem dX10_hunt_3 : decode cX10_hunt 3 = .ok (.getfield 148, 3) := by decide +kernel
theorem dX10_hunt_6 : decode cX10_hunt 6 = .ok (.ishl, 1) := by decide +kernel
theorem dX10_hunt_7 : decode cX10_hunt 7 = .ok (.iconst 1, 1) := by decide +kernel
theorem dX10_hunt_8 : decode cX10_hunt 8 = .ok (.isub, 1) := by decide +kernel
theorem dX10_hunt_9 : decode cX10_hunt 9 = .ok (.putfield 277, 3) := by decide +kernel
theorem dX10_hunt_12 : decode cX10_hunt 12 = .ok (.aload_n 0, 1) := by decide +kernel
theorem dX10_hunt_13 : decode cX10_hunt 13 = .ok (.getfield 148, 3) := by decide +kernel
theorem dX10_hunt_16 : decode cX10_hunt 16 = .ok (.ireturn, 1) := by decide +kernel
theorem dX10_test_0 : decode cX10_test 0 = .ok (.aload_n 0, 1) := by decide +kernel
theorem dX10_test_1 : decode cX10_test 1 = .ok (.iload_n 2, 1) := by decide +kernel
theorem dX10_test_2 : decode cX10_test 2 = .ok (.invokevirtual 164, 3) := by decide +kernel
theorem dX10_test_5 : decode cX10_test 5 = .ok (.ifCond .eq 19, 3) := by decide +kernel
theorem dX10_test_8 : decode cX10_test 8 = .ok (.iload_n 1, 1) := by decide +kernel
theorem dX10_test_9 : decode cX10_test 9 = .ok (.iconst 0, 1) := by decide +kernel
theorem dX10_test_10 : decode cX10_test 10 = .ok (.iconst 1, 1) := by decide +kernel
theorem dX10_test_11 : decode cX10_test 11 = .ok (.aload_n 0, 1) := by decide +kernel
theorem dX10_test_12 : decode cX10_test 12 = .ok (.getfield 151, 3) := by decide +kernel
theorem dX10_test_15 : decode cX10_test 15 = .ok (.ishl, 1) := by decide +kernel
theorem dX10_test_16 : decode cX10_test 16 = .ok (.iconst 1, 1) := by decide +kernel
theorem dX10_test_17 : decode cX10_test 17 = .ok (.isub, 1) := by decide +kernel
theorem dX10_test_18 : decode cX10_test 18 = .ok (.invokestatic 171, 3) := by decide +kernel
theorem dX10_test_21 : decode cX10_test 21 = .ok (.ifCond .ne 9, 3) := by decide +kernel
theorem dX10_test_24 : decode cX10_test 24 = .ok (.aload_n 0, 1) := by decide +kernel
theorem dX10_test_25 : decode cX10_test 25 = .ok (.iconst 1, 1) := by decide +kernel
theorem dX10_test_26 : decode cX10_test 26 = .ok (.invokevirtual 160, 3) := by decide +kernel
theorem dX10_test_29 : decode cX10_test 29 = .ok (.ireturn, 1) := by decide +kernel
theorem dX10_test_30 : decode cX10_test 30 = .ok (.aload_n 0, 1) := by decide +kernel
theorem dX10_test_31 : decode cX10_test 31 = .ok (.getfield 277, 3) := by decide +kernel
theorem dX10_test_34 : decode cX10_test 34 = .ok (.aload_n 0, 1) := by decide +kernel
theorem dX10_test_35 : decode cX10_test 35 = .ok (.iload_n 2, 1) := by decide +kernel
theorem dX10_test_36 : decode cX10_test 36 = .ok (.iload_n 1, 1) := by decide +kernel
theorem dX10_test_37 : decode cX10_test 37 = .ok (.invokevirtual 280, 3) := by decide +kernel
theorem dX10_test_40 : decode cX10_test 40 = .ok (.iand, 1) := by decide +kernel
theorem dX10_test_41 : decode cX10_test 41 = .ok (.istore_n 3, 1) := by decide +kernel
theorem dX10_test_42 : decode cX10_test 42 = .ok (.iload_n 3, 1) := by decide +kernel
theorem dX10_test_43 : decode cX10_test 43 = .ok (.ifCond .ne 9, 3) := by decide +kernel
theorem dX10_test_46 : decode cX10_test 46 = .ok (.aload_n 0, 1) := by decide +kernel
theorem dX10_test_47 : decode cX10_test 47 = .ok (.iconst 2, 1) := by decide +kernel
theorem dX10_test_48 : decode cX10_test 48 = .ok (.invokevirtual 160, 3) := by decide +kernel
theorem dX10_test_51 : decode cX10_test 51 = .ok (.ireturn, 1) := by decide +kernel
theorem dX10_test_52 : decode cX10_test 52 = .ok (.aload_n 0, 1) := by decide +kernel
theorem dX10_test_53 : decode cX10_test 53 = .ok (.iload_n 3, 1) := by decide +kernel
theorem dX10_test_54 : decode cX10_test 54 = .ok (.putfield 277, 3) := by decide +kernel
theorem dX10_test_57 : decode cX10_test 57 = .ok (.aload_n 0, 1) := by decide +kernel
theorem dX10_test_58 : decode cX10_test 58 = .ok (.getfield 277, 3) := by decide +kernel
theorem dX10_test_61 : decode cX10_test 61 = .ok (.ireturn, 1) := by decide +kernel
theorem dX10_worst_0 : decode cX10_worst 0 = .ok (.iconst 0, 1) := by decide +kernel
theorem dX10_worst_1 : decode cX10_worst 1 = .ok (.istore_n 2, 1) := by decide +kernel
theorem dX10_worst_2 : decode cX10_worst 2 = .ok (.iconst 0, 1) := by decide +kernel
theorem dX10_worst_3 : decode cX10_worst 3 = .ok (.istore_n 3, 1) := by decide +kernel
theorem dX10_worst_4 : decode cX10_worst 4 = .ok (.iload_n 3, 1) := by decide +kernel
theorem dX10_worst_5 : decode cX10_worst 5 = .ok (.aload_n 0, 1) := by decide +kernel
theorem dX10_worst_6 : decode cX10_worst 6 = .ok (.getfield 148, 3) := by decide +kernel
theorem dX10_worst_9 : decode cX10_worst 9 = .ok (.if_icmp .ge 38, 3) := by decide +kernel
theorem dX10_worst_12 : decode cX10_worst 12 = .ok (.aload_n 0, 1) := by decide +kernel
theorem dX10_worst_13 : decode cX10_worst 13 = .ok (.getfield 277, 3) := by decide +kernel
theorem dX10_worst_16 : decode cX10_worst 16 = .ok (.aload_n 0, 1) := by decide +kernel
theorem dX10_worst_17 : decode cX10_worst 17 = .ok (.iload_n 3, 1) := by decide +kernel
theorem dX10_worst_18 : decode cX10_worst 18 = .ok (.iload_n 1, 1) := by decide +kernel
theorem dX10_worst_19 : decode cX10_worst 19 = .ok (.invokevirtual 280, 3) := by decide +kernel
theorem dX10_worst_22 : decode cX10_worst 22 = .ok (.iand, 1) := by decide +kernel
theorem dX10_worst_23 : decode cX10_worst 23 = .ok (.invokestatic 283, 3) := by decide +kernel
theorem dX10_worst_26 : decode cX10_worst 26 = .ok (.istore 4, 2) := by decide +kernel
theorem dX10_worst_28 : decode cX10_worst 28 = .ok (.iload 4, 2) := by decide +kernel
theorem dX10_worst_30 : decode cX10_worst 30 = .ok (.iload_n 2, 1) := by decide +kernel
theorem dX10_worst_31 : decode cX10_worst 31 = .ok (.if_icmp .le 8, 3) := by decide +kernel
theorem dX10_worst_34 : decode cX10_worst 34 = .ok (.iload 4, 2) := by decide +kernel
theorem dX10_worst_36 : decode cX10_worst 36 = .ok (.goto 4, 3) := by decide +kernel
theorem dX10_worst_39 : decode cX10_worst 39 = .ok (.iload_n 2, 1) := by decide +kernel
theorem dX10_worst_40 : decode cX10_worst 40 = .ok (.istore_n 2, 1) := by decide +kernel
theorem dX10_worst_41 : decode cX10_worst 41 = .ok (.iinc 3 1, 3) := by decide +kernel
theorem dX10_worst_44 : decode cX10_worst 44 = .ok (.goto (-40), 3) := by decide +kernel
theorem dX10_worst_47 : decode cX10_worst 47 = .ok (.iload_n 2, 1) := by decide +kernel
theorem dX10_worst_48 : decode cX10_worst 48 = .ok (.ireturn, 1) := by decide +kernel
theorem dX10_best_0 : decode cX10_best 0 = .ok (.iload_n 1, 1) := by decide +kernel
theorem dX10_best_1 : decode cX10_best 1 = .ok (.iconst 0, 1) := by decide +kernel
theorem dX10_best_2 : decode cX10_best 2 = .ok (.iconst 1, 1) := by decide +kernel
theorem dX10_best_3 : decode cX10_best 3 = .ok (.invokestatic 171, 3) := by decide +kernel
theorem dX10_best_6 : decode cX10_best 6 = .ok (.ifCond .ne 9, 3) := by decide +kernel
theorem dX10_best_9 : decode cX10_best 9 = .ok (.aload_n 0, 1) := by decide +kernel
theorem dX10_best_10 : decode cX10_best 10 = .ok (.iconst 1, 1) := by decide +kernel
theorem dX10_best_11 : decode cX10_best 11 = .ok (.invokevirtual 160, 3) := by decide +kernel
theorem dX10_best_14 : decode cX10_best 14 = .ok (.ireturn, 1) := by decide +kernel
theorem dX10_best_15 : decode cX10_best 15 = .ok (.aload_n 0, 1) := by decide +kernel
theorem dX10_best_16 : decode cX10_best 16 = .ok (.getfield 277, 3) := by decide +kernel
theorem dX10_best_19 : decode cX10_best 19 = .ok (.ifCond .ne 9, 3) := by decide +kernel
theorem dX10_best_22 : decode cX10_best 22 = .ok (.aload_n 0, 1) := by decide +kernel
theorem dX10_best_23 : decode cX10_best 23 = .ok (.iconst 2, 1) := by decide +kernel
theorem dX10_best_24 : decode cX10_best 24 = .ok (.invokevirtual 160, 3) := by decide +kernel
theorem dX10_best_27 : decode cX10_best 27 = .ok (.ireturn, 1) := by decide +kernel
theorem dX10_best_28 : decode cX10_best 28 = .ok (.iconst 0, 1) := by decide +kernel
theorem dX10_best_29 : decode cX10_best 29 = .ok (.istore_n 2, 1) := by decide +kernel
theorem dX10_best_30 : decode cX10_best 30 = .ok (.iconst 1, 1) := by decide +kernel
theorem dX10_best_31 : decode cX10_best 31 = .ok (.istore_n 3, 1) := by decide +kernel
theorem dX10_best_32 : decode cX10_best 32 = .ok (.iload_n 3, 1) := by decide +kernel
theorem dX10_best_33 : decode cX10_best 33 = .ok (.iconst 1, 1) := by decide +kernel
theorem dX10_best_34 : decode cX10_best 34 = .ok (.aload_n 0, 1) := by decide +kernel
theorem dX10_best_35 : decode cX10_best 35 = .ok (.getfield 151, 3) := by decide +kernel
theorem dX10_best_38 : decode cX10_best 38 = .ok (.ishl, 1) := by decide +kernel
theorem dX10_best_39 : decode cX10_best 39 = .ok (.if_icmp .ge 49, 3) := by decide +kernel
theorem dX10_best_42 : decode cX10_best 42 = .ok (.aload_n 0, 1) := by decide +kernel
theorem dX10_best_43 : decode cX10_best 43 = .ok (.iload_n 3, 1) := by decide +kernel
theorem dX10_best_44 : decode cX10_best 44 = .ok (.invokevirtual 286, 3) := by decide +kernel
theorem dX10_best_47 : decode cX10_best 47 = .ok (.aload_n 0, 1) := by decide +kernel
theorem dX10_best_48 : decode cX10_best 48 = .ok (.iload_n 2, 1) := by decide +kernel
theorem dX10_best_49 : decode cX10_best 49 = .ok (.invokevirtual 286, 3) := by decide +kernel
theorem dX10_best_52 : decode cX10_best 52 = .ok (.isub, 1) := by decide +kernel
theorem dX10_best_53 : decode cX10_best 53 = .ok (.istore 4, 2) := by decide +kernel
theorem dX10_best_55 : decode cX10_best 55 = .ok (.iload 4, 2) := by decide +kernel
theorem dX10_best_57 : decode cX10_best 57 = .ok (.ifCond .lt 19, 3) := by decide +kernel
theorem dX10_best_60 : decode cX10_best 60 = .ok (.iload 4, 2) := by decide +kernel
theorem dX10_best_62 : decode cX10_best 62 = .ok (.ifCond .ne 18, 3) := by decide +kernel
theorem dX10_best_65 : decode cX10_best 65 = .ok (.iload_n 3, 1) := by decide +kernel
theorem dX10_best_66 : decode cX10_best 66 = .ok (.invokestatic 283, 3) := by decide +kernel
theorem dX10_best_69 : decode cX10_best 69 = .ok (.iload_n 2, 1) := by decide +kernel
theorem dX10_best_70 : decode cX10_best 70 = .ok (.invokestatic 283, 3) := by decide +kernel
theorem dX10_best_73 : decode cX10_best 73 = .ok (.if_icmp .ge 7, 3) := by decide +kernel
theorem dX10_best_76 : decode cX10_best 76 = .ok (.iload_n 3, 1) := by decide +kernel
theorem dX10_best_77 : decode cX10_best 77 = .ok (.goto 4, 3) := by decide +kernel
theorem dX10_best_80 : decode cX10_best 80 = .ok (.iload_n 2, 1) := by decide +kernel
theorem dX10_best_81 : decode cX10_best 81 = .ok (.istore_n 2, 1) := by decide +kernel
theorem dX10_best_82 : decode cX10_best 82 = .ok (.iinc 3 1, 3) := by decide +kernel
theorem dX10_best_85 : decode cX10_best 85 = .ok (.goto (-53), 3) := by decide +kernel
theorem dX10_best_88 : decode cX10_best 88 = .ok (.iload_n 1, 1) := by decide +kernel
theorem dX10_best_89 : decode cX10_best 89 = .ok (.ifCond .ne 7, 3) := by decide +kernel
theorem dX10_best_92 : decode cX10_best 92 = .ok (.iload_n 2, 1) := by decide +kernel
theorem dX10_best_93 : decode cX10_best 93 = .ok (.goto 8, 3) := by decide +kernel
theorem dX10_best_96 : decode cX10_best 96 = .ok (.aload_n 0, 1) := by decide +kernel
theorem dX10_best_97 : decode cX10_best 97 = .ok (.iload_n 2, 1) := by decide +kernel
theorem dX10_best_98 : decode cX10_best 98 = .ok (.invokevirtual 286, 3) := by decide +kernel
theorem dX10_best_101 : decode cX10_best 101 = .ok (.ireturn, 1) := by decide +kernel
theorem dX10_suspects_0 : decode cX10_suspects 0 = .ok (.aload_n 0, 1) := by decide +kernel
theorem dX10_suspects_1 : decode cX10_suspects 1 = .ok (.getfield 277, 3) := by decide +kernel
theorem dX10_suspects_4 : decode cX10_suspects 4 = .ok (.ireturn, 1) := by decide +kernel
theorem dX10_read_0 : decode cX10_read 0 = .ok (.iload_n 1, 1) := by decide +kernel
theorem dX10_read_1 : decode cX10_read 1 = .ok (.iconst 0, 1) := by decide +kernel
theorem dX10_read_2 : decode cX10_read 2 = .ok (.iconst 3, 1) := by decide +kernel
theorem dX10_read_3 : decode cX10_read 3 = .ok (.invokestatic 171, 3) := by decide +kernel
theorem dX10_read_6 : decode cX10_read 6 = .ok (.ifCond .eq 16, 3) := by decide +kernel
theorem dX10_read_9 : decode cX10_read 9 = .ok (.iload_n 2, 1) := by decide +kernel
theorem dX10_read_10 : decode cX10_read 10 = .ok (.sipush (-10000), 3) := by decide +kernel
theorem dX10_read_13 : decode cX10_read 13 = .ok (.sipush 10000, 3) := by decide +kernel
theorem dX10_read_16 : decode cX10_read 16 = .ok (.invokestatic 171, 3) := by decide +kernel
theorem dX10_read_19 : decode cX10_read 19 = .ok (.ifCond .ne 9, 3) := by decide +kernel
theorem dX10_read_22 : decode cX10_read 22 = .ok (.aload_n 0, 1) := by decide +kernel
theorem dX10_read_23 : decode cX10_read 23 = .ok (.iconst 1, 1) := by decide +kernel
theorem dX10_read_24 : decode cX10_read 24 = .ok (.invokevirtual 160, 3) := by decide +kernel
theorem dX10_read_27 : decode cX10_read 27 = .ok (.ireturn, 1) := by decide +kernel
theorem dX10_read_28 : decode cX10_read 28 = .ok (.aload_n 0, 1) := by decide +kernel
theorem dX10_read_29 : decode cX10_read 29 = .ok (.getfield 289, 3) := by decide +kernel
theorem dX10_read_32 : decode cX10_read 32 = .ok (.bipush 40, 2) := by decide +kernel
theorem dX10_read_34 : decode cX10_read 34 = .ok (.if_icmp .ne 9, 3) := by decide +kernel
theorem dX10_read_37 : decode cX10_read 37 = .ok (.aload_n 0, 1) := by decide +kernel
theorem dX10_read_38 : decode cX10_read 38 = .ok (.iconst 4, 1) := by decide +kernel
theorem dX10_read_39 : decode cX10_read 39 = .ok (.invokevirtual 160, 3) := by decide +kernel
theorem dX10_read_42 : decode cX10_read 42 = .ok (.ireturn, 1) := by decide +kernel
theorem dX10_read_43 : decode cX10_read 43 = .ok (.aload_n 0, 1) := by decide +kernel
theorem dX10_read_44 : decode cX10_read 44 = .ok (.getfield 110, 3) := by decide +kernel
theorem dX10_read_47 : decode cX10_read 47 = .ok (.aload_n 0, 1) := by decide +kernel
theorem dX10_read_48 : decode cX10_read 48 = .ok (.getfield 289, 3) := by decide +kernel
theorem dX10_read_51 : decode cX10_read 51 = .ok (.iload_n 1, 1) := by decide +kernel
theorem dX10_read_52 : decode cX10_read 52 = .ok (.iastore, 1) := by decide +kernel
theorem dX10_read_53 : decode cX10_read 53 = .ok (.aload_n 0, 1) := by decide +kernel
theorem dX10_read_54 : decode cX10_read 54 = .ok (.getfield 113, 3) := by decide +kernel
theorem dX10_read_57 : decode cX10_read 57 = .ok (.aload_n 0, 1) := by decide +kernel
theorem dX10_read_58 : decode cX10_read 58 = .ok (.getfield 289, 3) := by decide +kernel
theorem dX10_read_61 : decode cX10_read 61 = .ok (.aload_n 0, 1) := by decide +kernel
theorem dX10_read_62 : decode cX10_read 62 = .ok (.getfield 82, 3) := by decide +kernel
theorem dX10_read_65 : decode cX10_read 65 = .ok (.iconst 0, 1) := by decide +kernel
theorem dX10_read_66 : decode cX10_read 66 = .ok (.iaload, 1) := by decide +kernel
theorem dX10_read_67 : decode cX10_read 67 = .ok (.iastore, 1) := by decide +kernel
theorem dX10_read_68 : decode cX10_read 68 = .ok (.aload_n 0, 1) := by decide +kernel
theorem dX10_read_69 : decode cX10_read 69 = .ok (.getfield 116, 3) := by decide +kernel
theorem dX10_read_72 : decode cX10_read 72 = .ok (.aload_n 0, 1) := by decide +kernel
theorem dX10_read_73 : decode cX10_read 73 = .ok (.getfield 289, 3) := by decide +kernel
theorem dX10_read_76 : decode cX10_read 76 = .ok (.iload_n 2, 1) := by decide +kernel
theorem dX10_read_77 : decode cX10_read 77 = .ok (.iastore, 1) := by decide +kernel
theorem dX10_read_78 : decode cX10_read 78 = .ok (.aload_n 0, 1) := by decide +kernel
theorem dX10_read_79 : decode cX10_read 79 = .ok (.getfield 119, 3) := by decide +kernel
theorem dX10_read_82 : decode cX10_read 82 = .ok (.aload_n 0, 1) := by decide +kernel
theorem dX10_read_83 : decode cX10_read 83 = .ok (.getfield 289, 3) := by decide +kernel
theorem dX10_read_86 : decode cX10_read 86 = .ok (.aload_n 0, 1) := by decide +kernel
theorem dX10_read_87 : decode cX10_read 87 = .ok (.getfield 82, 3) := by decide +kernel
theorem dX10_read_90 : decode cX10_read 90 = .ok (.iconst 0, 1) := by decide +kernel
theorem dX10_read_91 : decode cX10_read 91 = .ok (.iaload, 1) := by decide +kernel
theorem dX10_read_92 : decode cX10_read 92 = .ok (.aload_n 0, 1) := by decide +kernel
theorem dX10_read_93 : decode cX10_read 93 = .ok (.getfield 131, 3) := by decide +kernel
theorem dX10_read_96 : decode cX10_read 96 = .ok (.iadd, 1) := by decide +kernel
theorem dX10_read_97 : decode cX10_read 97 = .ok (.iastore, 1) := by decide +kernel
theorem dX10_read_98 : decode cX10_read 98 = .ok (.aload_n 0, 1) := by decide +kernel
theorem dX10_read_99 : decode cX10_read 99 = .ok (.dup, 1) := by decide +kernel
theorem dX10_read_100 : decode cX10_read 100 = .ok (.getfield 289, 3) := by decide +kernel
theorem dX10_read_103 : decode cX10_read 103 = .ok (.iconst 1, 1) := by decide +kernel
theorem dX10_read_104 : decode cX10_read 104 = .ok (.iadd, 1) := by decide +kernel
theorem dX10_read_105 : decode cX10_read 105 = .ok (.putfield 289, 3) := by decide +kernel
theorem dX10_read_108 : decode cX10_read 108 = .ok (.aload_n 0, 1) := by decide +kernel
theorem dX10_read_109 : decode cX10_read 109 = .ok (.getfield 289, 3) := by decide +kernel
theorem dX10_read_112 : decode cX10_read 112 = .ok (.iconst 1, 1) := by decide +kernel
theorem dX10_read_113 : decode cX10_read 113 = .ok (.isub, 1) := by decide +kernel
theorem dX10_read_114 : decode cX10_read 114 = .ok (.ireturn, 1) := by decide +kernel
theorem dX10_calibrate_0 : decode cX10_calibrate 0 = .ok (.iload_n 1, 1) := by decide +kernel
theorem dX10_calibrate_1 : decode cX10_calibrate 1 = .ok (.iconst 0, 1) := by decide +kernel
theorem dX10_calibrate_2 : decode cX10_calibrate 2 = .ok (.iconst 3, 1) := by decide +kernel
theorem dX10_calibrate_3 : decode cX10_calibrate 3 = .ok (.invokestatic 171, 3) := by decide +kernel
theorem dX10_calibrate_6 : decode cX10_calibrate 6 = .ok (.ifCond .eq 16, 3) := by decide +kernel
theorem dX10_calibrate_9 : decode cX10_calibrate 9 = .ok (.iload_n 2, 1) := by decide +kernel
theorem dX10_calibrate_10 : decode cX10_calibrate 10 = .ok (.sipush (-1000), 3) := by decide +kernel
theorem dX10_calibrate_13 : decode cX10_calibrate 13 = .ok (.sipush 1000, 3) := by decide +kernel
theorem dX10_calibrate_16 : decode cX10_calibrate 16 = .ok (.invokestatic 171, 3) := by decide +kernel
theorem dX10_calibrate_19 : decode cX10_calibrate 19 = .ok (.ifCond .ne 9, 3) := by decide +kernel
theorem dX10_calibrate_22 : decode cX10_calibrate 22 = .ok (.aload_n 0, 1) := by decide +kernel
theorem dX10_calibrate_23 : decode cX10_calibrate 23 = .ok (.iconst 1, 1) := by decide +kernel
theorem dX10_calibrate_24 : decode cX10_calibrate 24 = .ok (.invokevirtual 160, 3) := by decide +kernel
theorem dX10_calibrate_27 : decode cX10_calibrate 27 = .ok (.ireturn, 1) := by decide +kernel
theorem dX10_calibrate_28 : decode cX10_calibrate 28 = .ok (.aload_n 0, 1) := by decide +kernel
theorem dX10_calibrate_29 : decode cX10_calibrate 29 = .ok (.getfield 292, 3) := by decide +kernel
theorem dX10_calibrate_32 : decode cX10_calibrate 32 = .ok (.bipush 20, 2) := by decide +kernel
theorem dX10_calibrate_34 : decode cX10_calibrate 34 = .ok (.if_icmp .ne 9, 3) := by decide +kernel
theorem dX10_calibrate_37 : decode cX10_calibrate 37 = .ok (.aload_n 0, 1) := by decide +kernel
theorem dX10_calibrate_38 : decode cX10_calibrate 38 = .ok (.iconst 4, 1) := by decide +kernel
theorem dX10_calibrate_39 : decode cX10_calibrate 39 = .ok (.invokevirtual 160, 3) := by decide +kernel
theorem dX10_calibrate_42 : decode cX10_calibrate 42 = .ok (.ireturn, 1) := by decide +kernel
theorem dX10_calibrate_43 : decode cX10_calibrate 43 = .ok (.aload_n 0, 1) := by decide +kernel
theorem dX10_calibrate_44 : decode cX10_calibrate 44 = .ok (.getfield 122, 3) := by decide +kernel
theorem dX10_calibrate_47 : decode cX10_calibrate 47 = .ok (.aload_n 0, 1) := by decide +kernel
theorem dX10_calibrate_48 : decode cX10_calibrate 48 = .ok (.getfield 292, 3) := by decide +kernel
theorem dX10_calibrate_51 : decode cX10_calibrate 51 = .ok (.iload_n 1, 1) := by decide +kernel
theorem dX10_calibrate_52 : decode cX10_calibrate 52 = .ok (.iastore, 1) := by decide +kernel
theorem dX10_calibrate_53 : decode cX10_calibrate 53 = .ok (.aload_n 0, 1) := by decide +kernel
theorem dX10_calibrate_54 : decode cX10_calibrate 54 = .ok (.getfield 125, 3) := by decide +kernel
theorem dX10_calibrate_57 : decode cX10_calibrate 57 = .ok (.aload_n 0, 1) := by decide +kernel
theorem dX10_calibrate_58 : decode cX10_calibrate 58 = .ok (.getfield 292, 3) := by decide +kernel
theorem dX10_calibrate_61 : decode cX10_calibrate 61 = .ok (.aload_n 0, 1) := by decide +kernel
theorem dX10_calibrate_62 : decode cX10_calibrate 62 = .ok (.getfield 82, 3) := by decide +kernel
theorem dX10_calibrate_65 : decode cX10_calibrate 65 = .ok (.iconst 0, 1) := by decide +kernel
theorem dX10_calibrate_66 : decode cX10_calibrate 66 = .ok (.iaload, 1) := by decide +kernel
theorem dX10_calibrate_67 : decode cX10_calibrate 67 = .ok (.iastore, 1) := by decide +kernel
theorem dX10_calibrate_68 : decode cX10_calibrate 68 = .ok (.aload_n 0, 1) := by decide +kernel
theorem dX10_calibrate_69 : decode cX10_calibrate 69 = .ok (.getfield 128, 3) := by decide +kernel
theorem dX10_calibrate_72 : decode cX10_calibrate 72 = .ok (.aload_n 0, 1) := by decide +kernel
theorem dX10_calibrate_73 : decode cX10_calibrate 73 = .ok (.getfield 292, 3) := by decide +kernel
theorem dX10_calibrate_76 : decode cX10_calibrate 76 = .ok (.iload_n 2, 1) := by decide +kernel
theorem dX10_calibrate_77 : decode cX10_calibrate 77 = .ok (.iastore, 1) := by decide +kernel
theorem dX10_calibrate_78 : decode cX10_calibrate 78 = .ok (.aload_n 0, 1) := by decide +kernel
theorem dX10_calibrate_79 : decode cX10_calibrate 79 = .ok (.dup, 1) := by decide +kernel
theorem dX10_calibrate_80 : decode cX10_calibrate 80 = .ok (.getfield 292, 3) := by decide +kernel
theorem dX10_calibrate_83 : decode cX10_calibrate 83 = .ok (.iconst 1, 1) := by decide +kernel
theorem dX10_calibrate_84 : decode cX10_calibrate 84 = .ok (.iadd, 1) := by decide +kernel
theorem dX10_calibrate_85 : decode cX10_calibrate 85 = .ok (.putfield 292, 3) := by decide +kernel
theorem dX10_calibrate_88 : decode cX10_calibrate 88 = .ok (.aload_n 0, 1) := by decide +kernel
theorem dX10_calibrate_89 : decode cX10_calibrate 89 = .ok (.getfield 292, 3) := by decide +kernel
theorem dX10_calibrate_92 : decode cX10_calibrate 92 = .ok (.ireturn, 1) := by decide +kernel
theorem dX10_tooMuch_0 : decode cX10_tooMuch 0 = .ok (.iconst (-1), 1) := by decide +kernel
theorem dX10_tooMuch_1 : decode cX10_tooMuch 1 = .ok (.istore_n 3, 1) := by decide +kernel
theorem dX10_tooMuch_2 : decode cX10_tooMuch 2 = .ok (.iconst (-1), 1) := by decide +kernel
theorem dX10_tooMuch_3 : decode cX10_tooMuch 3 = .ok (.istore 4, 2) := by decide +kernel
theorem dX10_tooMuch_5 : decode cX10_tooMuch 5 = .ok (.iconst 0, 1) := by decide +kernel
theorem dX10_tooMuch_6 : decode cX10_tooMuch 6 = .ok (.istore 5, 2) := by decide +kernel
theorem dX10_tooMuch_8 : decode cX10_tooMuch 8 = .ok (.iload 5, 2) := by decide +kernel
theorem dX10_tooMuch_10 : decode cX10_tooMuch 10 = .ok (.aload_n 0, 1) := by decide +kernel
theorem dX10_tooMuch_11 : decode cX10_tooMuch 11 = .ok (.getfield 292, 3) := by decide +kernel
theorem dX10_tooMuch_14 : decode cX10_tooMuch 14 = .ok (.if_icmp .ge 80, 3) := by decide +kernel
theorem dX10_tooMuch_17 : decode cX10_tooMuch 17 = .ok (.aload_n 0, 1) := by decide +kernel
theorem dX10_tooMuch_18 : decode cX10_tooMuch 18 = .ok (.getfield 122, 3) := by decide +kernel
theorem dX10_tooMuch_21 : decode cX10_tooMuch 21 = .ok (.iload 5, 2) := by decide +kernel
theorem dX10_tooMuch_23 : decode cX10_tooMuch 23 = .ok (.iaload, 1) := by decide +kernel
theorem dX10_tooMuch_24 : decode cX10_tooMuch 24 = .ok (.iload_n 1, 1) := by decide +kernel
theorem dX10_tooMuch_25 : decode cX10_tooMuch 25 = .ok (.if_icmp .ne 63, 3) := by decide +kernel
theorem dX10_tooMuch_28 : decode cX10_tooMuch 28 = .ok (.aload_n 0, 1) := by decide +kernel
theorem dX10_tooMuch_29 : decode cX10_tooMuch 29 = .ok (.getfield 125, 3) := by decide +kernel
theorem dX10_tooMuch_32 : decode cX10_tooMuch 32 = .ok (.iload 5, 2) := by decide +kernel
theorem dX10_tooMuch_34 : decode cX10_tooMuch 34 = .ok (.iaload, 1) := by decide +kernel
theorem dX10_tooMuch_35 : decode cX10_tooMuch 35 = .ok (.iload_n 2, 1) := by decide +kernel
theorem dX10_tooMuch_36 : decode cX10_tooMuch 36 = .ok (.if_icmp .gt 8, 3) := by decide +kernel
theorem dX10_tooMuch_39 : decode cX10_tooMuch 39 = .ok (.iload 5, 2) := by decide +kernel
theorem dX10_tooMuch_41 : decode cX10_tooMuch 41 = .ok (.goto 4, 3) := by decide +kernel
theorem dX10_tooMuch_44 : decode cX10_tooMuch 44 = .ok (.iload_n 3, 1) := by decide +kernel
theorem dX10_tooMuch_45 : decode cX10_tooMuch 45 = .ok (.istore_n 3, 1) := by decide +kernel
theorem dX10_tooMuch_46 : decode cX10_tooMuch 46 = .ok (.aload_n 0, 1) := by decide +kernel
theorem dX10_tooMuch_47 : decode cX10_tooMuch 47 = .ok (.getfield 125, 3) := by decide +kernel
theorem dX10_tooMuch_50 : decode cX10_tooMuch 50 = .ok (.iload 5, 2) := by decide +kernel
theorem dX10_tooMuch_52 : decode cX10_tooMuch 52 = .ok (.iaload, 1) := by decide +kernel
theorem dX10_tooMuch_53 : decode cX10_tooMuch 53 = .ok (.iload_n 2, 1) := by decide +kernel
theorem dX10_tooMuch_54 : decode cX10_tooMuch 54 = .ok (.if_icmp .le 30, 3) := by decide +kernel
theorem dX10_tooMuch_57 : decode cX10_tooMuch 57 = .ok (.iload 4, 2) := by decide +kernel
theorem dX10_tooMuch_59 : decode cX10_tooMuch 59 = .ok (.ifCond .lt 20, 3) := by decide +kernel
theorem dX10_tooMuch_62 : decode cX10_tooMuch 62 = .ok (.aload_n 0, 1) := by decide +kernel
theorem dX10_tooMuch_63 : decode cX10_tooMuch 63 = .ok (.getfield 125, 3) := by decide +kernel
theorem dX10_tooMuch_66 : decode cX10_tooMuch 66 = .ok (.iload 5, 2) := by decide +kernel
theorem dX10_tooMuch_68 : decode cX10_tooMuch 68 = .ok (.iaload, 1) := by decide +kernel
theorem dX10_tooMuch_69 : decode cX10_tooMuch 69 = .ok (.aload_n 0, 1) := by decide +kernel
theorem dX10_tooMuch_70 : decode cX10_tooMuch 70 = .ok (.getfield 125, 3) := by decide +kernel
theorem dX10_tooMuch_73 : decode cX10_tooMuch 73 = .ok (.iload 4, 2) := by decide +kernel
theorem dX10_tooMuch_75 : decode cX10_tooMuch 75 = .ok (.iaload, 1) := by decide +kernel
theorem dX10_tooMuch_76 : decode cX10_tooMuch 76 = .ok (.if_icmp .ne 8, 3) := by decide +kernel
theorem dX10_tooMuch_79 : decode cX10_tooMuch 79 = .ok (.iload 5, 2) := by decide +kernel
theorem dX10_tooMuch_81 : decode cX10_tooMuch 81 = .ok (.goto 5, 3) := by decide +kernel
theorem dX10_tooMuch_84 : decode cX10_tooMuch 84 = .ok (.iload 4, 2) := by decide +kernel
theorem dX10_tooMuch_86 : decode cX10_tooMuch 86 = .ok (.istore 4, 2) := by decide +kernel
theorem dX10_tooMuch_88 : decode cX10_tooMuch 88 = .ok (.iinc 5 1, 3) := by decide +kernel
theorem dX10_tooMuch_91 : decode cX10_tooMuch 91 = .ok (.goto (-83), 3) := by decide +kernel
theorem dX10_tooMuch_94 : decode cX10_tooMuch 94 = .ok (.iload_n 3, 1) := by decide +kernel
theorem dX10_tooMuch_95 : decode cX10_tooMuch 95 = .ok (.ifCond .lt 8, 3) := by decide +kernel
theorem dX10_tooMuch_98 : decode cX10_tooMuch 98 = .ok (.iload 4, 2) := by decide +kernel
theorem dX10_tooMuch_100 : decode cX10_tooMuch 100 = .ok (.ifCond .ge 33, 3) := by decide +kernel
theorem dX10_tooMuch_103 : decode cX10_tooMuch 103 = .ok (.iload_n 3, 1) := by decide +kernel
theorem dX10_tooMuch_104 : decode cX10_tooMuch 104 = .ok (.ifCond .lt 12, 3) := by decide +kernel
theorem dX10_tooMuch_107 : decode cX10_tooMuch 107 = .ok (.aload_n 0, 1) := by decide +kernel
theorem dX10_tooMuch_108 : decode cX10_tooMuch 108 = .ok (.getfield 128, 3) := by decide +kernel
theorem dX10_tooMuch_111 : decode cX10_tooMuch 111 = .ok (.iload_n 3, 1) := by decide +kernel
theorem dX10_tooMuch_112 : decode cX10_tooMuch 112 = .ok (.iaload, 1) := by decide +kernel
theorem dX10_tooMuch_113 : decode cX10_tooMuch 113 = .ok (.goto 19, 3) := by decide +kernel
theorem dX10_tooMuch_116 : decode cX10_tooMuch 116 = .ok (.iload 4, 2) := by decide +kernel
theorem dX10_tooMuch_118 : decode cX10_tooMuch 118 = .ok (.ifCond .lt 13, 3) := by decide +kernel
theorem dX10_tooMuch_121 : decode cX10_tooMuch 121 = .ok (.aload_n 0, 1) := by decide +kernel
theorem dX10_tooMuch_122 : decode cX10_tooMuch 122 = .ok (.getfield 128, 3) := by decide +kernel
theorem dX10_tooMuch_125 : decode cX10_tooMuch 125 = .ok (.iload 4, 2) := by decide +kernel
theorem dX10_tooMuch_127 : decode cX10_tooMuch 127 = .ok (.iaload, 1) := by decide +kernel
theorem dX10_tooMuch_128 : decode cX10_tooMuch 128 = .ok (.goto 4, 3) := by decide +kernel
theorem dX10_tooMuch_131 : decode cX10_tooMuch 131 = .ok (.iconst 0, 1) := by decide +kernel
theorem dX10_tooMuch_132 : decode cX10_tooMuch 132 = .ok (.ireturn, 1) := by decide +kernel
theorem dX10_tooMuch_133 : decode cX10_tooMuch 133 = .ok (.aload_n 0, 1) := by decide +kernel
theorem dX10_tooMuch_134 : decode cX10_tooMuch 134 = .ok (.getfield 128, 3) := by decide +kernel
theorem dX10_tooMuch_137 : decode cX10_tooMuch 137 = .ok (.iload_n 3, 1) := by decide +kernel
theorem dX10_tooMuch_138 : decode cX10_tooMuch 138 = .ok (.iaload, 1) := by decide +kernel
theorem dX10_tooMuch_139 : decode cX10_tooMuch 139 = .ok (.aload_n 0, 1) := by decide +kernel
theorem dX10_tooMuch_140 : decode cX10_tooMuch 140 = .ok (.getfield 128, 3) := by decide +kernel
theorem dX10_tooMuch_143 : decode cX10_tooMuch 143 = .ok (.iload 4, 2) := by decide +kernel
theorem dX10_tooMuch_145 : decode cX10_tooMuch 145 = .ok (.iaload, 1) := by decide +kernel
theorem dX10_tooMuch_146 : decode cX10_tooMuch 146 = .ok (.aload_n 0, 1) := by decide +kernel
theorem dX10_tooMuch_147 : decode cX10_tooMuch 147 = .ok (.getfield 128, 3) := by decide +kernel
theorem dX10_tooMuch_150 : decode cX10_tooMuch 150 = .ok (.iload_n 3, 1) := by decide +kernel
theorem dX10_tooMuch_151 : decode cX10_tooMuch 151 = .ok (.iaload, 1) := by decide +kernel
theorem dX10_tooMuch_152 : decode cX10_tooMuch 152 = .ok (.isub, 1) := by decide +kernel
theorem dX10_tooMuch_153 : decode cX10_tooMuch 153 = .ok (.iload_n 2, 1) := by decide +kernel
theorem dX10_tooMuch_154 : decode cX10_tooMuch 154 = .ok (.aload_n 0, 1) := by decide +kernel
theorem dX10_tooMuch_155 : decode cX10_tooMuch 155 = .ok (.getfield 125, 3) := by decide +kernel
theorem dX10_tooMuch_158 : decode cX10_tooMuch 158 = .ok (.iload_n 3, 1) := by decide +kernel
theorem dX10_tooMuch_159 : decode cX10_tooMuch 159 = .ok (.iaload, 1) := by decide +kernel
theorem dX10_tooMuch_160 : decode cX10_tooMuch 160 = .ok (.isub, 1) := by decide +kernel
theorem dX10_tooMuch_161 : decode cX10_tooMuch 161 = .ok (.imul, 1) := by decide +kernel
theorem dX10_tooMuch_162 : decode cX10_tooMuch 162 = .ok (.aload_n 0, 1) := by decide +kernel
theorem dX10_tooMuch_163 : decode cX10_tooMuch 163 = .ok (.getfield 125, 3) := by decide +kernel
theorem dX10_tooMuch_166 : decode cX10_tooMuch 166 = .ok (.iload 4, 2) := by decide +kernel
theorem dX10_tooMuch_168 : decode cX10_tooMuch 168 = .ok (.iaload, 1) := by decide +kernel
theorem dX10_tooMuch_169 : decode cX10_tooMuch 169 = .ok (.aload_n 0, 1) := by decide +kernel
theorem dX10_tooMuch_170 : decode cX10_tooMuch 170 = .ok (.getfield 125, 3) := by decide +kernel
theorem dX10_tooMuch_173 : decode cX10_tooMuch 173 = .ok (.iload_n 3, 1) := by decide +kernel
theorem dX10_tooMuch_174 : decode cX10_tooMuch 174 = .ok (.iaload, 1) := by decide +kernel
theorem dX10_tooMuch_175 : decode cX10_tooMuch 175 = .ok (.isub, 1) := by decide +kernel
theorem dX10_tooMuch_176 : decode cX10_tooMuch 176 = .ok (.idiv, 1) := by decide +kernel
theorem dX10_tooMuch_177 : decode cX10_tooMuch 177 = .ok (.iadd, 1) := by decide +kernel
theorem dX10_tooMuch_178 : decode cX10_tooMuch 178 = .ok (.ireturn, 1) := by decide +kernel
theorem dX10_worked_0 : decode cX10_worked 0 = .ok (.iload_n 1, 1) := by decide +kernel
theorem dX10_worked_1 : decode cX10_worked 1 = .ok (.ifCond .lt 11, 3) := by decide +kernel
theorem dX10_worked_4 : decode cX10_worked 4 = .ok (.iload_n 1, 1) := by decide +kernel
theorem dX10_worked_5 : decode cX10_worked 5 = .ok (.aload_n 0, 1) := by decide +kernel
theorem dX10_worked_6 : decode cX10_worked 6 = .ok (.getfield 289, 3) := by decide +kernel
theorem dX10_worked_9 : decode cX10_worked 9 = .ok (.if_icmp .lt 9, 3) := by decide +kernel
theorem dX10_worked_12 : decode cX10_worked 12 = .ok (.aload_n 0, 1) := by decide +kernel
theorem dX10_worked_13 : decode cX10_worked 13 = .ok (.iconst 1, 1) := by decide +kernel
theorem dX10_worked_14 : decode cX10_worked 14 = .ok (.invokevirtual 160, 3) := by decide +kernel
theorem dX10_worked_17 : decode cX10_worked 17 = .ok (.ireturn, 1) := by decide +kernel
theorem dX10_worked_18 : decode cX10_worked 18 = .ok (.aload_n 0, 1) := by decide +kernel
theorem dX10_worked_19 : decode cX10_worked 19 = .ok (.getfield 116, 3) := by decide +kernel
theorem dX10_worked_22 : decode cX10_worked 22 = .ok (.iload_n 1, 1) := by decide +kernel
theorem dX10_worked_23 : decode cX10_worked 23 = .ok (.iaload, 1) := by decide +kernel
theorem dX10_worked_24 : decode cX10_worked 24 = .ok (.aload_n 0, 1) := by decide +kernel
theorem dX10_worked_25 : decode cX10_worked 25 = .ok (.aload_n 0, 1) := by decide +kernel
theorem dX10_worked_26 : decode cX10_worked 26 = .ok (.getfield 110, 3) := by decide +kernel
theorem dX10_worked_29 : decode cX10_worked 29 = .ok (.iload_n 1, 1) := by decide +kernel
theorem dX10_worked_30 : decode cX10_worked 30 = .ok (.iaload, 1) := by decide +kernel
theorem dX10_worked_31 : decode cX10_worked 31 = .ok (.aload_n 0, 1) := by decide +kernel
theorem dX10_worked_32 : decode cX10_worked 32 = .ok (.getfield 113, 3) := by decide +kernel
theorem dX10_worked_35 : decode cX10_worked 35 = .ok (.iload_n 1, 1) := by decide +kernel
theorem dX10_worked_36 : decode cX10_worked 36 = .ok (.iaload, 1) := by decide +kernel
theorem dX10_worked_37 : decode cX10_worked 37 = .ok (.invokevirtual 295, 3) := by decide +kernel
theorem dX10_worked_40 : decode cX10_worked 40 = .ok (.isub, 1) := by decide +kernel
theorem dX10_worked_41 : decode cX10_worked 41 = .ok (.ireturn, 1) := by decide +kernel
theorem dX10_delay_0 : decode cX10_delay 0 = .ok (.iload_n 1, 1) := by decide +kernel
theorem dX10_delay_1 : decode cX10_delay 1 = .ok (.iconst 0, 1) := by decide +kernel
theorem dX10_delay_2 : decode cX10_delay 2 = .ok (.bipush 100, 2) := by decide +kernel
theorem dX10_delay_4 : decode cX10_delay 4 = .ok (.invokestatic 171, 3) := by decide +kernel
theorem dX10_delay_7 : decode cX10_delay 7 = .ok (.ifCond .ne 9, 3) := by decide +kernel
theorem dX10_delay_10 : decode cX10_delay 10 = .ok (.aload_n 0, 1) := by decide +kernel
theorem dX10_delay_11 : decode cX10_delay 11 = .ok (.iconst 1, 1) := by decide +kernel
theorem dX10_delay_12 : decode cX10_delay 12 = .ok (.invokevirtual 160, 3) := by decide +kernel
theorem dX10_delay_15 : decode cX10_delay 15 = .ok (.ireturn, 1) := by decide +kernel
theorem dX10_delay_16 : decode cX10_delay 16 = .ok (.aload_n 0, 1) := by decide +kernel
theorem dX10_delay_17 : decode cX10_delay 17 = .ok (.getfield 131, 3) := by decide +kernel
theorem dX10_delay_20 : decode cX10_delay 20 = .ok (.istore_n 2, 1) := by decide +kernel
theorem dX10_delay_21 : decode cX10_delay 21 = .ok (.aload_n 0, 1) := by decide +kernel
theorem dX10_delay_22 : decode cX10_delay 22 = .ok (.iload_n 1, 1) := by decide +kernel
theorem dX10_delay_23 : decode cX10_delay 23 = .ok (.putfield 131, 3) := by decide +kernel
theorem dX10_delay_26 : decode cX10_delay 26 = .ok (.iload_n 2, 1) := by decide +kernel
theorem dX10_delay_27 : decode cX10_delay 27 = .ok (.ireturn, 1) := by decide +kernel
theorem dX10_known_0 : decode cX10_known 0 = .ok (.iload_n 1, 1) := by decide +kernel
theorem dX10_known_1 : decode cX10_known 1 = .ok (.iconst 0, 1) := by decide +kernel
theorem dX10_known_2 : decode cX10_known 2 = .ok (.iconst 3, 1) := by decide +kernel
theorem dX10_known_3 : decode cX10_known 3 = .ok (.invokestatic 171, 3) := by decide +kernel
theorem dX10_known_6 : decode cX10_known 6 = .ok (.ifCond .eq 14, 3) := by decide +kernel
theorem dX10_known_9 : decode cX10_known 9 = .ok (.iload_n 2, 1) := by decide +kernel
theorem dX10_known_10 : decode cX10_known 10 = .ok (.iconst 0, 1) := by decide +kernel
theorem dX10_known_11 : decode cX10_known 11 = .ok (.sipush 4000, 3) := by decide +kernel
theorem dX10_known_14 : decode cX10_known 14 = .ok (.invokestatic 171, 3) := by decide +kernel
theorem dX10_known_17 : decode cX10_known 17 = .ok (.ifCond .ne 9, 3) := by decide +kernel
theorem dX10_known_20 : decode cX10_known 20 = .ok (.aload_n 0, 1) := by decide +kernel
theorem dX10_known_21 : decode cX10_known 21 = .ok (.iconst 1, 1) := by decide +kernel
theorem dX10_known_22 : decode cX10_known 22 = .ok (.invokevirtual 160, 3) := by decide +kernel
theorem dX10_known_25 : decode cX10_known 25 = .ok (.ireturn, 1) := by decide +kernel
theorem dX10_known_26 : decode cX10_known 26 = .ok (.iconst (-1), 1) := by decide +kernel
theorem dX10_known_27 : decode cX10_known 27 = .ok (.istore_n 3, 1) := by decide +kernel
theorem dX10_known_28 : decode cX10_known 28 = .ok (.iconst 0, 1) := by decide +kernel
theorem dX10_known_29 : decode cX10_known 29 = .ok (.istore 4, 2) := by decide +kernel
theorem dX10_known_31 : decode cX10_known 31 = .ok (.iload 4, 2) := by decide +kernel
theorem dX10_known_33 : decode cX10_known 33 = .ok (.aload_n 0, 1) := by decide +kernel
theorem dX10_known_34 : decode cX10_known 34 = .ok (.getfield 289, 3) := by decide +kernel
theorem dX10_known_37 : decode cX10_known 37 = .ok (.if_icmp .ge 38, 3) := by decide +kernel
theorem dX10_known_40 : decode cX10_known 40 = .ok (.aload_n 0, 1) := by decide +kernel
theorem dX10_known_41 : decode cX10_known 41 = .ok (.getfield 110, 3) := by decide +kernel
theorem dX10_known_44 : decode cX10_known 44 = .ok (.iload 4, 2) := by decide +kernel
theorem dX10_known_46 : decode cX10_known 46 = .ok (.iaload, 1) := by decide +kernel
theorem dX10_known_47 : decode cX10_known 47 = .ok (.iload_n 1, 1) := by decide +kernel
theorem dX10_known_48 : decode cX10_known 48 = .ok (.if_icmp .ne 19, 3) := by decide +kernel
theorem dX10_known_51 : decode cX10_known 51 = .ok (.aload_n 0, 1) := by decide +kernel
theorem dX10_known_52 : decode cX10_known 52 = .ok (.getfield 119, 3) := by decide +kernel
theorem dX10_known_55 : decode cX10_known 55 = .ok (.iload 4, 2) := by decide +kernel
theorem dX10_known_57 : decode cX10_known 57 = .ok (.iaload, 1) := by decide +kernel
theorem dX10_known_58 : decode cX10_known 58 = .ok (.iload_n 2, 1) := by decide +kernel
theorem dX10_known_59 : decode cX10_known 59 = .ok (.if_icmp .gt 8, 3) := by decide +kernel
theorem dX10_known_62 : decode cX10_known 62 = .ok (.iload 4, 2) := by decide +kernel
theorem dX10_known_64 : decode cX10_known 64 = .ok (.goto 4, 3) := by decide +kernel
theorem dX10_known_67 : decode cX10_known 67 = .ok (.iload_n 3, 1) := by decide +kernel
theorem dX10_known_68 : decode cX10_known 68 = .ok (.istore_n 3, 1) := by decide +kernel
theorem dX10_known_69 : decode cX10_known 69 = .ok (.iinc 4 1, 3) := by decide +kernel
theorem dX10_known_72 : decode cX10_known 72 = .ok (.goto (-41), 3) := by decide +kernel
theorem dX10_known_75 : decode cX10_known 75 = .ok (.iload_n 3, 1) := by decide +kernel
theorem dX10_known_76 : decode cX10_known 76 = .ok (.ifCond .ge 11, 3) := by decide +kernel
theorem dX10_known_79 : decode cX10_known 79 = .ok (.aload_n 0, 1) := by decide +kernel
theorem dX10_known_80 : decode cX10_known 80 = .ok (.iconst 2, 1) := by decide +kernel
theorem dX10_known_81 : decode cX10_known 81 = .ok (.invokevirtual 160, 3) := by decide +kernel
theorem dX10_known_84 : decode cX10_known 84 = .ok (.goto 4, 3) := by decide +kernel
theorem dX10_known_87 : decode cX10_known 87 = .ok (.iload_n 3, 1) := by decide +kernel
theorem dX10_known_88 : decode cX10_known 88 = .ok (.ireturn, 1) := by decide +kernel
theorem dX10_mass_0 : decode cX10_mass 0 = .ok (.iload_n 1, 1) := by decide +kernel
theorem dX10_mass_1 : decode cX10_mass 1 = .ok (.iconst 0, 1) := by decide +kernel
theorem dX10_mass_2 : decode cX10_mass 2 = .ok (.iconst 1, 1) := by decide +kernel
theorem dX10_mass_3 : decode cX10_mass 3 = .ok (.invokestatic 171, 3) := by decide +kernel
theorem dX10_mass_6 : decode cX10_mass 6 = .ok (.ifCond .eq 40, 3) := by decide +kernel
theorem dX10_mass_9 : decode cX10_mass 9 = .ok (.iload_n 2, 1) := by decide +kernel
theorem dX10_mass_10 : decode cX10_mass 10 = .ok (.ldc 147, 2) := by decide +kernel
theorem dX10_mass_12 : decode cX10_mass 12 = .ok (.if_icmp .eq 40, 3) := by decide +kernel
theorem dX10_mass_15 : decode cX10_mass 15 = .ok (.iload_n 1, 1) := by decide +kernel
theorem dX10_mass_16 : decode cX10_mass 16 = .ok (.ifCond .ne 17, 3) := by decide +kernel
theorem dX10_mass_19 : decode cX10_mass 19 = .ok (.iload_n 2, 1) := by decide +kernel
theorem dX10_mass_20 : decode cX10_mass 20 = .ok (.iconst 1, 1) := by decide +kernel
theorem dX10_mass_21 : decode cX10_mass 21 = .ok (.ldc_w 298, 3) := by decide +kernel
theorem dX10_mass_24 : decode cX10_mass 24 = .ok (.invokestatic 171, 3) := by decide +kernel
theorem dX10_mass_27 : decode cX10_mass 27 = .ok (.ifCond .eq 19, 3) := by decide +kernel
theorem dX10_mass_30 : decode cX10_mass 30 = .ok (.goto 22, 3) := by decide +kernel
theorem dX10_mass_33 : decode cX10_mass 33 = .ok (.iload_n 2, 1) := by decide +kernel
theorem dX10_mass_34 : decode cX10_mass 34 = .ok (.sipush (-1000), 3) := by decide +kernel
theorem dX10_mass_37 : decode cX10_mass 37 = .ok (.sipush 1000, 3) := by decide +kernel
theorem dX10_mass_40 : decode cX10_mass 40 = .ok (.invokestatic 171, 3) := by decide +kernel
theorem dX10_mass_43 : decode cX10_mass 43 = .ok (.ifCond .ne 9, 3) := by decide +kernel
theorem dX10_mass_46 : decode cX10_mass 46 = .ok (.aload_n 0, 1) := by decide +kernel
theorem dX10_mass_47 : decode cX10_mass 47 = .ok (.iconst 1, 1) := by decide +kernel
theorem dX10_mass_48 : decode cX10_mass 48 = .ok (.invokevirtual 160, 3) := by decide +kernel
theorem dX10_mass_51 : decode cX10_mass 51 = .ok (.ireturn, 1) := by decide +kernel
theorem dX10_mass_52 : decode cX10_mass 52 = .ok (.iload_n 1, 1) := by decide +kernel
theorem dX10_mass_53 : decode cX10_mass 53 = .ok (.ifCond .ne 10, 3) := by decide +kernel
theorem dX10_mass_56 : decode cX10_mass 56 = .ok (.aload_n 0, 1) := by decide +kernel
theorem dX10_mass_57 : decode cX10_mass 57 = .ok (.getfield 135, 3) := by decide +kernel
theorem dX10_mass_60 : decode cX10_mass 60 = .ok (.goto 7, 3) := by decide +kernel
theorem dX10_mass_63 : decode cX10_mass 63 = .ok (.aload_n 0, 1) := by decide +kernel
theorem dX10_mass_64 : decode cX10_mass 64 = .ok (.getfield 299, 3) := by decide +kernel
theorem dX10_mass_67 : decode cX10_mass 67 = .ok (.istore_n 3, 1) := by decide +kernel
theorem dX10_mass_68 : decode cX10_mass 68 = .ok (.iload_n 2, 1) := by decide +kernel
theorem dX10_mass_69 : decode cX10_mass 69 = .ok (.ldc 147, 2) := by decide +kernel
theorem dX10_mass_71 : decode cX10_mass 71 = .ok (.if_icmp .eq 12, 3) := by decide +kernel
theorem dX10_mass_74 : decode cX10_mass 74 = .ok (.iload_n 1, 1) := by decide +kernel
theorem dX10_mass_75 : decode cX10_mass 75 = .ok (.ifCond .ne 8, 3) := by decide +kernel
theorem dX10_mass_78 : decode cX10_mass 78 = .ok (.aload_n 0, 1) := by decide +kernel
theorem dX10_mass_79 : decode cX10_mass 79 = .ok (.iload_n 2, 1) := by decide +kernel
theorem dX10_mass_80 : decode cX10_mass 80 = .ok (.putfield 135, 3) := by decide +kernel
theorem dX10_mass_83 : decode cX10_mass 83 = .ok (.iload_n 2, 1) := by decide +kernel
theorem dX10_mass_84 : decode cX10_mass 84 = .ok (.ldc 147, 2) := by decide +kernel
theorem dX10_mass_86 : decode cX10_mass 86 = .ok (.if_icmp .eq 13, 3) := by decide +kernel
theorem dX10_mass_89 : decode cX10_mass 89 = .ok (.iload_n 1, 1) := by decide +kernel
theorem dX10_mass_90 : decode cX10_mass 90 = .ok (.iconst 1, 1) := by decide +kernel
theorem dX10_mass_91 : decode cX10_mass 91 = .ok (.if_icmp .ne 8, 3) := by decide +kernel
theorem dX10_mass_94 : decode cX10_mass 94 = .ok (.aload_n 0, 1) := by decide +kernel
theorem dX10_mass_95 : decode cX10_mass 95 = .ok (.iload_n 2, 1) := by decide +kernel
theorem dX10_mass_96 : decode cX10_mass 96 = .ok (.putfield 299, 3) := by decide +kernel
theorem dX10_mass_99 : decode cX10_mass 99 = .ok (.iload_n 3, 1) := by decide +kernel
theorem dX10_mass_100 : decode cX10_mass 100 = .ok (.ireturn, 1) := by decide +kernel
theorem dX10_dock_0 : decode cX10_dock 0 = .ok (.iload_n 1, 1) := by decide +kernel
theorem dX10_dock_1 : decode cX10_dock 1 = .ok (.iconst 1, 1) := by decide +kernel
theorem dX10_dock_2 : decode cX10_dock 2 = .ok (.ldc_w 298, 3) := by decide +kernel
theorem dX10_dock_5 : decode cX10_dock 5 = .ok (.invokestatic 171, 3) := by decide +kernel
theorem dX10_dock_8 : decode cX10_dock 8 = .ok (.ifCond .eq 16, 3) := by decide +kernel
theorem dX10_dock_11 : decode cX10_dock 11 = .ok (.iload_n 2, 1) := by decide +kernel
theorem dX10_dock_12 : decode cX10_dock 12 = .ok (.sipush (-1000), 3) := by decide +kernel
theorem dX10_dock_15 : decode cX10_dock 15 = .ok (.sipush 1000, 3) := by decide +kernel
theorem dX10_dock_18 : decode cX10_dock 18 = .ok (.invokestatic 171, 3) := by decide +kernel
theorem dX10_dock_21 : decode cX10_dock 21 = .ok (.ifCond .ne 9, 3) := by decide +kernel
theorem dX10_dock_24 : decode cX10_dock 24 = .ok (.aload_n 0, 1) := by decide +kernel
theorem dX10_dock_25 : decode cX10_dock 25 = .ok (.iconst 1, 1) := by decide +kernel
theorem dX10_dock_26 : decode cX10_dock 26 = .ok (.invokevirtual 160, 3) := by decide +kernel
theorem dX10_dock_29 : decode cX10_dock 29 = .ok (.ireturn, 1) := by decide +kernel
theorem dX10_dock_30 : decode cX10_dock 30 = .ok (.aload_n 0, 1) := by decide +kernel
theorem dX10_dock_31 : decode cX10_dock 31 = .ok (.getfield 135, 3) := by decide +kernel
theorem dX10_dock_34 : decode cX10_dock 34 = .ok (.iload_n 1, 1) := by decide +kernel
theorem dX10_dock_35 : decode cX10_dock 35 = .ok (.iadd, 1) := by decide +kernel
theorem dX10_dock_36 : decode cX10_dock 36 = .ok (.ldc_w 298, 3) := by decide +kernel
theorem dX10_dock_39 : decode cX10_dock 39 = .ok (.if_icmp .le 9, 3) := by decide +kernel
theorem dX10_dock_42 : decode cX10_dock 42 = .ok (.aload_n 0, 1) := by decide +kernel
theorem dX10_dock_43 : decode cX10_dock 43 = .ok (.iconst 3, 1) := by decide +kernel
theorem dX10_dock_44 : decode cX10_dock 44 = .ok (.invokevirtual 160, 3) := by decide +kernel
theorem dX10_dock_47 : decode cX10_dock 47 = .ok (.ireturn, 1) := by decide +kernel
theorem dX10_dock_48 : decode cX10_dock 48 = .ok (.aload_n 0, 1) := by decide +kernel
theorem dX10_dock_49 : decode cX10_dock 49 = .ok (.aload_n 0, 1) := by decide +kernel
theorem dX10_dock_50 : decode cX10_dock 50 = .ok (.getfield 135, 3) := by decide +kernel
theorem dX10_dock_53 : decode cX10_dock 53 = .ok (.i2l, 1) := by decide +kernel
theorem dX10_dock_54 : decode cX10_dock 54 = .ok (.aload_n 0, 1) := by decide +kernel
theorem dX10_dock_55 : decode cX10_dock 55 = .ok (.getfield 299, 3) := by decide +kernel
theorem dX10_dock_58 : decode cX10_dock 58 = .ok (.i2l, 1) := by decide +kernel
theorem dX10_dock_59 : decode cX10_dock 59 = .ok (.lmul, 1) := by decide +kernel
theorem dX10_dock_60 : decode cX10_dock 60 = .ok (.iload_n 1, 1) := by decide +kernel
theorem dX10_dock_61 : decode cX10_dock 61 = .ok (.i2l, 1) := by decide +kernel
theorem dX10_dock_62 : decode cX10_dock 62 = .ok (.iload_n 2, 1) := by decide +kernel
theorem dX10_dock_63 : decode cX10_dock 63 = .ok (.i2l, 1) := by decide +kernel
theorem dX10_dock_64 : decode cX10_dock 64 = .ok (.lmul, 1) := by decide +kernel
theorem dX10_dock_65 : decode cX10_dock 65 = .ok (.ladd, 1) := by decide +kernel
theorem dX10_dock_66 : decode cX10_dock 66 = .ok (.aload_n 0, 1) := by decide +kernel
theorem dX10_dock_67 : decode cX10_dock 67 = .ok (.getfield 135, 3) := by decide +kernel
theorem dX10_dock_70 : decode cX10_dock 70 = .ok (.iload_n 1, 1) := by decide +kernel
theorem dX10_dock_71 : decode cX10_dock 71 = .ok (.iadd, 1) := by decide +kernel
theorem dX10_dock_72 : decode cX10_dock 72 = .ok (.i2l, 1) := by decide +kernel
theorem dX10_dock_73 : decode cX10_dock 73 = .ok (.ldiv, 1) := by decide +kernel
theorem dX10_dock_74 : decode cX10_dock 74 = .ok (.l2i, 1) := by decide +kernel
theorem dX10_dock_75 : decode cX10_dock 75 = .ok (.putfield 299, 3) := by decide +kernel
theorem dX10_dock_78 : decode cX10_dock 78 = .ok (.aload_n 0, 1) := by decide +kernel
theorem dX10_dock_79 : decode cX10_dock 79 = .ok (.dup, 1) := by decide +kernel
theorem dX10_dock_80 : decode cX10_dock 80 = .ok (.getfield 135, 3) := by decide +kernel
theorem dX10_dock_83 : decode cX10_dock 83 = .ok (.iload_n 1, 1) := by decide +kernel
theorem dX10_dock_84 : decode cX10_dock 84 = .ok (.iadd, 1) := by decide +kernel
theorem dX10_dock_85 : decode cX10_dock 85 = .ok (.putfield 135, 3) := by decide +kernel
theorem dX10_dock_88 : decode cX10_dock 88 = .ok (.aload_n 0, 1) := by decide +kernel
theorem dX10_dock_89 : decode cX10_dock 89 = .ok (.getfield 299, 3) := by decide +kernel
theorem dX10_dock_92 : decode cX10_dock 92 = .ok (.ireturn, 1) := by decide +kernel
theorem dX10_undock_0 : decode cX10_undock 0 = .ok (.iload_n 1, 1) := by decide +kernel
theorem dX10_undock_1 : decode cX10_undock 1 = .ok (.iconst 1, 1) := by decide +kernel
theorem dX10_undock_2 : decode cX10_undock 2 = .ok (.ldc_w 298, 3) := by decide +kernel
theorem dX10_undock_5 : decode cX10_undock 5 = .ok (.invokestatic 171, 3) := by decide +kernel
theorem dX10_undock_8 : decode cX10_undock 8 = .ok (.ifCond .ne 9, 3) := by decide +kernel
theorem dX10_undock_11 : decode cX10_undock 11 = .ok (.aload_n 0, 1) := by decide +kernel
theorem dX10_undock_12 : decode cX10_undock 12 = .ok (.iconst 1, 1) := by decide +kernel
theorem dX10_undock_13 : decode cX10_undock 13 = .ok (.invokevirtual 160, 3) := by decide +kernel
theorem dX10_undock_16 : decode cX10_undock 16 = .ok (.ireturn, 1) := by decide +kernel
theorem dX10_undock_17 : decode cX10_undock 17 = .ok (.aload_n 0, 1) := by decide +kernel
theorem dX10_undock_18 : decode cX10_undock 18 = .ok (.getfield 135, 3) := by decide +kernel
theorem dX10_undock_21 : decode cX10_undock 21 = .ok (.iload_n 1, 1) := by decide +kernel
theorem dX10_undock_22 : decode cX10_undock 22 = .ok (.isub, 1) := by decide +kernel
theorem dX10_undock_23 : decode cX10_undock 23 = .ok (.iconst 1, 1) := by decide +kernel
theorem dX10_undock_24 : decode cX10_undock 24 = .ok (.if_icmp .ge 9, 3) := by decide +kernel
theorem dX10_undock_27 : decode cX10_undock 27 = .ok (.aload_n 0, 1) := by decide +kernel
theorem dX10_undock_28 : decode cX10_undock 28 = .ok (.iconst 3, 1) := by decide +kernel
theorem dX10_undock_29 : decode cX10_undock 29 = .ok (.invokevirtual 160, 3) := by decide +kernel
theorem dX10_undock_32 : decode cX10_undock 32 = .ok (.ireturn, 1) := by decide +kernel
theorem dX10_undock_33 : decode cX10_undock 33 = .ok (.aload_n 0, 1) := by decide +kernel
theorem dX10_undock_34 : decode cX10_undock 34 = .ok (.dup, 1) := by decide +kernel
theorem dX10_undock_35 : decode cX10_undock 35 = .ok (.getfield 135, 3) := by decide +kernel
theorem dX10_undock_38 : decode cX10_undock 38 = .ok (.iload_n 1, 1) := by decide +kernel
theorem dX10_undock_39 : decode cX10_undock 39 = .ok (.isub, 1) := by decide +kernel
theorem dX10_undock_40 : decode cX10_undock 40 = .ok (.putfield 135, 3) := by decide +kernel
theorem dX10_undock_43 : decode cX10_undock 43 = .ok (.aload_n 0, 1) := by decide +kernel
theorem dX10_undock_44 : decode cX10_undock 44 = .ok (.getfield 135, 3) := by decide +kernel
theorem dX10_undock_47 : decode cX10_undock 47 = .ok (.ireturn, 1) := by decide +kernel
theorem dX10_tell_0 : decode cX10_tell 0 = .ok (.aload_n 0, 1) := by decide +kernel
theorem dX10_tell_1 : decode cX10_tell 1 = .ok (.getfield 302, 3) := by decide +kernel
theorem dX10_tell_4 : decode cX10_tell 4 = .ok (.bipush 24, 2) := by decide +kernel
theorem dX10_tell_6 : decode cX10_tell 6 = .ok (.if_icmp .ne 9, 3) := by decide +kernel
theorem dX10_tell_9 : decode cX10_tell 9 = .ok (.aload_n 0, 1) := by decide +kernel
theorem dX10_tell_10 : decode cX10_tell 10 = .ok (.iconst 4, 1) := by decide +kernel
theorem dX10_tell_11 : decode cX10_tell 11 = .ok (.invokevirtual 160, 3) := by decide +kernel
theorem dX10_tell_14 : decode cX10_tell 14 = .ok (.ireturn, 1) := by decide +kernel
theorem dX10_tell_15 : decode cX10_tell 15 = .ok (.aload_n 0, 1) := by decide +kernel
theorem dX10_tell_16 : decode cX10_tell 16 = .ok (.getfield 138, 3) := by decide +kernel
theorem dX10_tell_19 : decode cX10_tell 19 = .ok (.aload_n 0, 1) := by decide +kernel
theorem dX10_tell_20 : decode cX10_tell 20 = .ok (.getfield 302, 3) := by decide +kernel
theorem dX10_tell_23 : decode cX10_tell 23 = .ok (.iload_n 1, 1) := by decide +kernel
theorem dX10_tell_24 : decode cX10_tell 24 = .ok (.iastore, 1) := by decide +kernel
theorem dX10_tell_25 : decode cX10_tell 25 = .ok (.aload_n 0, 1) := by decide +kernel
theorem dX10_tell_26 : decode cX10_tell 26 = .ok (.dup, 1) := by decide +kernel
theorem dX10_tell_27 : decode cX10_tell 27 = .ok (.getfield 302, 3) := by decide +kernel
theorem dX10_tell_30 : decode cX10_tell 30 = .ok (.iconst 1, 1) := by decide +kernel
theorem dX10_tell_31 : decode cX10_tell 31 = .ok (.iadd, 1) := by decide +kernel
theorem dX10_tell_32 : decode cX10_tell 32 = .ok (.putfield 302, 3) := by decide +kernel
theorem dX10_tell_35 : decode cX10_tell 35 = .ok (.aload_n 0, 1) := by decide +kernel
theorem dX10_tell_36 : decode cX10_tell 36 = .ok (.getfield 302, 3) := by decide +kernel
theorem dX10_tell_39 : decode cX10_tell 39 = .ok (.ireturn, 1) := by decide +kernel
theorem dX10_check_0 : decode cX10_check 0 = .ok (.aload_n 0, 1) := by decide +kernel
theorem dX10_check_1 : decode cX10_check 1 = .ok (.getfield 302, 3) := by decide +kernel
theorem dX10_check_4 : decode cX10_check 4 = .ok (.istore_n 3, 1) := by decide +kernel
theorem dX10_check_5 : decode cX10_check 5 = .ok (.aload_n 0, 1) := by decide +kernel
theorem dX10_check_6 : decode cX10_check 6 = .ok (.iconst 0, 1) := by decide +kernel
theorem dX10_check_7 : decode cX10_check 7 = .ok (.putfield 302, 3) := by decide +kernel
theorem dX10_check_10 : decode cX10_check 10 = .ok (.aload_n 0, 1) := by decide +kernel
theorem dX10_check_11 : decode cX10_check 11 = .ok (.iload_n 1, 1) := by decide +kernel
theorem dX10_check_12 : decode cX10_check 12 = .ok (.invokevirtual 164, 3) := by decide +kernel
theorem dX10_check_15 : decode cX10_check 15 = .ok (.ifCond .eq 12, 3) := by decide +kernel
theorem dX10_check_18 : decode cX10_check 18 = .ok (.iload_n 2, 1) := by decide +kernel
theorem dX10_check_19 : decode cX10_check 19 = .ok (.iconst 0, 1) := by decide +kernel
theorem dX10_check_20 : decode cX10_check 20 = .ok (.iconst 4, 1) := by decide +kernel
theorem dX10_check_21 : decode cX10_check 21 = .ok (.invokestatic 171, 3) := by decide +kernel
theorem dX10_check_24 : decode cX10_check 24 = .ok (.ifCond .ne 9, 3) := by decide +kernel
theorem dX10_check_27 : decode cX10_check 27 = .ok (.aload_n 0, 1) := by decide +kernel
theorem dX10_check_28 : decode cX10_check 28 = .ok (.iconst 1, 1) := by decide +kernel
theorem dX10_check_29 : decode cX10_check 29 = .ok (.invokevirtual 160, 3) := by decide +kernel
theorem dX10_check_32 : decode cX10_check 32 = .ok (.ireturn, 1) := by decide +kernel
theorem dX10_check_33 : decode cX10_check 33 = .ok (.aload_n 0, 1) := by decide +kernel
theorem dX10_check_34 : decode cX10_check 34 = .ok (.iconst 1, 1) := by decide +kernel
theorem dX10_check_35 : decode cX10_check 35 = .ok (.invokevirtual 273, 3) := by decide +kernel
theorem dX10_check_38 : decode cX10_check 38 = .ok (.iconst 0, 1) := by decide +kernel
theorem dX10_check_39 : decode cX10_check 39 = .ok (.istore 4, 2) := by decide +kernel
theorem dX10_check_41 : decode cX10_check 41 = .ok (.iconst 0, 1) := by decide +kernel
theorem dX10_check_42 : decode cX10_check 42 = .ok (.istore 5, 2) := by decide +kernel
theorem dX10_check_44 : decode cX10_check 44 = .ok (.iload 5, 2) := by decide +kernel
theorem dX10_check_46 : decode cX10_check 46 = .ok (.iload_n 3, 1) := by decide +kernel
theorem dX10_check_47 : decode cX10_check 47 = .ok (.if_icmp .ge 64, 3) := by decide +kernel
theorem dX10_check_50 : decode cX10_check 50 = .ok (.iload 4, 2) := by decide +kernel
theorem dX10_check_52 : decode cX10_check 52 = .ok (.ifCond .ne 59, 3) := by decide +kernel
theorem dX10_check_55 : decode cX10_check 55 = .ok (.aload_n 0, 1) := by decide +kernel
theorem dX10_check_56 : decode cX10_check 56 = .ok (.invokevirtual 262, 3) := by decide +kernel
theorem dX10_check_59 : decode cX10_check 59 = .ok (.istore 6, 2) := by decide +kernel
theorem dX10_check_61 : decode cX10_check 61 = .ok (.aload_n 0, 1) := by decide +kernel
theorem dX10_check_62 : decode cX10_check 62 = .ok (.getfield 138, 3) := by decide +kernel
theorem dX10_check_65 : decode cX10_check 65 = .ok (.iload 5, 2) := by decide +kernel
theorem dX10_check_67 : decode cX10_check 67 = .ok (.iaload, 1) := by decide +kernel
theorem dX10_check_68 : decode cX10_check 68 = .ok (.iload_n 2, 1) := by decide +kernel
theorem dX10_check_69 : decode cX10_check 69 = .ok (.iconst 4, 1) := by decide +kernel
theorem dX10_check_70 : decode cX10_check 70 = .ok (.if_icmp .ne 12, 3) := by decide +kernel
theorem dX10_check_73 : decode cX10_check 73 = .ok (.aload_n 0, 1) := by decide +kernel
theorem dX10_check_74 : decode cX10_check 74 = .ok (.getfield 13, 3) := by decide +kernel
theorem dX10_check_77 : decode cX10_check 77 = .ok (.iload_n 1, 1) := by decide +kernel
theorem dX10_check_78 : decode cX10_check 78 = .ok (.iaload, 1) := by decide +kernel
theorem dX10_check_79 : decode cX10_check 79 = .ok (.goto 13, 3) := by decide +kernel
theorem dX10_check_82 : decode cX10_check 82 = .ok (.aload_n 0, 1) := by decide +kernel
theorem dX10_check_83 : decode cX10_check 83 = .ok (.getfield 7, 3) := by decide +kernel
theorem dX10_check_86 : decode cX10_check 86 = .ok (.iconst 4, 1) := by decide +kernel
theorem dX10_check_87 : decode cX10_check 87 = .ok (.iload_n 1, 1) := by decide +kernel
theorem dX10_check_88 : decode cX10_check 88 = .ok (.imul, 1) := by decide +kernel
theorem dX10_check_89 : decode cX10_check 89 = .ok (.iload_n 2, 1) := by decide +kernel
theorem dX10_check_90 : decode cX10_check 90 = .ok (.iadd, 1) := by decide +kernel
theorem dX10_check_91 : decode cX10_check 91 = .ok (.iaload, 1) := by decide +kernel
theorem dX10_check_92 : decode cX10_check 92 = .ok (.if_icmp .eq 10, 3) := by decide +kernel
theorem dX10_check_95 : decode cX10_check 95 = .ok (.iconst 1, 1) := by decide +kernel
theorem dX10_check_96 : decode cX10_check 96 = .ok (.iload 5, 2) := by decide +kernel
theorem dX10_check_98 : decode cX10_check 98 = .ok (.iadd, 1) := by decide +kernel
theorem dX10_check_99 : decode cX10_check 99 = .ok (.goto 4, 3) := by decide +kernel
theorem dX10_check_102 : decode cX10_check 102 = .ok (.iconst 0, 1) := by decide +kernel
theorem dX10_check_103 : decode cX10_check 103 = .ok (.istore 4, 2) := by decide +kernel
theorem dX10_check_105 : decode cX10_check 105 = .ok (.iinc 5 1, 3) := by decide +kernel
theorem dX10_check_108 : decode cX10_check 108 = .ok (.goto (-64), 3) := by decide +kernel
theorem dX10_check_111 : decode cX10_check 111 = .ok (.aload_n 0, 1) := by decide +kernel
theorem dX10_check_112 : decode cX10_check 112 = .ok (.iconst 0, 1) := by decide +kernel
theorem dX10_check_113 : decode cX10_check 113 = .ok (.invokevirtual 273, 3) := by decide +kernel
theorem dX10_check_116 : decode cX10_check 116 = .ok (.iload 4, 2) := by decide +kernel
theorem dX10_check_118 : decode cX10_check 118 = .ok (.ireturn, 1) := by decide +kernel
theorem dX10_count_0 : decode cX10_count 0 = .ok (.iconst 0, 1) := by decide +kernel
theorem dX10_count_1 : decode cX10_count 1 = .ok (.istore_n 2, 1) := by decide +kernel
theorem dX10_count_2 : decode cX10_count 2 = .ok (.iload_n 1, 1) := by decide +kernel
theorem dX10_count_3 : decode cX10_count 3 = .ok (.tableswitch 135 0 9 #[53, 58, 63, 68, 73, 80, 85, 90, 95, 100], 53) := by decide +kernel
theorem dX10_count_56 : decode cX10_count 56 = .ok (.aload_n 0, 1) := by decide +kernel
theorem dX10_count_57 : decode cX10_count 57 = .ok (.getfield 148, 3) := by decide +kernel
theorem dX10_count_60 : decode cX10_count 60 = .ok (.ireturn, 1) := by decide +kernel
theorem dX10_count_61 : decode cX10_count 61 = .ok (.aload_n 0, 1) := by decide +kernel
theorem dX10_count_62 : decode cX10_count 62 = .ok (.getfield 151, 3) := by decide +kernel
theorem dX10_count_65 : decode cX10_count 65 = .ok (.ireturn, 1) := by decide +kernel
theorem dX10_count_66 : decode cX10_count 66 = .ok (.aload_n 0, 1) := by decide +kernel
theorem dX10_count_67 : decode cX10_count 67 = .ok (.getfield 154, 3) := by decide +kernel
theorem dX10_count_70 : decode cX10_count 70 = .ok (.ireturn, 1) := by decide +kernel
theorem dX10_count_71 : decode cX10_count 71 = .ok (.aload_n 0, 1) := by decide +kernel
theorem dX10_count_72 : decode cX10_count 72 = .ok (.getfield 157, 3) := by decide +kernel
theorem dX10_count_75 : decode cX10_count 75 = .ok (.ireturn, 1) := by decide +kernel
theorem dX10_count_76 : decode cX10_count 76 = .ok (.aload_n 0, 1) := by decide +kernel
theorem dX10_count_77 : decode cX10_count 77 = .ok (.getfield 82, 3) := by decide +kernel
theorem dX10_count_80 : decode cX10_count 80 = .ok (.iconst 0, 1) := by decide +kernel
theorem dX10_count_81 : decode cX10_count 81 = .ok (.iaload, 1) := by decide +kernel
theorem dX10_count_82 : decode cX10_count 82 = .ok (.ireturn, 1) := by decide +kernel
theorem dX10_count_83 : decode cX10_count 83 = .ok (.aload_n 0, 1) := by decide +kernel
theorem dX10_count_84 : decode cX10_count 84 = .ok (.getfield 209, 3) := by decide +kernel
theorem dX10_count_87 : decode cX10_count 87 = .ok (.ireturn, 1) := by decide +kernel
theorem dX10_count_88 : decode cX10_count 88 = .ok (.aload_n 0, 1) := by decide +kernel
theorem dX10_count_89 : decode cX10_count 89 = .ok (.getfield 289, 3) := by decide +kernel
theorem dX10_count_92 : decode cX10_count 92 = .ok (.ireturn, 1) := by decide +kernel
theorem dX10_count_93 : decode cX10_count 93 = .ok (.aload_n 0, 1) := by decide +kernel
theorem dX10_count_94 : decode cX10_count 94 = .ok (.getfield 292, 3) := by decide +kernel
theorem dX10_count_97 : decode cX10_count 97 = .ok (.ireturn, 1) := by decide +kernel
theorem dX10_count_98 : decode cX10_count 98 = .ok (.aload_n 0, 1) := by decide +kernel
theorem dX10_count_99 : decode cX10_count 99 = .ok (.getfield 302, 3) := by decide +kernel
theorem dX10_count_102 : decode cX10_count 102 = .ok (.ireturn, 1) := by decide +kernel
theorem dX10_count_103 : decode cX10_count 103 = .ok (.iconst 0, 1) := by decide +kernel
theorem dX10_count_104 : decode cX10_count 104 = .ok (.istore_n 3, 1) := by decide +kernel
theorem dX10_count_105 : decode cX10_count 105 = .ok (.iload_n 3, 1) := by decide +kernel
theorem dX10_count_106 : decode cX10_count 106 = .ok (.aload_n 0, 1) := by decide +kernel
theorem dX10_count_107 : decode cX10_count 107 = .ok (.getfield 154, 3) := by decide +kernel
theorem dX10_count_110 : decode cX10_count 110 = .ok (.if_icmp .ge 26, 3) := by decide +kernel
theorem dX10_count_113 : decode cX10_count 113 = .ok (.iload_n 2, 1) := by decide +kernel
theorem dX10_count_114 : decode cX10_count 114 = .ok (.aload_n 0, 1) := by decide +kernel
theorem dX10_count_115 : decode cX10_count 115 = .ok (.getfield 37, 3) := by decide +kernel
theorem dX10_count_118 : decode cX10_count 118 = .ok (.iload_n 3, 1) := by decide +kernel
theorem dX10_count_119 : decode cX10_count 119 = .ok (.iaload, 1) := by decide +kernel
theorem dX10_count_120 : decode cX10_count 120 = .ok (.ifCond .lt 7, 3) := by decide +kernel
theorem dX10_count_123 : decode cX10_count 123 = .ok (.iconst 1, 1) := by decide +kernel
theorem dX10_count_124 : decode cX10_count 124 = .ok (.goto 4, 3) := by decide +kernel
theorem dX10_count_127 : decode cX10_count 127 = .ok (.iconst 0, 1) := by decide +kernel
theorem dX10_count_128 : decode cX10_count 128 = .ok (.iadd, 1) := by decide +kernel
theorem dX10_count_129 : decode cX10_count 129 = .ok (.istore_n 2, 1) := by decide +kernel
theorem dX10_count_130 : decode cX10_count 130 = .ok (.iinc 3 1, 3) := by decide +kernel
theorem dX10_count_133 : decode cX10_count 133 = .ok (.goto (-28), 3) := by decide +kernel
theorem dX10_count_136 : decode cX10_count 136 = .ok (.iload_n 2, 1) := by decide +kernel
theorem dX10_count_137 : decode cX10_count 137 = .ok (.ireturn, 1) := by decide +kernel
theorem dX10_count_138 : decode cX10_count 138 = .ok (.aload_n 0, 1) := by decide +kernel
theorem dX10_count_139 : decode cX10_count 139 = .ok (.iconst 1, 1) := by decide +kernel
theorem dX10_count_140 : decode cX10_count 140 = .ok (.invokevirtual 160, 3) := by decide +kernel
theorem dX10_count_143 : decode cX10_count 143 = .ok (.ireturn, 1) := by decide +kernel
theorem dX10_found_0 : decode cX10_found 0 = .ok (.iload_n 1, 1) := by decide +kernel
theorem dX10_found_1 : decode cX10_found 1 = .ok (.iconst 1, 1) := by decide +kernel
theorem dX10_found_2 : decode cX10_found 2 = .ok (.iconst 5, 1) := by decide +kernel
theorem dX10_found_3 : decode cX10_found 3 = .ok (.invokestatic 171, 3) := by decide +kernel
theorem dX10_found_6 : decode cX10_found 6 = .ok (.ifCond .eq 12, 3) := by decide +kernel
theorem dX10_found_9 : decode cX10_found 9 = .ok (.aload_n 0, 1) := by decide +kernel
theorem dX10_found_10 : decode cX10_found 10 = .ok (.getfield 141, 3) := by decide +kernel
theorem dX10_found_13 : decode cX10_found 13 = .ok (.iload_n 1, 1) := by decide +kernel
theorem dX10_found_14 : decode cX10_found 14 = .ok (.iaload, 1) := by decide +kernel
theorem dX10_found_15 : decode cX10_found 15 = .ok (.goto 8, 3) := by decide +kernel
theorem dX10_found_18 : decode cX10_found 18 = .ok (.aload_n 0, 1) := by decide +kernel
theorem dX10_found_19 : decode cX10_found 19 = .ok (.iconst 1, 1) := by decide +kernel
theorem dX10_found_20 : decode cX10_found 20 = .ok (.invokevirtual 160, 3) := by decide +kernel
theorem dX10_found_23 : decode cX10_found 23 = .ok (.ireturn, 1) := by decide +kernel
