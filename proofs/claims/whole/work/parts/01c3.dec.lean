theorem dX6_learn_96 : decode cX6_learn 96 = .ok (.aload_n 0, 1) := by decide +kernel
theorem dX6_learn_97 : decode cX6_learn 97 = .ok (.getfield 13, 3) := by decide +kernel
theorem dX6_learn_100 : decode cX6_learn 100 = .ok (.iload_n 3, 1) := by decide +kernel
theorem dX6_learn_101 : decode cX6_learn 101 = .ok (.iaload, 1) := by decide +kernel
theorem dX6_learn_102 : decode cX6_learn 102 = .ok (.imul, 1) := by decide +kernel
theorem dX6_learn_103 : decode cX6_learn 103 = .ok (.aload_n 0, 1) := by decide +kernel
theorem dX6_learn_104 : decode cX6_learn 104 = .ok (.getfield 17, 3) := by decide +kernel
theorem dX6_learn_107 : decode cX6_learn 107 = .ok (.iload_n 3, 1) := by decide +kernel
theorem dX6_learn_108 : decode cX6_learn 108 = .ok (.iaload, 1) := by decide +kernel
theorem dX6_learn_109 : decode cX6_learn 109 = .ok (.iadd, 1) := by decide +kernel
theorem dX6_learn_110 : decode cX6_learn 110 = .ok (.istore 5, 2) := by decide +kernel
theorem dX6_learn_112 : decode cX6_learn 112 = .ok (.aload_n 0, 1) := by decide +kernel
theorem dX6_learn_113 : decode cX6_learn 113 = .ok (.getfield 30, 3) := by decide +kernel
theorem dX6_learn_116 : decode cX6_learn 116 = .ok (.iload 5, 2) := by decide +kernel
theorem dX6_learn_118 : decode cX6_learn 118 = .ok (.iload 4, 2) := by decide +kernel
theorem dX6_learn_120 : decode cX6_learn 120 = .ok (.aload_n 0, 1) := by decide +kernel
theorem dX6_learn_121 : decode cX6_learn 121 = .ok (.getfield 30, 3) := by decide +kernel
theorem dX6_learn_124 : decode cX6_learn 124 = .ok (.iload 5, 2) := by decide +kernel
theorem dX6_learn_126 : decode cX6_learn 126 = .ok (.iaload, 1) := by decide +kernel
theorem dX6_learn_127 : decode cX6_learn 127 = .ok (.if_icmp .ge 8, 3) := by decide +kernel
theorem dX6_learn_130 : decode cX6_learn 130 = .ok (.iload 4, 2) := by decide +kernel
theorem dX6_learn_132 : decode cX6_learn 132 = .ok (.goto 10, 3) := by decide +kernel
theorem dX6_learn_135 : decode cX6_learn 135 = .ok (.aload_n 0, 1) := by decide +kernel
theorem dX6_learn_136 : decode cX6_learn 136 = .ok (.getfield 30, 3) := by decide +kernel
theorem dX6_learn_139 : decode cX6_learn 139 = .ok (.iload 5, 2) := by decide +kernel
theorem dX6_learn_141 : decode cX6_learn 141 = .ok (.iaload, 1) := by decide +kernel
theorem dX6_learn_142 : decode cX6_learn 142 = .ok (.iastore, 1) := by decide +kernel
theorem dX6_learn_143 : decode cX6_learn 143 = .ok (.bipush 10, 2) := by decide +kernel
theorem dX6_learn_145 : decode cX6_learn 145 = .ok (.aload_n 0, 1) := by decide +kernel
theorem dX6_learn_146 : decode cX6_learn 146 = .ok (.getfield 17, 3) := by decide +kernel
theorem dX6_learn_149 : decode cX6_learn 149 = .ok (.iload_n 3, 1) := by decide +kernel
theorem dX6_learn_150 : decode cX6_learn 150 = .ok (.iaload, 1) := by decide +kernel
theorem dX6_learn_151 : decode cX6_learn 151 = .ok (.imul, 1) := by decide +kernel
theorem dX6_learn_152 : decode cX6_learn 152 = .ok (.aload_n 0, 1) := by decide +kernel
theorem dX6_learn_153 : decode cX6_learn 153 = .ok (.getfield 13, 3) := by decide +kernel
theorem dX6_learn_156 : decode cX6_learn 156 = .ok (.iload_n 3, 1) := by decide +kernel
theorem dX6_learn_157 : decode cX6_learn 157 = .ok (.iaload, 1) := by decide +kernel
theorem dX6_learn_158 : decode cX6_learn 158 = .ok (.iadd, 1) := by decide +kernel
theorem dX6_learn_159 : decode cX6_learn 159 = .ok (.istore 5, 2) := by decide +kernel
theorem dX6_learn_161 : decode cX6_learn 161 = .ok (.aload_n 0, 1) := by decide +kernel
theorem dX6_learn_162 : decode cX6_learn 162 = .ok (.getfield 30, 3) := by decide +kernel
theorem dX6_learn_165 : decode cX6_learn 165 = .ok (.iload 5, 2) := by decide +kernel
theorem dX6_learn_167 : decode cX6_learn 167 = .ok (.aload_n 0, 1) := by decide +kernel
theorem dX6_learn_168 : decode cX6_learn 168 = .ok (.getfield 23, 3) := by decide +kernel
theorem dX6_learn_171 : decode cX6_learn 171 = .ok (.iload_n 3, 1) := by decide +kernel
theorem dX6_learn_172 : decode cX6_learn 172 = .ok (.baload, 1) := by decide +kernel
theorem dX6_learn_173 : decode cX6_learn 173 = .ok (.ifCond .eq 20, 3) := by decide +kernel
theorem dX6_learn_176 : decode cX6_learn 176 = .ok (.iload 4, 2) := by decide +kernel
theorem dX6_learn_178 : decode cX6_learn 178 = .ok (.aload_n 0, 1) := by decide +kernel
theorem dX6_learn_179 : decode cX6_learn 179 = .ok (.getfield 30, 3) := by decide +kernel
theorem dX6_learn_182 : decode cX6_learn 182 = .ok (.iload 5, 2) := by decide +kernel
theorem dX6_learn_184 : decode cX6_learn 184 = .ok (.iaload, 1) := by decide +kernel
theorem dX6_learn_185 : decode cX6_learn 185 = .ok (.if_icmp .ge 8, 3) := by decide +kernel
theorem dX6_learn_188 : decode cX6_learn 188 = .ok (.iload 4, 2) := by decide +kernel
theorem dX6_learn_190 : decode cX6_learn 190 = .ok (.goto 10, 3) := by decide +kernel
theorem dX6_learn_193 : decode cX6_learn 193 = .ok (.aload_n 0, 1) := by decide +kernel
theorem dX6_learn_194 : decode cX6_learn 194 = .ok (.getfield 30, 3) := by decide +kernel
theorem dX6_learn_197 : decode cX6_learn 197 = .ok (.iload 5, 2) := by decide +kernel
theorem dX6_learn_199 : decode cX6_learn 199 = .ok (.iaload, 1) := by decide +kernel
theorem dX6_learn_200 : decode cX6_learn 200 = .ok (.iastore, 1) := by decide +kernel
theorem dX6_learn_201 : decode cX6_learn 201 = .ok (.iinc 3 1, 3) := by decide +kernel
theorem dX6_learn_204 : decode cX6_learn 204 = .ok (.goto (-165), 3) := by decide +kernel
theorem dX6_learn_207 : decode cX6_learn 207 = .ok (.iconst 1, 1) := by decide +kernel
theorem dX6_learn_208 : decode cX6_learn 208 = .ok (.istore_n 3, 1) := by decide +kernel
theorem dX6_learn_209 : decode cX6_learn 209 = .ok (.iconst 0, 1) := by decide +kernel
theorem dX6_learn_210 : decode cX6_learn 210 = .ok (.istore 4, 2) := by decide +kernel
theorem dX6_learn_212 : decode cX6_learn 212 = .ok (.iload 4, 2) := by decide +kernel
theorem dX6_learn_214 : decode cX6_learn 214 = .ok (.aload_n 0, 1) := by decide +kernel
theorem dX6_learn_215 : decode cX6_learn 215 = .ok (.getfield 7, 3) := by decide +kernel
theorem dX6_learn_218 : decode cX6_learn 218 = .ok (.if_icmp .ge 217, 3) := by decide +kernel
theorem dX6_learn_221 : decode cX6_learn 221 = .ok (.iconst 0, 1) := by decide +kernel
theorem dX6_learn_222 : decode cX6_learn 222 = .ok (.istore 5, 2) := by decide +kernel
theorem dX6_learn_224 : decode cX6_learn 224 = .ok (.iload 5, 2) := by decide +kernel
theorem dX6_learn_226 : decode cX6_learn 226 = .ok (.aload_n 0, 1) := by decide +kernel
theorem dX6_learn_227 : decode cX6_learn 227 = .ok (.getfield 7, 3) := by decide +kernel
theorem dX6_learn_230 : decode cX6_learn 230 = .ok (.if_icmp .ge 141, 3) := by decide +kernel
theorem dX6_learn_233 : decode cX6_learn 233 = .ok (.iconst 0, 1) := by decide +kernel
theorem dX6_learn_234 : decode cX6_learn 234 = .ok (.istore 6, 2) := by decide +kernel
theorem dX6_learn_236 : decode cX6_learn 236 = .ok (.iload 6, 2) := by decide +kernel
theorem dX6_learn_238 : decode cX6_learn 238 = .ok (.aload_n 0, 1) := by decide +kernel
theorem dX6_learn_239 : decode cX6_learn 239 = .ok (.getfield 7, 3) := by decide +kernel
theorem dX6_learn_242 : decode cX6_learn 242 = .ok (.if_icmp .ge 123, 3) := by decide +kernel
theorem dX6_learn_245 : decode cX6_learn 245 = .ok (.aload_n 0, 1) := by decide +kernel
theorem dX6_learn_246 : decode cX6_learn 246 = .ok (.getfield 30, 3) := by decide +kernel
theorem dX6_learn_249 : decode cX6_learn 249 = .ok (.bipush 10, 2) := by decide +kernel
theorem dX6_learn_251 : decode cX6_learn 251 = .ok (.iload 5, 2) := by decide +kernel
theorem dX6_learn_253 : decode cX6_learn 253 = .ok (.imul, 1) := by decide +kernel
theorem dX6_learn_254 : decode cX6_learn 254 = .ok (.iload 4, 2) := by decide +kernel
theorem dX6_learn_256 : decode cX6_learn 256 = .ok (.iadd, 1) := by decide +kernel
theorem dX6_learn_257 : decode cX6_learn 257 = .ok (.iaload, 1) := by decide +kernel
theorem dX6_learn_258 : decode cX6_learn 258 = .ok (.ldc 57, 2) := by decide +kernel
theorem dX6_learn_260 : decode cX6_learn 260 = .ok (.if_icmp .ge 99, 3) := by decide +kernel
theorem dX6_learn_263 : decode cX6_learn 263 = .ok (.aload_n 0, 1) := by decide +kernel
theorem dX6_learn_264 : decode cX6_learn 264 = .ok (.getfield 30, 3) := by decide +kernel
theorem dX6_learn_267 : decode cX6_learn 267 = .ok (.bipush 10, 2) := by decide +kernel
theorem dX6_learn_269 : decode cX6_learn 269 = .ok (.iload 4, 2) := by decide +kernel
theorem dX6_learn_271 : decode cX6_learn 271 = .ok (.imul, 1) := by decide +kernel
theorem dX6_learn_272 : decode cX6_learn 272 = .ok (.iload 6, 2) := by decide +kernel
theorem dX6_learn_274 : decode cX6_learn 274 = .ok (.iadd, 1) := by decide +kernel
theorem dX6_learn_275 : decode cX6_learn 275 = .ok (.iaload, 1) := by decide +kernel
theorem dX6_learn_276 : decode cX6_learn 276 = .ok (.ldc 57, 2) := by decide +kernel
theorem dX6_learn_278 : decode cX6_learn 278 = .ok (.if_icmp .ge 81, 3) := by decide +kernel
theorem dX6_learn_281 : decode cX6_learn 281 = .ok (.aload_n 0, 1) := by decide +kernel
theorem dX6_learn_282 : decode cX6_learn 282 = .ok (.getfield 30, 3) := by decide +kernel
theorem dX6_learn_285 : decode cX6_learn 285 = .ok (.bipush 10, 2) := by decide +kernel
theorem dX6_learn_287 : decode cX6_learn 287 = .ok (.iload 5, 2) := by decide +kernel
theorem dX6_learn_289 : decode cX6_learn 289 = .ok (.imul, 1) := by decide +kernel
theorem dX6_learn_290 : decode cX6_learn 290 = .ok (.iload 4, 2) := by decide +kernel
theorem dX6_learn_292 : decode cX6_learn 292 = .ok (.iadd, 1) := by decide +kernel
theorem dX6_learn_293 : decode cX6_learn 293 = .ok (.iaload, 1) := by decide +kernel
theorem dX6_learn_294 : decode cX6_learn 294 = .ok (.aload_n 0, 1) := by decide +kernel
theorem dX6_learn_295 : decode cX6_learn 295 = .ok (.getfield 30, 3) := by decide +kernel
theorem dX6_learn_298 : decode cX6_learn 298 = .ok (.bipush 10, 2) := by decide +kernel
theorem dX6_learn_300 : decode cX6_learn 300 = .ok (.iload 4, 2) := by decide +kernel
theorem dX6_learn_302 : decode cX6_learn 302 = .ok (.imul, 1) := by decide +kernel
theorem dX6_learn_303 : decode cX6_learn 303 = .ok (.iload 6, 2) := by decide +kernel
theorem dX6_learn_305 : decode cX6_learn 305 = .ok (.iadd, 1) := by decide +kernel
theorem dX6_learn_306 : decode cX6_learn 306 = .ok (.iaload, 1) := by decide +kernel
theorem dX6_learn_307 : decode cX6_learn 307 = .ok (.iadd, 1) := by decide +kernel
theorem dX6_learn_308 : decode cX6_learn 308 = .ok (.istore 7, 2) := by decide +kernel
theorem dX6_learn_310 : decode cX6_learn 310 = .ok (.aload_n 0, 1) := by decide +kernel
theorem dX6_learn_311 : decode cX6_learn 311 = .ok (.getfield 30, 3) := by decide +kernel
theorem dX6_learn_314 : decode cX6_learn 314 = .ok (.bipush 10, 2) := by decide +kernel
theorem dX6_learn_316 : decode cX6_learn 316 = .ok (.iload 5, 2) := by decide +kernel
theorem dX6_learn_318 : decode cX6_learn 318 = .ok (.imul, 1) := by decide +kernel
theorem dX6_learn_319 : decode cX6_learn 319 = .ok (.iload 6, 2) := by decide +kernel
theorem dX6_learn_321 : decode cX6_learn 321 = .ok (.iadd, 1) := by decide +kernel
theorem dX6_learn_322 : decode cX6_learn 322 = .ok (.iload 7, 2) := by decide +kernel
theorem dX6_learn_324 : decode cX6_learn 324 = .ok (.aload_n 0, 1) := by decide +kernel
theorem dX6_learn_325 : decode cX6_learn 325 = .ok (.getfield 30, 3) := by decide +kernel
theorem dX6_learn_328 : decode cX6_learn 328 = .ok (.bipush 10, 2) := by decide +kernel
theorem dX6_learn_330 : decode cX6_learn 330 = .ok (.iload 5, 2) := by decide +kernel
theorem dX6_learn_332 : decode cX6_learn 332 = .ok (.imul, 1) := by decide +kernel
theorem dX6_learn_333 : decode cX6_learn 333 = .ok (.iload 6, 2) := by decide +kernel
theorem dX6_learn_335 : decode cX6_learn 335 = .ok (.iadd, 1) := by decide +kernel
theorem dX6_learn_336 : decode cX6_learn 336 = .ok (.iaload, 1) := by decide +kernel
theorem dX6_learn_337 : decode cX6_learn 337 = .ok (.if_icmp .ge 8, 3) := by decide +kernel
theorem dX6_learn_340 : decode cX6_learn 340 = .ok (.iload 7, 2) := by decide +kernel
theorem dX6_learn_342 : decode cX6_learn 342 = .ok (.goto 16, 3) := by decide +kernel
theorem dX6_learn_345 : decode cX6_learn 345 = .ok (.aload_n 0, 1) := by decide +kernel
theorem dX6_learn_346 : decode cX6_learn 346 = .ok (.getfield 30, 3) := by decide +kernel
theorem dX6_learn_349 : decode cX6_learn 349 = .ok (.bipush 10, 2) := by decide +kernel
theorem dX6_learn_351 : decode cX6_learn 351 = .ok (.iload 5, 2) := by decide +kernel
theorem dX6_learn_353 : decode cX6_learn 353 = .ok (.imul, 1) := by decide +kernel
theorem dX6_learn_354 : decode cX6_learn 354 = .ok (.iload 6, 2) := by decide +kernel
theorem dX6_learn_356 : decode cX6_learn 356 = .ok (.iadd, 1) := by decide +kernel
theorem dX6_learn_357 : decode cX6_learn 357 = .ok (.iaload, 1) := by decide +kernel
theorem dX6_learn_358 : decode cX6_learn 358 = .ok (.iastore, 1) := by decide +kernel
theorem dX6_learn_359 : decode cX6_learn 359 = .ok (.iinc 6 1, 3) := by decide +kernel
theorem dX6_learn_362 : decode cX6_learn 362 = .ok (.goto (-126), 3) := by decide +kernel
theorem dX6_learn_365 : decode cX6_learn 365 = .ok (.iinc 5 1, 3) := by decide +kernel
theorem dX6_learn_368 : decode cX6_learn 368 = .ok (.goto (-144), 3) := by decide +kernel
theorem dX6_learn_371 : decode cX6_learn 371 = .ok (.iconst 0, 1) := by decide +kernel
theorem dX6_learn_372 : decode cX6_learn 372 = .ok (.istore 5, 2) := by decide +kernel
theorem dX6_learn_374 : decode cX6_learn 374 = .ok (.iload 5, 2) := by decide +kernel
theorem dX6_learn_376 : decode cX6_learn 376 = .ok (.aload_n 0, 1) := by decide +kernel
theorem dX6_learn_377 : decode cX6_learn 377 = .ok (.getfield 7, 3) := by decide +kernel
theorem dX6_learn_380 : decode cX6_learn 380 = .ok (.if_icmp .ge 49, 3) := by decide +kernel
theorem dX6_learn_383 : decode cX6_learn 383 = .ok (.iload_n 3, 1) := by decide +kernel
theorem dX6_learn_384 : decode cX6_learn 384 = .ok (.ifCond .eq 23, 3) := by decide +kernel
theorem dX6_learn_387 : decode cX6_learn 387 = .ok (.aload_n 0, 1) := by decide +kernel
theorem dX6_learn_388 : decode cX6_learn 388 = .ok (.getfield 30, 3) := by decide +kernel
theorem dX6_learn_391 : decode cX6_learn 391 = .ok (.bipush 10, 2) := by decide +kernel
theorem dX6_learn_393 : decode cX6_learn 393 = .ok (.iload 5, 2) := by decide +kernel
theorem dX6_learn_395 : decode cX6_learn 395 = .ok (.imul, 1) := by decide +kernel
theorem dX6_learn_396 : decode cX6_learn 396 = .ok (.iload 5, 2) := by decide +kernel
theorem dX6_learn_398 : decode cX6_learn 398 = .ok (.iadd, 1) := by decide +kernel
theorem dX6_learn_399 : decode cX6_learn 399 = .ok (.iaload, 1) := by decide +kernel
theorem dX6_learn_400 : decode cX6_learn 400 = .ok (.ifCond .lt 7, 3) := by decide +kernel
theorem dX6_learn_403 : decode cX6_learn 403 = .ok (.iconst 1, 1) := by decide +kernel
theorem dX6_learn_404 : decode cX6_learn 404 = .ok (.goto 4, 3) := by decide +kernel
theorem dX6_learn_407 : decode cX6_learn 407 = .ok (.iconst 0, 1) := by decide +kernel
theorem dX6_learn_408 : decode cX6_learn 408 = .ok (.istore_n 3, 1) := by decide +kernel
theorem dX6_learn_409 : decode cX6_learn 409 = .ok (.aload_n 0, 1) := by decide +kernel
theorem dX6_learn_410 : decode cX6_learn 410 = .ok (.getfield 30, 3) := by decide +kernel
theorem dX6_learn_413 : decode cX6_learn 413 = .ok (.bipush 10, 2) := by decide +kernel
theorem dX6_learn_415 : decode cX6_learn 415 = .ok (.iload 5, 2) := by decide +kernel
theorem dX6_learn_417 : decode cX6_learn 417 = .ok (.imul, 1) := by decide +kernel
theorem dX6_learn_418 : decode cX6_learn 418 = .ok (.iload 5, 2) := by decide +kernel
theorem dX6_learn_420 : decode cX6_learn 420 = .ok (.iadd, 1) := by decide +kernel
theorem dX6_learn_421 : decode cX6_learn 421 = .ok (.iconst 0, 1) := by decide +kernel
theorem dX6_learn_422 : decode cX6_learn 422 = .ok (.iastore, 1) := by decide +kernel
theorem dX6_learn_423 : decode cX6_learn 423 = .ok (.iinc 5 1, 3) := by decide +kernel
theorem dX6_learn_426 : decode cX6_learn 426 = .ok (.goto (-52), 3) := by decide +kernel
theorem dX6_learn_429 : decode cX6_learn 429 = .ok (.iinc 4 1, 3) := by decide +kernel
theorem dX6_learn_432 : decode cX6_learn 432 = .ok (.goto (-220), 3) := by decide +kernel
theorem dX6_learn_435 : decode cX6_learn 435 = .ok (.iload_n 3, 1) := by decide +kernel
theorem dX6_learn_436 : decode cX6_learn 436 = .ok (.ireturn, 1) := by decide +kernel
theorem dX6_coarse_0 : decode cX6_coarse 0 = .ok (.iload_n 0, 1) := by decide +kernel
theorem dX6_coarse_1 : decode cX6_coarse 1 = .ok (.ldc 57, 2) := by decide +kernel
theorem dX6_coarse_3 : decode cX6_coarse 3 = .ok (.if_icmp .lt 7, 3) := by decide +kernel
theorem dX6_coarse_6 : decode cX6_coarse 6 = .ok (.sipush (-1000), 3) := by decide +kernel
theorem dX6_coarse_9 : decode cX6_coarse 9 = .ok (.ireturn, 1) := by decide +kernel
theorem dX6_coarse_10 : decode cX6_coarse 10 = .ok (.iload_n 0, 1) := by decide +kernel
theorem dX6_coarse_11 : decode cX6_coarse 11 = .ok (.bipush 64, 2) := by decide +kernel
theorem dX6_coarse_13 : decode cX6_coarse 13 = .ok (.irem, 1) := by decide +kernel
theorem dX6_coarse_14 : decode cX6_coarse 14 = .ok (.istore_n 1, 1) := by decide +kernel
theorem dX6_coarse_15 : decode cX6_coarse 15 = .ok (.iload_n 0, 1) := by decide +kernel
theorem dX6_coarse_16 : decode cX6_coarse 16 = .ok (.iload_n 1, 1) := by decide +kernel
theorem dX6_coarse_17 : decode cX6_coarse 17 = .ok (.ifCond .ge 10, 3) := by decide +kernel
theorem dX6_coarse_20 : decode cX6_coarse 20 = .ok (.iload_n 1, 1) := by decide +kernel
theorem dX6_coarse_21 : decode cX6_coarse 21 = .ok (.bipush 64, 2) := by decide +kernel
theorem dX6_coarse_23 : decode cX6_coarse 23 = .ok (.iadd, 1) := by decide +kernel
theorem dX6_coarse_24 : decode cX6_coarse 24 = .ok (.goto 4, 3) := by decide +kernel
theorem dX6_coarse_27 : decode cX6_coarse 27 = .ok (.iload_n 1, 1) := by decide +kernel
theorem dX6_coarse_28 : decode cX6_coarse 28 = .ok (.isub, 1) := by decide +kernel
theorem dX6_coarse_29 : decode cX6_coarse 29 = .ok (.bipush 64, 2) := by decide +kernel
theorem dX6_coarse_31 : decode cX6_coarse 31 = .ok (.idiv, 1) := by decide +kernel
theorem dX6_coarse_32 : decode cX6_coarse 32 = .ok (.ireturn, 1) := by decide +kernel
theorem dX6_farOf_0 : decode cX6_farOf 0 = .ok (.aload_n 0, 1) := by decide +kernel
theorem dX6_farOf_1 : decode cX6_farOf 1 = .ok (.getfield 30, 3) := by decide +kernel
theorem dX6_farOf_4 : decode cX6_farOf 4 = .ok (.bipush 10, 2) := by decide +kernel
theorem dX6_farOf_6 : decode cX6_farOf 6 = .ok (.iload_n 1, 1) := by decide +kernel
theorem dX6_farOf_7 : decode cX6_farOf 7 = .ok (.imul, 1) := by decide +kernel
theorem dX6_farOf_8 : decode cX6_farOf 8 = .ok (.iload_n 2, 1) := by decide +kernel
theorem dX6_farOf_9 : decode cX6_farOf 9 = .ok (.iadd, 1) := by decide +kernel
theorem dX6_farOf_10 : decode cX6_farOf 10 = .ok (.iaload, 1) := by decide +kernel
theorem dX6_farOf_11 : decode cX6_farOf 11 = .ok (.invokestatic 58, 3) := by decide +kernel
theorem dX6_farOf_14 : decode cX6_farOf 14 = .ok (.ireturn, 1) := by decide +kernel
theorem dX6_keep_0 : decode cX6_keep 0 = .ok (.iconst 0, 1) := by decide +kernel
theorem dX6_keep_1 : decode cX6_keep 1 = .ok (.istore_n 1, 1) := by decide +kernel
theorem dX6_keep_2 : decode cX6_keep 2 = .ok (.iload_n 1, 1) := by decide +kernel
theorem dX6_keep_3 : decode cX6_keep 3 = .ok (.bipush 100, 2) := by decide +kernel
theorem dX6_keep_5 : decode cX6_keep 5 = .ok (.if_icmp .ge 32, 3) := by decide +kernel
theorem dX6_keep_8 : decode cX6_keep 8 = .ok (.aload_n 0, 1) := by decide +kernel
theorem dX6_keep_9 : decode cX6_keep 9 = .ok (.getfield 34, 3) := by decide +kernel
theorem dX6_keep_12 : decode cX6_keep 12 = .ok (.bipush 100, 2) := by decide +kernel
theorem dX6_keep_14 : decode cX6_keep 14 = .ok (.aload_n 0, 1) := by decide +kernel
theorem dX6_keep_15 : decode cX6_keep 15 = .ok (.getfield 62, 3) := by decide +kernel
theorem dX6_keep_18 : decode cX6_keep 18 = .ok (.imul, 1) := by decide +kernel
theorem dX6_keep_19 : decode cX6_keep 19 = .ok (.iload_n 1, 1) := by decide +kernel
theorem dX6_keep_20 : decode cX6_keep 20 = .ok (.iadd, 1) := by decide +kernel
theorem dX6_keep_21 : decode cX6_keep 21 = .ok (.aload_n 0, 1) := by decide +kernel
theorem dX6_keep_22 : decode cX6_keep 22 = .ok (.getfield 30, 3) := by decide +kernel
theorem dX6_keep_25 : decode cX6_keep 25 = .ok (.iload_n 1, 1) := by decide +kernel
theorem dX6_keep_26 : decode cX6_keep 26 = .ok (.iaload, 1) := by decide +kernel
theorem dX6_keep_27 : decode cX6_keep 27 = .ok (.invokestatic 58, 3) := by decide +kernel
theorem dX6_keep_30 : decode cX6_keep 30 = .ok (.iastore, 1) := by decide +kernel
theorem dX6_keep_31 : decode cX6_keep 31 = .ok (.iinc 1 1, 3) := by decide +kernel
theorem dX6_keep_34 : decode cX6_keep 34 = .ok (.goto (-32), 3) := by decide +kernel
theorem dX6_keep_37 : decode cX6_keep 37 = .ok (.return_, 1) := by decide +kernel
theorem dX6_did_0 : decode cX6_did 0 = .ok (.aload_n 0, 1) := by decide +kernel
theorem dX6_did_1 : decode cX6_did 1 = .ok (.dup, 1) := by decide +kernel
theorem dX6_did_2 : decode cX6_did 2 = .ok (.getfield 62, 3) := by decide +kernel
theorem dX6_did_5 : decode cX6_did 5 = .ok (.iconst 1, 1) := by decide +kernel
theorem dX6_did_6 : decode cX6_did 6 = .ok (.iadd, 1) := by decide +kernel
theorem dX6_did_7 : decode cX6_did 7 = .ok (.putfield 62, 3) := by decide +kernel
theorem dX6_did_10 : decode cX6_did 10 = .ok (.aload_n 0, 1) := by decide +kernel
theorem dX6_did_11 : decode cX6_did 11 = .ok (.sipush (-1000), 3) := by decide +kernel
theorem dX6_did_14 : decode cX6_did 14 = .ok (.sipush (-1000), 3) := by decide +kernel
theorem dX6_did_17 : decode cX6_did 17 = .ok (.invokevirtual 40, 3) := by decide +kernel
theorem dX6_did_20 : decode cX6_did 20 = .ok (.pop, 1) := by decide +kernel
theorem dX6_did_21 : decode cX6_did 21 = .ok (.aload_n 0, 1) := by decide +kernel
theorem dX6_did_22 : decode cX6_did 22 = .ok (.invokevirtual 44, 3) := by decide +kernel
theorem dX6_did_25 : decode cX6_did 25 = .ok (.return_, 1) := by decide +kernel
theorem dX6_there_0 : decode cX6_there 0 = .ok (.iconst 0, 1) := by decide +kernel
theorem dX6_there_1 : decode cX6_there 1 = .ok (.istore_n 1, 1) := by decide +kernel
theorem dX6_there_2 : decode cX6_there 2 = .ok (.iconst 0, 1) := by decide +kernel
theorem dX6_there_3 : decode cX6_there 3 = .ok (.istore_n 2, 1) := by decide +kernel
theorem dX6_there_4 : decode cX6_there 4 = .ok (.iload_n 2, 1) := by decide +kernel
theorem dX6_there_5 : decode cX6_there 5 = .ok (.aload_n 0, 1) := by decide +kernel
theorem dX6_there_6 : decode cX6_there 6 = .ok (.getfield 54, 3) := by decide +kernel
theorem dX6_there_9 : decode cX6_there 9 = .ok (.if_icmp .ge 26, 3) := by decide +kernel
theorem dX6_there_12 : decode cX6_there 12 = .ok (.iload_n 1, 1) := by decide +kernel
theorem dX6_there_13 : decode cX6_there 13 = .ok (.aload_n 0, 1) := by decide +kernel
theorem dX6_there_14 : decode cX6_there 14 = .ok (.getfield 27, 3) := by decide +kernel
theorem dX6_there_17 : decode cX6_there 17 = .ok (.iload_n 2, 1) := by decide +kernel
theorem dX6_there_18 : decode cX6_there 18 = .ok (.baload, 1) := by decide +kernel
theorem dX6_there_19 : decode cX6_there 19 = .ok (.ifCond .eq 7, 3) := by decide +kernel
theorem dX6_there_22 : decode cX6_there 22 = .ok (.iconst 1, 1) := by decide +kernel
theorem dX6_there_23 : decode cX6_there 23 = .ok (.goto 4, 3) := by decide +kernel
theorem dX6_there_26 : decode cX6_there 26 = .ok (.iconst 0, 1) := by decide +kernel
theorem dX6_there_27 : decode cX6_there 27 = .ok (.iadd, 1) := by decide +kernel
theorem dX6_there_28 : decode cX6_there 28 = .ok (.istore_n 1, 1) := by decide +kernel
theorem dX6_there_29 : decode cX6_there 29 = .ok (.iinc 2 1, 3) := by decide +kernel
theorem dX6_there_32 : decode cX6_there 32 = .ok (.goto (-28), 3) := by decide +kernel
theorem dX6_there_35 : decode cX6_there 35 = .ok (.iload_n 1, 1) := by decide +kernel
theorem dX6_there_36 : decode cX6_there 36 = .ok (.ireturn, 1) := by decide +kernel
theorem dX6_posts_0 : decode cX6_posts 0 = .ok (.aload_n 0, 1) := by decide +kernel
theorem dX6_posts_1 : decode cX6_posts 1 = .ok (.iconst 0, 1) := by decide +kernel
theorem dX6_posts_2 : decode cX6_posts 2 = .ok (.putfield 47, 3) := by decide +kernel
theorem dX6_posts_5 : decode cX6_posts 5 = .ok (.iload_n 1, 1) := by decide +kernel
theorem dX6_posts_6 : decode cX6_posts 6 = .ok (.i2l, 1) := by decide +kernel
theorem dX6_posts_7 : decode cX6_posts 7 = .ok (.ldc2_w 65, 3) := by decide +kernel
theorem dX6_posts_10 : decode cX6_posts 10 = .ok (.ldc2_w 67, 3) := by decide +kernel
theorem dX6_posts_13 : decode cX6_posts 13 = .ok (.invokestatic 50, 3) := by decide +kernel
theorem dX6_posts_16 : decode cX6_posts 16 = .ok (.ifCond .ne 7, 3) := by decide +kernel
theorem dX6_posts_19 : decode cX6_posts 19 = .ok (.sipush (-1002), 3) := by decide +kernel
theorem dX6_posts_22 : decode cX6_posts 22 = .ok (.ireturn, 1) := by decide +kernel
theorem dX6_posts_23 : decode cX6_posts 23 = .ok (.aload_n 0, 1) := by decide +kernel
theorem dX6_posts_24 : decode cX6_posts 24 = .ok (.getfield 7, 3) := by decide +kernel
theorem dX6_posts_27 : decode cX6_posts 27 = .ok (.istore_n 2, 1) := by decide +kernel
theorem dX6_posts_28 : decode cX6_posts 28 = .ok (.aload_n 0, 1) := by decide +kernel
theorem dX6_posts_29 : decode cX6_posts 29 = .ok (.iload_n 1, 1) := by decide +kernel
theorem dX6_posts_30 : decode cX6_posts 30 = .ok (.putfield 7, 3) := by decide +kernel
theorem dX6_posts_33 : decode cX6_posts 33 = .ok (.aload_n 0, 1) := by decide +kernel
theorem dX6_posts_34 : decode cX6_posts 34 = .ok (.iconst 0, 1) := by decide +kernel
theorem dX6_posts_35 : decode cX6_posts 35 = .ok (.putfield 54, 3) := by decide +kernel
theorem dX6_posts_38 : decode cX6_posts 38 = .ok (.aload_n 0, 1) := by decide +kernel
theorem dX6_posts_39 : decode cX6_posts 39 = .ok (.iconst 0, 1) := by decide +kernel
theorem dX6_posts_40 : decode cX6_posts 40 = .ok (.putfield 62, 3) := by decide +kernel
theorem dX6_posts_43 : decode cX6_posts 43 = .ok (.aload_n 0, 1) := by decide +kernel
theorem dX6_posts_44 : decode cX6_posts 44 = .ok (.iconst 0, 1) := by decide +kernel
theorem dX6_posts_45 : decode cX6_posts 45 = .ok (.putfield 69, 3) := by decide +kernel
theorem dX6_posts_48 : decode cX6_posts 48 = .ok (.aload_n 0, 1) := by decide +kernel
theorem dX6_posts_49 : decode cX6_posts 49 = .ok (.sipush (-1000), 3) := by decide +kernel
theorem dX6_posts_52 : decode cX6_posts 52 = .ok (.sipush (-1000), 3) := by decide +kernel
theorem dX6_posts_55 : decode cX6_posts 55 = .ok (.invokevirtual 40, 3) := by decide +kernel
theorem dX6_posts_58 : decode cX6_posts 58 = .ok (.pop, 1) := by decide +kernel
theorem dX6_posts_59 : decode cX6_posts 59 = .ok (.aload_n 0, 1) := by decide +kernel
theorem dX6_posts_60 : decode cX6_posts 60 = .ok (.invokevirtual 44, 3) := by decide +kernel
theorem dX6_posts_63 : decode cX6_posts 63 = .ok (.iload_n 2, 1) := by decide +kernel
theorem dX6_posts_64 : decode cX6_posts 64 = .ok (.ireturn, 1) := by decide +kernel
theorem dX6_line_0 : decode cX6_line 0 = .ok (.aload_n 0, 1) := by decide +kernel
theorem dX6_line_1 : decode cX6_line 1 = .ok (.iconst 0, 1) := by decide +kernel
theorem dX6_line_2 : decode cX6_line 2 = .ok (.putfield 47, 3) := by decide +kernel
theorem dX6_line_5 : decode cX6_line 5 = .ok (.aload_n 0, 1) := by decide +kernel
theorem dX6_line_6 : decode cX6_line 6 = .ok (.iload_n 1, 1) := by decide +kernel
theorem dX6_line_7 : decode cX6_line 7 = .ok (.invokevirtual 72, 3) := by decide +kernel
theorem dX6_line_10 : decode cX6_line 10 = .ok (.ifCond .ne 11, 3) := by decide +kernel
theorem dX6_line_13 : decode cX6_line 13 = .ok (.aload_n 0, 1) := by decide +kernel
theorem dX6_line_14 : decode cX6_line 14 = .ok (.iload_n 2, 1) := by decide +kernel
theorem dX6_line_15 : decode cX6_line 15 = .ok (.invokevirtual 72, 3) := by decide +kernel
theorem dX6_line_18 : decode cX6_line 18 = .ok (.ifCond .eq 7, 3) := by decide +kernel
theorem dX6_line_21 : decode cX6_line 21 = .ok (.sipush (-1001), 3) := by decide +kernel
theorem dX6_line_24 : decode cX6_line 24 = .ok (.ireturn, 1) := by decide +kernel
theorem dX6_line_25 : decode cX6_line 25 = .ok (.iload_n 3, 1) := by decide +kernel
theorem dX6_line_26 : decode cX6_line 26 = .ok (.i2l, 1) := by decide +kernel
theorem dX6_line_27 : decode cX6_line 27 = .ok (.iload 4, 2) := by decide +kernel
theorem dX6_line_29 : decode cX6_line 29 = .ok (.ifCond .eq 7, 3) := by decide +kernel
theorem dX6_line_32 : decode cX6_line 32 = .ok (.lconst 0, 1) := by decide +kernel
theorem dX6_line_33 : decode cX6_line 33 = .ok (.goto 6, 3) := by decide +kernel
theorem dX6_line_36 : decode cX6_line 36 = .ok (.ldc2_w 76, 3) := by decide +kernel
theorem dX6_line_39 : decode cX6_line 39 = .ok (.ldc2_w 78, 3) := by decide +kernel
theorem dX6_line_42 : decode cX6_line 42 = .ok (.invokestatic 50, 3) := by decide +kernel
theorem dX6_line_45 : decode cX6_line 45 = .ok (.ifCond .ne 7, 3) := by decide +kernel
theorem dX6_line_48 : decode cX6_line 48 = .ok (.sipush (-1002), 3) := by decide +kernel
theorem dX6_line_51 : decode cX6_line 51 = .ok (.ireturn, 1) := by decide +kernel
theorem dX6_line_52 : decode cX6_line 52 = .ok (.iload_n 1, 1) := by decide +kernel
theorem dX6_line_53 : decode cX6_line 53 = .ok (.iload_n 2, 1) := by decide +kernel
theorem dX6_line_54 : decode cX6_line 54 = .ok (.if_icmp .ne 7, 3) := by decide +kernel
theorem dX6_line_57 : decode cX6_line 57 = .ok (.sipush (-1003), 3) := by decide +kernel
theorem dX6_line_60 : decode cX6_line 60 = .ok (.ireturn, 1) := by decide +kernel
theorem dX6_line_61 : decode cX6_line 61 = .ok (.aload_n 0, 1) := by decide +kernel
theorem dX6_line_62 : decode cX6_line 62 = .ok (.sipush (-1000), 3) := by decide +kernel
theorem dX6_line_65 : decode cX6_line 65 = .ok (.sipush (-1000), 3) := by decide +kernel
theorem dX6_line_68 : decode cX6_line 68 = .ok (.invokevirtual 40, 3) := by decide +kernel
theorem dX6_line_71 : decode cX6_line 71 = .ok (.pop, 1) := by decide +kernel
theorem dX6_line_72 : decode cX6_line 72 = .ok (.aload_n 0, 1) := by decide +kernel
theorem dX6_line_73 : decode cX6_line 73 = .ok (.iload_n 2, 1) := by decide +kernel
theorem dX6_line_74 : decode cX6_line 74 = .ok (.iload_n 1, 1) := by decide +kernel
theorem dX6_line_75 : decode cX6_line 75 = .ok (.invokevirtual 80, 3) := by decide +kernel
theorem dX6_line_78 : decode cX6_line 78 = .ok (.istore 5, 2) := by decide +kernel
theorem dX6_line_80 : decode cX6_line 80 = .ok (.iload 4, 2) := by decide +kernel
theorem dX6_line_82 : decode cX6_line 82 = .ok (.ifCond .ne 18, 3) := by decide +kernel
theorem dX6_line_85 : decode cX6_line 85 = .ok (.iload 5, 2) := by decide +kernel
theorem dX6_line_87 : decode cX6_line 87 = .ok (.sipush (-1000), 3) := by decide +kernel
theorem dX6_line_90 : decode cX6_line 90 = .ok (.if_icmp .eq 10, 3) := by decide +kernel
theorem dX6_line_93 : decode cX6_line 93 = .ok (.iload 5, 2) := by decide +kernel
theorem dX6_line_95 : decode cX6_line 95 = .ok (.iload_n 3, 1) := by decide +kernel
theorem dX6_line_96 : decode cX6_line 96 = .ok (.iadd, 1) := by decide +kernel
theorem dX6_line_97 : decode cX6_line 97 = .ok (.ifCond .lt 46, 3) := by decide +kernel
theorem dX6_line_100 : decode cX6_line 100 = .ok (.iload 4, 2) := by decide +kernel
theorem dX6_line_102 : decode cX6_line 102 = .ok (.ifCond .eq 45, 3) := by decide +kernel
theorem dX6_line_105 : decode cX6_line 105 = .ok (.aload_n 0, 1) := by decide +kernel
theorem dX6_line_106 : decode cX6_line 106 = .ok (.iload_n 1, 1) := by decide +kernel
theorem dX6_line_107 : decode cX6_line 107 = .ok (.iload_n 2, 1) := by decide +kernel
theorem dX6_line_108 : decode cX6_line 108 = .ok (.invokevirtual 80, 3) := by decide +kernel
theorem dX6_line_111 : decode cX6_line 111 = .ok (.sipush (-1000), 3) := by decide +kernel
theorem dX6_line_114 : decode cX6_line 114 = .ok (.if_icmp .eq 14, 3) := by decide +kernel
theorem dX6_line_117 : decode cX6_line 117 = .ok (.aload_n 0, 1) := by decide +kernel
theorem dX6_line_118 : decode cX6_line 118 = .ok (.iload_n 1, 1) := by decide +kernel
theorem dX6_line_119 : decode cX6_line 119 = .ok (.iload_n 2, 1) := by decide +kernel
theorem dX6_line_120 : decode cX6_line 120 = .ok (.invokevirtual 80, 3) := by decide +kernel
theorem dX6_line_123 : decode cX6_line 123 = .ok (.iload_n 3, 1) := by decide +kernel
theorem dX6_line_124 : decode cX6_line 124 = .ok (.iadd, 1) := by decide +kernel
theorem dX6_line_125 : decode cX6_line 125 = .ok (.ifCond .lt 18, 3) := by decide +kernel
theorem dX6_line_128 : decode cX6_line 128 = .ok (.iload 5, 2) := by decide +kernel
theorem dX6_line_130 : decode cX6_line 130 = .ok (.sipush (-1000), 3) := by decide +kernel
theorem dX6_line_133 : decode cX6_line 133 = .ok (.if_icmp .eq 14, 3) := by decide +kernel
theorem dX6_line_136 : decode cX6_line 136 = .ok (.iload 5, 2) := by decide +kernel
theorem dX6_line_138 : decode cX6_line 138 = .ok (.iload_n 3, 1) := by decide +kernel
theorem dX6_line_139 : decode cX6_line 139 = .ok (.iadd, 1) := by decide +kernel
theorem dX6_line_140 : decode cX6_line 140 = .ok (.ifCond .ge 7, 3) := by decide +kernel
theorem dX6_line_143 : decode cX6_line 143 = .ok (.sipush (-1003), 3) := by decide +kernel
theorem dX6_line_146 : decode cX6_line 146 = .ok (.ireturn, 1) := by decide +kernel
theorem dX6_line_147 : decode cX6_line 147 = .ok (.aload_n 0, 1) := by decide +kernel
theorem dX6_line_148 : decode cX6_line 148 = .ok (.getfield 54, 3) := by decide +kernel
theorem dX6_line_151 : decode cX6_line 151 = .ok (.bipush 40, 2) := by decide +kernel
theorem dX6_line_153 : decode cX6_line 153 = .ok (.if_icmp .eq 13, 3) := by decide +kernel
theorem dX6_line_156 : decode cX6_line 156 = .ok (.aload_n 0, 1) := by decide +kernel
theorem dX6_line_157 : decode cX6_line 157 = .ok (.getfield 62, 3) := by decide +kernel
theorem dX6_line_160 : decode cX6_line 160 = .ok (.sipush 400, 3) := by decide +kernel
theorem dX6_line_163 : decode cX6_line 163 = .ok (.if_icmp .ne 7, 3) := by decide +kernel
theorem dX6_line_166 : decode cX6_line 166 = .ok (.sipush (-1004), 3) := by decide +kernel
theorem dX6_line_169 : decode cX6_line 169 = .ok (.ireturn, 1) := by decide +kernel
theorem dX6_line_170 : decode cX6_line 170 = .ok (.aload_n 0, 1) := by decide +kernel
theorem dX6_line_171 : decode cX6_line 171 = .ok (.getfield 13, 3) := by decide +kernel
theorem dX6_line_174 : decode cX6_line 174 = .ok (.aload_n 0, 1) := by decide +kernel
theorem dX6_line_175 : decode cX6_line 175 = .ok (.getfield 54, 3) := by decide +kernel
theorem dX6_line_178 : decode cX6_line 178 = .ok (.iload_n 1, 1) := by decide +kernel
theorem dX6_line_179 : decode cX6_line 179 = .ok (.iastore, 1) := by decide +kernel
theorem dX6_line_180 : decode cX6_line 180 = .ok (.aload_n 0, 1) := by decide +kernel
theorem dX6_line_181 : decode cX6_line 181 = .ok (.getfield 17, 3) := by decide +kernel
theorem dX6_line_184 : decode cX6_line 184 = .ok (.aload_n 0, 1) := by decide +kernel
theorem dX6_line_185 : decode cX6_line 185 = .ok (.getfield 54, 3) := by decide +kernel
theorem dX6_line_188 : decode cX6_line 188 = .ok (.iload_n 2, 1) := by decide +kernel
theorem dX6_line_189 : decode cX6_line 189 = .ok (.iastore, 1) := by decide +kernel
theorem dX6_line_190 : decode cX6_line 190 = .ok (.aload_n 0, 1) := by decide +kernel
theorem dX6_line_191 : decode cX6_line 191 = .ok (.getfield 20, 3) := by decide +kernel
theorem dX6_line_194 : decode cX6_line 194 = .ok (.aload_n 0, 1) := by decide +kernel
theorem dX6_line_195 : decode cX6_line 195 = .ok (.getfield 54, 3) := by decide +kernel
theorem dX6_line_198 : decode cX6_line 198 = .ok (.iload_n 3, 1) := by decide +kernel
theorem dX6_line_199 : decode cX6_line 199 = .ok (.iastore, 1) := by decide +kernel
theorem dX6_line_200 : decode cX6_line 200 = .ok (.aload_n 0, 1) := by decide +kernel
theorem dX6_line_201 : decode cX6_line 201 = .ok (.getfield 23, 3) := by decide +kernel
theorem dX6_line_204 : decode cX6_line 204 = .ok (.aload_n 0, 1) := by decide +kernel
theorem dX6_line_205 : decode cX6_line 205 = .ok (.getfield 54, 3) := by decide +kernel
theorem dX6_line_208 : decode cX6_line 208 = .ok (.iload 4, 2) := by decide +kernel
theorem dX6_line_210 : decode cX6_line 210 = .ok (.bastore, 1) := by decide +kernel
theorem dX6_line_211 : decode cX6_line 211 = .ok (.aload_n 0, 1) := by decide +kernel
theorem dX6_line_212 : decode cX6_line 212 = .ok (.getfield 27, 3) := by decide +kernel
theorem dX6_line_215 : decode cX6_line 215 = .ok (.aload_n 0, 1) := by decide +kernel
theorem dX6_line_216 : decode cX6_line 216 = .ok (.getfield 54, 3) := by decide +kernel
theorem dX6_line_219 : decode cX6_line 219 = .ok (.iconst 1, 1) := by decide +kernel
theorem dX6_line_220 : decode cX6_line 220 = .ok (.bastore, 1) := by decide +kernel
theorem dX6_line_221 : decode cX6_line 221 = .ok (.aload_n 0, 1) := by decide +kernel
theorem dX6_line_222 : decode cX6_line 222 = .ok (.dup, 1) := by decide +kernel
theorem dX6_line_223 : decode cX6_line 223 = .ok (.getfield 54, 3) := by decide +kernel
theorem dX6_line_226 : decode cX6_line 226 = .ok (.iconst 1, 1) := by decide +kernel
theorem dX6_line_227 : decode cX6_line 227 = .ok (.iadd, 1) := by decide +kernel
theorem dX6_line_228 : decode cX6_line 228 = .ok (.putfield 54, 3) := by decide +kernel
theorem dX6_line_231 : decode cX6_line 231 = .ok (.aload_n 0, 1) := by decide +kernel
theorem dX6_line_232 : decode cX6_line 232 = .ok (.invokevirtual 84, 3) := by decide +kernel
theorem dX6_line_235 : decode cX6_line 235 = .ok (.aload_n 0, 1) := by decide +kernel
theorem dX6_line_236 : decode cX6_line 236 = .ok (.getfield 54, 3) := by decide +kernel
theorem dX6_line_239 : decode cX6_line 239 = .ok (.iconst 1, 1) := by decide +kernel
theorem dX6_line_240 : decode cX6_line 240 = .ok (.isub, 1) := by decide +kernel
theorem dX6_line_241 : decode cX6_line 241 = .ok (.ireturn, 1) := by decide +kernel
theorem dX6_price_0 : decode cX6_price 0 = .ok (.aload_n 0, 1) := by decide +kernel
theorem dX6_price_1 : decode cX6_price 1 = .ok (.iconst 0, 1) := by decide +kernel
theorem dX6_price_2 : decode cX6_price 2 = .ok (.putfield 47, 3) := by decide +kernel
theorem dX6_price_5 : decode cX6_price 5 = .ok (.aload_n 0, 1) := by decide +kernel
theorem dX6_price_6 : decode cX6_price 6 = .ok (.iload_n 1, 1) := by decide +kernel
theorem dX6_price_7 : decode cX6_price 7 = .ok (.invokevirtual 87, 3) := by decide +kernel
theorem dX6_price_10 : decode cX6_price 10 = .ok (.ifCond .eq 7, 3) := by decide +kernel
theorem dX6_price_13 : decode cX6_price 13 = .ok (.sipush (-1001), 3) := by decide +kernel
theorem dX6_price_16 : decode cX6_price 16 = .ok (.ireturn, 1) := by decide +kernel
theorem dX6_price_17 : decode cX6_price 17 = .ok (.iload_n 2, 1) := by decide +kernel
theorem dX6_price_18 : decode cX6_price 18 = .ok (.i2l, 1) := by decide +kernel
theorem dX6_price_19 : decode cX6_price 19 = .ok (.aload_n 0, 1) := by decide +kernel
theorem dX6_price_20 : decode cX6_price 20 = .ok (.getfield 23, 3) := by decide +kernel
theorem dX6_price_23 : decode cX6_price 23 = .ok (.iload_n 1, 1) := by decide +kernel
theorem dX6_price_24 : decode cX6_price 24 = .ok (.baload, 1) := by decide +kernel
theorem dX6_price_25 : decode cX6_price 25 = .ok (.ifCond .eq 7, 3) := by decide +kernel
theorem dX6_price_28 : decode cX6_price 28 = .ok (.lconst 0, 1) := by decide +kernel
theorem dX6_price_29 : decode cX6_price 29 = .ok (.goto 6, 3) := by decide +kernel
theorem dX6_price_32 : decode cX6_price 32 = .ok (.ldc2_w 76, 3) := by decide +kernel
theorem dX6_price_35 : decode cX6_price 35 = .ok (.ldc2_w 78, 3) := by decide +kernel
theorem dX6_price_38 : decode cX6_price 38 = .ok (.invokestatic 50, 3) := by decide +kernel
theorem dX6_price_41 : decode cX6_price 41 = .ok (.ifCond .ne 7, 3) := by decide +kernel
theorem dX6_price_44 : decode cX6_price 44 = .ok (.sipush (-1002), 3) := by decide +kernel
theorem dX6_price_47 : decode cX6_price 47 = .ok (.ireturn, 1) := by decide +kernel
theorem dX6_price_48 : decode cX6_price 48 = .ok (.aload_n 0, 1) := by decide +kernel
theorem dX6_price_49 : decode cX6_price 49 = .ok (.getfield 20, 3) := by decide +kernel
theorem dX6_price_52 : decode cX6_price 52 = .ok (.iload_n 1, 1) := by decide +kernel
theorem dX6_price_53 : decode cX6_price 53 = .ok (.iaload, 1) := by decide +kernel
theorem dX6_price_54 : decode cX6_price 54 = .ok (.istore_n 3, 1) := by decide +kernel
theorem dX6_price_55 : decode cX6_price 55 = .ok (.iload_n 3, 1) := by decide +kernel
theorem dX6_price_56 : decode cX6_price 56 = .ok (.iload_n 2, 1) := by decide +kernel
theorem dX6_price_57 : decode cX6_price 57 = .ok (.if_icmp .ne 5, 3) := by decide +kernel
theorem dX6_price_60 : decode cX6_price 60 = .ok (.iload_n 3, 1) := by decide +kernel
theorem dX6_price_61 : decode cX6_price 61 = .ok (.ireturn, 1) := by decide +kernel
theorem dX6_price_62 : decode cX6_price 62 = .ok (.aload_n 0, 1) := by decide +kernel
theorem dX6_price_63 : decode cX6_price 63 = .ok (.getfield 20, 3) := by decide +kernel
theorem dX6_price_66 : decode cX6_price 66 = .ok (.iload_n 1, 1) := by decide +kernel
theorem dX6_price_67 : decode cX6_price 67 = .ok (.iload_n 2, 1) := by decide +kernel
theorem dX6_price_68 : decode cX6_price 68 = .ok (.iastore, 1) := by decide +kernel
theorem dX6_price_69 : decode cX6_price 69 = .ok (.aload_n 0, 1) := by decide +kernel
theorem dX6_price_70 : decode cX6_price 70 = .ok (.sipush (-1000), 3) := by decide +kernel
theorem dX6_price_73 : decode cX6_price 73 = .ok (.sipush (-1000), 3) := by decide +kernel
theorem dX6_price_76 : decode cX6_price 76 = .ok (.invokevirtual 40, 3) := by decide +kernel
theorem dX6_price_79 : decode cX6_price 79 = .ok (.ifCond .ne 14, 3) := by decide +kernel
theorem dX6_price_82 : decode cX6_price 82 = .ok (.aload_n 0, 1) := by decide +kernel
theorem dX6_price_83 : decode cX6_price 83 = .ok (.getfield 20, 3) := by decide +kernel
theorem dX6_price_86 : decode cX6_price 86 = .ok (.iload_n 1, 1) := by decide +kernel
theorem dX6_price_87 : decode cX6_price 87 = .ok (.iload_n 3, 1) := by decide +kernel
theorem dX6_price_88 : decode cX6_price 88 = .ok (.iastore, 1) := by decide +kernel
theorem dX6_price_89 : decode cX6_price 89 = .ok (.sipush (-1003), 3) := by decide +kernel
theorem dX6_price_92 : decode cX6_price 92 = .ok (.ireturn, 1) := by decide +kernel
theorem dX6_price_93 : decode cX6_price 93 = .ok (.aload_n 0, 1) := by decide +kernel
theorem dX6_price_94 : decode cX6_price 94 = .ok (.getfield 62, 3) := by decide +kernel
theorem dX6_price_97 : decode cX6_price 97 = .ok (.sipush 400, 3) := by decide +kernel
theorem dX6_price_100 : decode cX6_price 100 = .ok (.if_icmp .ne 14, 3) := by decide +kernel
theorem dX6_price_103 : decode cX6_price 103 = .ok (.aload_n 0, 1) := by decide +kernel
theorem dX6_price_104 : decode cX6_price 104 = .ok (.getfield 20, 3) := by decide +kernel
theorem dX6_price_107 : decode cX6_price 107 = .ok (.iload_n 1, 1) := by decide +kernel
theorem dX6_price_108 : decode cX6_price 108 = .ok (.iload_n 3, 1) := by decide +kernel
theorem dX6_price_109 : decode cX6_price 109 = .ok (.iastore, 1) := by decide +kernel
theorem dX6_price_110 : decode cX6_price 110 = .ok (.sipush (-1004), 3) := by decide +kernel
theorem dX6_price_113 : decode cX6_price 113 = .ok (.ireturn, 1) := by decide +kernel
theorem dX6_price_114 : decode cX6_price 114 = .ok (.aload_n 0, 1) := by decide +kernel
theorem dX6_price_115 : decode cX6_price 115 = .ok (.invokevirtual 84, 3) := by decide +kernel
theorem dX6_price_118 : decode cX6_price 118 = .ok (.iload_n 3, 1) := by decide +kernel
theorem dX6_price_119 : decode cX6_price 119 = .ok (.ireturn, 1) := by decide +kernel
theorem dX6_cut_0 : decode cX6_cut 0 = .ok (.aload_n 0, 1) := by decide +kernel
theorem dX6_cut_1 : decode cX6_cut 1 = .ok (.iconst 0, 1) := by decide +kernel
theorem dX6_cut_2 : decode cX6_cut 2 = .ok (.putfield 47, 3) := by decide +kernel
theorem dX6_cut_5 : decode cX6_cut 5 = .ok (.aload_n 0, 1) := by decide +kernel
theorem dX6_cut_6 : decode cX6_cut 6 = .ok (.iload_n 1, 1) := by decide +kernel
theorem dX6_cut_7 : decode cX6_cut 7 = .ok (.invokevirtual 87, 3) := by decide +kernel
theorem dX6_cut_10 : decode cX6_cut 10 = .ok (.ifCond .eq 7, 3) := by decide +kernel
theorem dX6_cut_13 : decode cX6_cut 13 = .ok (.sipush (-1001), 3) := by decide +kernel
theorem dX6_cut_16 : decode cX6_cut 16 = .ok (.ireturn, 1) := by decide +kernel
theorem dX6_cut_17 : decode cX6_cut 17 = .ok (.aload_n 0, 1) := by decide +kernel
theorem dX6_cut_18 : decode cX6_cut 18 = .ok (.getfield 27, 3) := by decide +kernel
theorem dX6_cut_21 : decode cX6_cut 21 = .ok (.iload_n 1, 1) := by decide +kernel
theorem dX6_cut_22 : decode cX6_cut 22 = .ok (.baload, 1) := by decide +kernel
theorem dX6_cut_23 : decode cX6_cut 23 = .ok (.ifCond .ne 7, 3) := by decide +kernel
theorem dX6_cut_26 : decode cX6_cut 26 = .ok (.sipush (-1003), 3) := by decide +kernel
theorem dX6_cut_29 : decode cX6_cut 29 = .ok (.ireturn, 1) := by decide +kernel
theorem dX6_cut_30 : decode cX6_cut 30 = .ok (.aload_n 0, 1) := by decide +kernel
theorem dX6_cut_31 : decode cX6_cut 31 = .ok (.getfield 62, 3) := by decide +kernel
theorem dX6_cut_34 : decode cX6_cut 34 = .ok (.sipush 400, 3) := by decide +kernel
theorem dX6_cut_37 : decode cX6_cut 37 = .ok (.if_icmp .ne 7, 3) := by decide +kernel
theorem dX6_cut_40 : decode cX6_cut 40 = .ok (.sipush (-1004), 3) := by decide +kernel
theorem dX6_cut_43 : decode cX6_cut 43 = .ok (.ireturn, 1) := by decide +kernel
theorem dX6_cut_44 : decode cX6_cut 44 = .ok (.aload_n 0, 1) := by decide +kernel
theorem dX6_cut_45 : decode cX6_cut 45 = .ok (.getfield 27, 3) := by decide +kernel
theorem dX6_cut_48 : decode cX6_cut 48 = .ok (.iload_n 1, 1) := by decide +kernel
theorem dX6_cut_49 : decode cX6_cut 49 = .ok (.iconst 0, 1) := by decide +kernel
theorem dX6_cut_50 : decode cX6_cut 50 = .ok (.bastore, 1) := by decide +kernel
theorem dX6_cut_51 : decode cX6_cut 51 = .ok (.aload_n 0, 1) := by decide +kernel
theorem dX6_cut_52 : decode cX6_cut 52 = .ok (.invokevirtual 84, 3) := by decide +kernel
theorem dX6_cut_55 : decode cX6_cut 55 = .ok (.aload_n 0, 1) := by decide +kernel
theorem dX6_cut_56 : decode cX6_cut 56 = .ok (.invokevirtual 90, 3) := by decide +kernel
theorem dX6_cut_59 : decode cX6_cut 59 = .ok (.ireturn, 1) := by decide +kernel
theorem dX6_back_0 : decode cX6_back 0 = .ok (.aload_n 0, 1) := by decide +kernel
theorem dX6_back_1 : decode cX6_back 1 = .ok (.iconst 0, 1) := by decide +kernel
theorem dX6_back_2 : decode cX6_back 2 = .ok (.putfield 47, 3) := by decide +kernel
theorem dX6_back_5 : decode cX6_back 5 = .ok (.aload_n 0, 1) := by decide +kernel
theorem dX6_back_6 : decode cX6_back 6 = .ok (.iload_n 1, 1) := by decide +kernel
theorem dX6_back_7 : decode cX6_back 7 = .ok (.invokevirtual 87, 3) := by decide +kernel
theorem dX6_back_10 : decode cX6_back 10 = .ok (.ifCond .eq 7, 3) := by decide +kernel
theorem dX6_back_13 : decode cX6_back 13 = .ok (.sipush (-1001), 3) := by decide +kernel
theorem dX6_back_16 : decode cX6_back 16 = .ok (.ireturn, 1) := by decide +kernel
theorem dX6_back_17 : decode cX6_back 17 = .ok (.aload_n 0, 1) := by decide +kernel
theorem dX6_back_18 : decode cX6_back 18 = .ok (.getfield 27, 3) := by decide +kernel
theorem dX6_back_21 : decode cX6_back 21 = .ok (.iload_n 1, 1) := by decide +kernel
theorem dX6_back_22 : decode cX6_back 22 = .ok (.baload, 1) := by decide +kernel
theorem dX6_back_23 : decode cX6_back 23 = .ok (.ifCond .eq 7, 3) := by decide +kernel
theorem dX6_back_26 : decode cX6_back 26 = .ok (.sipush (-1003), 3) := by decide +kernel
theorem dX6_back_29 : decode cX6_back 29 = .ok (.ireturn, 1) := by decide +kernel
theorem dX6_back_30 : decode cX6_back 30 = .ok (.aload_n 0, 1) := by decide +kernel
theorem dX6_back_31 : decode cX6_back 31 = .ok (.getfield 27, 3) := by decide +kernel
theorem dX6_back_34 : decode cX6_back 34 = .ok (.iload_n 1, 1) := by decide +kernel
theorem dX6_back_35 : decode cX6_back 35 = .ok (.iconst 1, 1) := by decide +kernel
theorem dX6_back_36 : decode cX6_back 36 = .ok (.bastore, 1) := by decide +kernel
theorem dX6_back_37 : decode cX6_back 37 = .ok (.aload_n 0, 1) := by decide +kernel
theorem dX6_back_38 : decode cX6_back 38 = .ok (.sipush (-1000), 3) := by decide +kernel
theorem dX6_back_41 : decode cX6_back 41 = .ok (.sipush (-1000), 3) := by decide +kernel
theorem dX6_back_44 : decode cX6_back 44 = .ok (.invokevirtual 40, 3) := by decide +kernel
theorem dX6_back_47 : decode cX6_back 47 = .ok (.istore_n 2, 1) := by decide +kernel
theorem dX6_back_48 : decode cX6_back 48 = .ok (.iload_n 2, 1) := by decide +kernel
theorem dX6_back_49 : decode cX6_back 49 = .ok (.ifCond .eq 13, 3) := by decide +kernel
theorem dX6_back_52 : decode cX6_back 52 = .ok (.aload_n 0, 1) := by decide +kernel
theorem dX6_back_53 : decode cX6_back 53 = .ok (.getfield 62, 3) := by decide +kernel
theorem dX6_back_56 : decode cX6_back 56 = .ok (.sipush 400, 3) := by decide +kernel
theorem dX6_back_59 : decode cX6_back 59 = .ok (.if_icmp .ne 24, 3) := by decide +kernel
theorem dX6_back_62 : decode cX6_back 62 = .ok (.aload_n 0, 1) := by decide +kernel
theorem dX6_back_63 : decode cX6_back 63 = .ok (.getfield 27, 3) := by decide +kernel
theorem dX6_back_66 : decode cX6_back 66 = .ok (.iload_n 1, 1) := by decide +kernel
theorem dX6_back_67 : decode cX6_back 67 = .ok (.iconst 0, 1) := by decide +kernel
theorem dX6_back_68 : decode cX6_back 68 = .ok (.bastore, 1) := by decide +kernel
theorem dX6_back_69 : decode cX6_back 69 = .ok (.iload_n 2, 1) := by decide +kernel
theorem dX6_back_70 : decode cX6_back 70 = .ok (.ifCond .eq 9, 3) := by decide +kernel
theorem dX6_back_73 : decode cX6_back 73 = .ok (.sipush (-1004), 3) := by decide +kernel
theorem dX6_back_76 : decode cX6_back 76 = .ok (.goto 6, 3) := by decide +kernel
theorem dX6_back_79 : decode cX6_back 79 = .ok (.sipush (-1003), 3) := by decide +kernel
theorem dX6_back_82 : decode cX6_back 82 = .ok (.ireturn, 1) := by decide +kernel
theorem dX6_back_83 : decode cX6_back 83 = .ok (.aload_n 0, 1) := by decide +kernel
theorem dX6_back_84 : decode cX6_back 84 = .ok (.invokevirtual 84, 3) := by decide +kernel
theorem dX6_back_87 : decode cX6_back 87 = .ok (.aload_n 0, 1) := by decide +kernel
theorem dX6_back_88 : decode cX6_back 88 = .ok (.invokevirtual 90, 3) := by decide +kernel
theorem dX6_back_91 : decode cX6_back 91 = .ok (.ireturn, 1) := by decide +kernel
theorem dX6_heightOf_0 : decode cX6_heightOf 0 = .ok (.iconst 0, 1) := by decide +kernel
theorem dX6_heightOf_1 : decode cX6_heightOf 1 = .ok (.istore_n 2, 1) := by decide +kernel
theorem dX6_heightOf_2 : decode cX6_heightOf 2 = .ok (.iconst 0, 1) := by decide +kernel
theorem dX6_heightOf_3 : decode cX6_heightOf 3 = .ok (.istore_n 3, 1) := by decide +kernel
theorem dX6_heightOf_4 : decode cX6_heightOf 4 = .ok (.iload_n 3, 1) := by decide +kernel
theorem dX6_heightOf_5 : decode cX6_heightOf 5 = .ok (.aload_n 0, 1) := by decide +kernel
theorem dX6_heightOf_6 : decode cX6_heightOf 6 = .ok (.getfield 7, 3) := by decide +kernel
theorem dX6_heightOf_9 : decode cX6_heightOf 9 = .ok (.if_icmp .ge 42, 3) := by decide +kernel
theorem dX6_heightOf_12 : decode cX6_heightOf 12 = .ok (.aload_n 0, 1) := by decide +kernel
theorem dX6_heightOf_13 : decode cX6_heightOf 13 = .ok (.iload_n 3, 1) := by decide +kernel
theorem dX6_heightOf_14 : decode cX6_heightOf 14 = .ok (.iload_n 1, 1) := by decide +kernel
theorem dX6_heightOf_15 : decode cX6_heightOf 15 = .ok (.invokevirtual 80, 3) := by decide +kernel
theorem dX6_heightOf_18 : decode cX6_heightOf 18 = .ok (.sipush (-1000), 3) := by decide +kernel
theorem dX6_heightOf_21 : decode cX6_heightOf 21 = .ok (.if_icmp .eq 22, 3) := by decide +kernel
theorem dX6_heightOf_24 : decode cX6_heightOf 24 = .ok (.aload_n 0, 1) := by decide +kernel
theorem dX6_heightOf_25 : decode cX6_heightOf 25 = .ok (.iload_n 3, 1) := by decide +kernel
theorem dX6_heightOf_26 : decode cX6_heightOf 26 = .ok (.iload_n 1, 1) := by decide +kernel
theorem dX6_heightOf_27 : decode cX6_heightOf 27 = .ok (.invokevirtual 80, 3) := by decide +kernel
theorem dX6_heightOf_30 : decode cX6_heightOf 30 = .ok (.iload_n 2, 1) := by decide +kernel
theorem dX6_heightOf_31 : decode cX6_heightOf 31 = .ok (.if_icmp .ge 12, 3) := by decide +kernel
theorem dX6_heightOf_34 : decode cX6_heightOf 34 = .ok (.aload_n 0, 1) := by decide +kernel
theorem dX6_heightOf_35 : decode cX6_heightOf 35 = .ok (.iload_n 3, 1) := by decide +kernel
theorem dX6_heightOf_36 : decode cX6_heightOf 36 = .ok (.iload_n 1, 1) := by decide +kernel
theorem dX6_heightOf_37 : decode cX6_heightOf 37 = .ok (.invokevirtual 80, 3) := by decide +kernel
theorem dX6_heightOf_40 : decode cX6_heightOf 40 = .ok (.goto 4, 3) := by decide +kernel
theorem dX6_heightOf_43 : decode cX6_heightOf 43 = .ok (.iload_n 2, 1) := by decide +kernel
theorem dX6_heightOf_44 : decode cX6_heightOf 44 = .ok (.istore_n 2, 1) := by decide +kernel
theorem dX6_heightOf_45 : decode cX6_heightOf 45 = .ok (.iinc 3 1, 3) := by decide +kernel
theorem dX6_heightOf_48 : decode cX6_heightOf 48 = .ok (.goto (-44), 3) := by decide +kernel
theorem dX6_heightOf_51 : decode cX6_heightOf 51 = .ok (.iload_n 2, 1) := by decide +kernel
theorem dX6_heightOf_52 : decode cX6_heightOf 52 = .ok (.ireturn, 1) := by decide +kernel
theorem dX6_told_0 : decode cX6_told 0 = .ok (.aload_n 0, 1) := by decide +kernel
theorem dX6_told_1 : decode cX6_told 1 = .ok (.iconst 0, 1) := by decide +kernel
theorem dX6_told_2 : decode cX6_told 2 = .ok (.putfield 47, 3) := by decide +kernel
theorem dX6_told_5 : decode cX6_told 5 = .ok (.aload_n 0, 1) := by decide +kernel
theorem dX6_told_6 : decode cX6_told 6 = .ok (.iload_n 1, 1) := by decide +kernel
theorem dX6_told_7 : decode cX6_told 7 = .ok (.invokevirtual 87, 3) := by decide +kernel
theorem dX6_told_10 : decode cX6_told 10 = .ok (.ifCond .eq 7, 3) := by decide +kernel
theorem dX6_told_13 : decode cX6_told 13 = .ok (.sipush (-1001), 3) := by decide +kernel
theorem dX6_told_16 : decode cX6_told 16 = .ok (.ireturn, 1) := by decide +kernel
theorem dX6_told_17 : decode cX6_told 17 = .ok (.iload_n 2, 1) := by decide +kernel
theorem dX6_told_18 : decode cX6_told 18 = .ok (.tableswitch 164 0 5 #[38, 45, 52, 59, 74, 89], 38) := by decide +kernel
theorem dX6_told_56 : decode cX6_told 56 = .ok (.aload_n 0, 1) := by decide +kernel
theorem dX6_told_57 : decode cX6_told 57 = .ok (.getfield 13, 3) := by decide +kernel
theorem dX6_told_60 : decode cX6_told 60 = .ok (.iload_n 1, 1) := by decide +kernel
theorem dX6_told_61 : decode cX6_told 61 = .ok (.iaload, 1) := by decide +kernel
theorem dX6_told_62 : decode cX6_told 62 = .ok (.ireturn, 1) := by decide +kernel
theorem dX6_told_63 : decode cX6_told 63 = .ok (.aload_n 0, 1) := by decide +kernel
theorem dX6_told_64 : decode cX6_told 64 = .ok (.getfield 17, 3) := by decide +kernel
theorem dX6_told_67 : decode cX6_told 67 = .ok (.iload_n 1, 1) := by decide +kernel
theorem dX6_told_68 : decode cX6_told 68 = .ok (.iaload, 1) := by decide +kernel
theorem dX6_told_69 : decode cX6_told 69 = .ok (.ireturn, 1) := by decide +kernel
theorem dX6_told_70 : decode cX6_told 70 = .ok (.aload_n 0, 1) := by decide +kernel
theorem dX6_told_71 : decode cX6_told 71 = .ok (.getfield 20, 3) := by decide +kernel
theorem dX6_told_74 : decode cX6_told 74 = .ok (.iload_n 1, 1) := by decide +kernel
theorem dX6_told_75 : decode cX6_told 75 = .ok (.iaload, 1) := by decide +kernel
theorem dX6_told_76 : decode cX6_told 76 = .ok (.ireturn, 1) := by decide +kernel
theorem dX6_told_77 : decode cX6_told 77 = .ok (.aload_n 0, 1) := by decide +kernel
theorem dX6_told_78 : decode cX6_told 78 = .ok (.getfield 23, 3) := by decide +kernel
theorem dX6_told_81 : decode cX6_told 81 = .ok (.iload_n 1, 1) := by decide +kernel
theorem dX6_told_82 : decode cX6_told 82 = .ok (.baload, 1) := by decide +kernel
theorem dX6_told_83 : decode cX6_told 83 = .ok (.ifCond .eq 7, 3) := by decide +kernel
theorem dX6_told_86 : decode cX6_told 86 = .ok (.iconst 1, 1) := by decide +kernel
theorem dX6_told_87 : decode cX6_told 87 = .ok (.goto 4, 3) := by decide +kernel
theorem dX6_told_90 : decode cX6_told 90 = .ok (.iconst 0, 1) := by decide +kernel
theorem dX6_told_91 : decode cX6_told 91 = .ok (.ireturn, 1) := by decide +kernel
theorem dX6_told_92 : decode cX6_told 92 = .ok (.aload_n 0, 1) := by decide +kernel
theorem dX6_told_93 : decode cX6_told 93 = .ok (.getfield 27, 3) := by decide +kernel
theorem dX6_told_96 : decode cX6_told 96 = .ok (.iload_n 1, 1) := by decide +kernel
theorem dX6_told_97 : decode cX6_told 97 = .ok (.baload, 1) := by decide +kernel
theorem dX6_told_98 : decode cX6_told 98 = .ok (.ifCond .eq 7, 3) := by decide +kernel
theorem dX6_told_101 : decode cX6_told 101 = .ok (.iconst 1, 1) := by decide +kernel
theorem dX6_told_102 : decode cX6_told 102 = .ok (.goto 4, 3) := by decide +kernel
theorem dX6_told_105 : decode cX6_told 105 = .ok (.iconst 0, 1) := by decide +kernel
theorem dX6_told_106 : decode cX6_told 106 = .ok (.ireturn, 1) := by decide +kernel
theorem dX6_told_107 : decode cX6_told 107 = .ok (.aload_n 0, 1) := by decide +kernel
theorem dX6_told_108 : decode cX6_told 108 = .ok (.sipush (-1000), 3) := by decide +kernel
theorem dX6_told_111 : decode cX6_told 111 = .ok (.sipush (-1000), 3) := by decide +kernel
theorem dX6_told_114 : decode cX6_told 114 = .ok (.invokevirtual 40, 3) := by decide +kernel
theorem dX6_told_117 : decode cX6_told 117 = .ok (.pop, 1) := by decide +kernel
theorem dX6_told_118 : decode cX6_told 118 = .ok (.aload_n 0, 1) := by decide +kernel
theorem dX6_told_119 : decode cX6_told 119 = .ok (.aload_n 0, 1) := by decide +kernel
theorem dX6_told_120 : decode cX6_told 120 = .ok (.getfield 13, 3) := by decide +kernel
theorem dX6_told_123 : decode cX6_told 123 = .ok (.iload_n 1, 1) := by decide +kernel
theorem dX6_told_124 : decode cX6_told 124 = .ok (.iaload, 1) := by decide +kernel
theorem dX6_told_125 : decode cX6_told 125 = .ok (.invokevirtual 94, 3) := by decide +kernel
theorem dX6_told_128 : decode cX6_told 128 = .ok (.aload_n 0, 1) := by decide +kernel
theorem dX6_told_129 : decode cX6_told 129 = .ok (.aload_n 0, 1) := by decide +kernel
theorem dX6_told_130 : decode cX6_told 130 = .ok (.getfield 17, 3) := by decide +kernel
theorem dX6_told_133 : decode cX6_told 133 = .ok (.iload_n 1, 1) := by decide +kernel
theorem dX6_told_134 : decode cX6_told 134 = .ok (.iaload, 1) := by decide +kernel
theorem dX6_told_135 : decode cX6_told 135 = .ok (.invokevirtual 94, 3) := by decide +kernel
theorem dX6_told_138 : decode cX6_told 138 = .ok (.isub, 1) := by decide +kernel
theorem dX6_told_139 : decode cX6_told 139 = .ok (.istore_n 3, 1) := by decide +kernel
theorem dX6_told_140 : decode cX6_told 140 = .ok (.aload_n 0, 1) := by decide +kernel
theorem dX6_told_141 : decode cX6_told 141 = .ok (.getfield 27, 3) := by decide +kernel
theorem dX6_told_144 : decode cX6_told 144 = .ok (.iload_n 1, 1) := by decide +kernel
theorem dX6_told_145 : decode cX6_told 145 = .ok (.baload, 1) := by decide +kernel
theorem dX6_told_146 : decode cX6_told 146 = .ok (.ifCond .ne 9, 3) := by decide +kernel
theorem dX6_told_149 : decode cX6_told 149 = .ok (.sipush (-1000), 3) := by decide +kernel
theorem dX6_told_152 : decode cX6_told 152 = .ok (.goto 29, 3) := by decide +kernel
theorem dX6_told_155 : decode cX6_told 155 = .ok (.aload_n 0, 1) := by decide +kernel
theorem dX6_told_156 : decode cX6_told 156 = .ok (.getfield 20, 3) := by decide +kernel
theorem dX6_told_159 : decode cX6_told 159 = .ok (.iload_n 1, 1) := by decide +kernel
theorem dX6_told_160 : decode cX6_told 160 = .ok (.iaload, 1) := by decide +kernel
theorem dX6_told_161 : decode cX6_told 161 = .ok (.aload_n 0, 1) := by decide +kernel
theorem dX6_told_162 : decode cX6_told 162 = .ok (.getfield 23, 3) := by decide +kernel
theorem dX6_told_165 : decode cX6_told 165 = .ok (.iload_n 1, 1) := by decide +kernel
theorem dX6_told_166 : decode cX6_told 166 = .ok (.baload, 1) := by decide +kernel
theorem dX6_told_167 : decode cX6_told 167 = .ok (.ifCond .eq 12, 3) := by decide +kernel
theorem dX6_told_170 : decode cX6_told 170 = .ok (.iload_n 3, 1) := by decide +kernel
theorem dX6_told_171 : decode cX6_told 171 = .ok (.ifCond .le 8, 3) := by decide +kernel
theorem dX6_told_174 : decode cX6_told 174 = .ok (.iload_n 3, 1) := by decide +kernel
theorem dX6_told_175 : decode cX6_told 175 = .ok (.ineg, 1) := by decide +kernel
theorem dX6_told_176 : decode cX6_told 176 = .ok (.goto 4, 3) := by decide +kernel
