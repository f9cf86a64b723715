theorem dX5_learn_67 : decode cX5_learn 67 = .ok (.iload_n 2, 1) := by decide +kernel
theorem dX5_learn_68 : decode cX5_learn 68 = .ok (.if_icmp .eq 133, 3) := by decide +kernel
theorem dX5_learn_71 : decode cX5_learn 71 = .ok (.aload_n 0, 1) := by decide +kernel
theorem dX5_learn_72 : decode cX5_learn 72 = .ok (.getfield 17, 3) := by decide +kernel
theorem dX5_learn_75 : decode cX5_learn 75 = .ok (.iload_n 3, 1) := by decide +kernel
theorem dX5_learn_76 : decode cX5_learn 76 = .ok (.iaload, 1) := by decide +kernel
theorem dX5_learn_77 : decode cX5_learn 77 = .ok (.iload_n 2, 1) := by decide +kernel
theorem dX5_learn_78 : decode cX5_learn 78 = .ok (.if_icmp .eq 123, 3) := by decide +kernel
theorem dX5_learn_81 : decode cX5_learn 81 = .ok (.bipush 64, 2) := by decide +kernel
theorem dX5_learn_83 : decode cX5_learn 83 = .ok (.aload_n 0, 1) := by decide +kernel
theorem dX5_learn_84 : decode cX5_learn 84 = .ok (.getfield 20, 3) := by decide +kernel
theorem dX5_learn_87 : decode cX5_learn 87 = .ok (.iload_n 3, 1) := by decide +kernel
theorem dX5_learn_88 : decode cX5_learn 88 = .ok (.iaload, 1) := by decide +kernel
theorem dX5_learn_89 : decode cX5_learn 89 = .ok (.imul, 1) := by decide +kernel
theorem dX5_learn_90 : decode cX5_learn 90 = .ok (.iconst 1, 1) := by decide +kernel
theorem dX5_learn_91 : decode cX5_learn 91 = .ok (.iadd, 1) := by decide +kernel
theorem dX5_learn_92 : decode cX5_learn 92 = .ok (.istore 4, 2) := by decide +kernel
theorem dX5_learn_94 : decode cX5_learn 94 = .ok (.bipush 10, 2) := by decide +kernel
theorem dX5_learn_96 : decode cX5_learn 96 = .ok (.aload_n 0, 1) := by decide +kernel
theorem dX5_learn_97 : decode cX5_learn 97 = .ok (.getfield 13, 3) := by decide +kernel
theorem dX5_learn_100 : decode cX5_learn 100 = .ok (.iload_n 3, 1) := by decide +kernel
theorem dX5_learn_101 : decode cX5_learn 101 = .ok (.iaload, 1) := by decide +kernel
theorem dX5_learn_102 : decode cX5_learn 102 = .ok (.imul, 1) := by decide +kernel
theorem dX5_learn_103 : decode cX5_learn 103 = .ok (.aload_n 0, 1) := by decide +kernel
theorem dX5_learn_104 : decode cX5_learn 104 = .ok (.getfield 17, 3) := by decide +kernel
theorem dX5_learn_107 : decode cX5_learn 107 = .ok (.iload_n 3, 1) := by decide +kernel
theorem dX5_learn_108 : decode cX5_learn 108 = .ok (.iaload, 1) := by decide +kernel
theorem dX5_learn_109 : decode cX5_learn 109 = .ok (.iadd, 1) := by decide +kernel
theorem dX5_learn_110 : decode cX5_learn 110 = .ok (.istore 5, 2) := by decide +kernel
theorem dX5_learn_112 : decode cX5_learn 112 = .ok (.aload_n 0, 1) := by decide +kernel
theorem dX5_learn_113 : decode cX5_learn 113 = .ok (.getfield 30, 3) := by decide +kernel
theorem dX5_learn_116 : decode cX5_learn 116 = .ok (.iload 5, 2) := by decide +kernel
theorem dX5_learn_118 : decode cX5_learn 118 = .ok (.iload 4, 2) := by decide +kernel
theorem dX5_learn_120 : decode cX5_learn 120 = .ok (.aload_n 0, 1) := by decide +kernel
theorem dX5_learn_121 : decode cX5_learn 121 = .ok (.getfield 30, 3) := by decide +kernel
theorem dX5_learn_124 : decode cX5_learn 124 = .ok (.iload 5, 2) := by decide +kernel
theorem dX5_learn_126 : decode cX5_learn 126 = .ok (.iaload, 1) := by decide +kernel
theorem dX5_learn_127 : decode cX5_learn 127 = .ok (.if_icmp .ge 8, 3) := by decide +kernel
theorem dX5_learn_130 : decode cX5_learn 130 = .ok (.iload 4, 2) := by decide +kernel
theorem dX5_learn_132 : decode cX5_learn 132 = .ok (.goto 10, 3) := by decide +kernel
theorem dX5_learn_135 : decode cX5_learn 135 = .ok (.aload_n 0, 1) := by decide +kernel
theorem dX5_learn_136 : decode cX5_learn 136 = .ok (.getfield 30, 3) := by decide +kernel
theorem dX5_learn_139 : decode cX5_learn 139 = .ok (.iload 5, 2) := by decide +kernel
theorem dX5_learn_141 : decode cX5_learn 141 = .ok (.iaload, 1) := by decide +kernel
theorem dX5_learn_142 : decode cX5_learn 142 = .ok (.iastore, 1) := by decide +kernel
theorem dX5_learn_143 : decode cX5_learn 143 = .ok (.bipush 10, 2) := by decide +kernel
theorem dX5_learn_145 : decode cX5_learn 145 = .ok (.aload_n 0, 1) := by decide +kernel
theorem dX5_learn_146 : decode cX5_learn 146 = .ok (.getfield 17, 3) := by decide +kernel
theorem dX5_learn_149 : decode cX5_learn 149 = .ok (.iload_n 3, 1) := by decide +kernel
theorem dX5_learn_150 : decode cX5_learn 150 = .ok (.iaload, 1) := by decide +kernel
theorem dX5_learn_151 : decode cX5_learn 151 = .ok (.imul, 1) := by decide +kernel
theorem dX5_learn_152 : decode cX5_learn 152 = .ok (.aload_n 0, 1) := by decide +kernel
theorem dX5_learn_153 : decode cX5_learn 153 = .ok (.getfield 13, 3) := by decide +kernel
theorem dX5_learn_156 : decode cX5_learn 156 = .ok (.iload_n 3, 1) := by decide +kernel
theorem dX5_learn_157 : decode cX5_learn 157 = .ok (.iaload, 1) := by decide +kernel
theorem dX5_learn_158 : decode cX5_learn 158 = .ok (.iadd, 1) := by decide +kernel
theorem dX5_learn_159 : decode cX5_learn 159 = .ok (.istore 5, 2) := by decide +kernel
theorem dX5_learn_161 : decode cX5_learn 161 = .ok (.aload_n 0, 1) := by decide +kernel
theorem dX5_learn_162 : decode cX5_learn 162 = .ok (.getfield 30, 3) := by decide +kernel
theorem dX5_learn_165 : decode cX5_learn 165 = .ok (.iload 5, 2) := by decide +kernel
theorem dX5_learn_167 : decode cX5_learn 167 = .ok (.aload_n 0, 1) := by decide +kernel
theorem dX5_learn_168 : decode cX5_learn 168 = .ok (.getfield 23, 3) := by decide +kernel
theorem dX5_learn_171 : decode cX5_learn 171 = .ok (.iload_n 3, 1) := by decide +kernel
theorem dX5_learn_172 : decode cX5_learn 172 = .ok (.baload, 1) := by decide +kernel
theorem dX5_learn_173 : decode cX5_learn 173 = .ok (.ifCond .eq 20, 3) := by decide +kernel
theorem dX5_learn_176 : decode cX5_learn 176 = .ok (.iload 4, 2) := by decide +kernel
theorem dX5_learn_178 : decode cX5_learn 178 = .ok (.aload_n 0, 1) := by decide +kernel
theorem dX5_learn_179 : decode cX5_learn 179 = .ok (.getfield 30, 3) := by decide +kernel
theorem dX5_learn_182 : decode cX5_learn 182 = .ok (.iload 5, 2) := by decide +kernel
theorem dX5_learn_184 : decode cX5_learn 184 = .ok (.iaload, 1) := by decide +kernel
theorem dX5_learn_185 : decode cX5_learn 185 = .ok (.if_icmp .ge 8, 3) := by decide +kernel
theorem dX5_learn_188 : decode cX5_learn 188 = .ok (.iload 4, 2) := by decide +kernel
theorem dX5_learn_190 : decode cX5_learn 190 = .ok (.goto 10, 3) := by decide +kernel
theorem dX5_learn_193 : decode cX5_learn 193 = .ok (.aload_n 0, 1) := by decide +kernel
theorem dX5_learn_194 : decode cX5_learn 194 = .ok (.getfield 30, 3) := by decide +kernel
theorem dX5_learn_197 : decode cX5_learn 197 = .ok (.iload 5, 2) := by decide +kernel
theorem dX5_learn_199 : decode cX5_learn 199 = .ok (.iaload, 1) := by decide +kernel
theorem dX5_learn_200 : decode cX5_learn 200 = .ok (.iastore, 1) := by decide +kernel
theorem dX5_learn_201 : decode cX5_learn 201 = .ok (.iinc 3 1, 3) := by decide +kernel
theorem dX5_learn_204 : decode cX5_learn 204 = .ok (.goto (-165), 3) := by decide +kernel
theorem dX5_learn_207 : decode cX5_learn 207 = .ok (.iconst 1, 1) := by decide +kernel
theorem dX5_learn_208 : decode cX5_learn 208 = .ok (.istore_n 3, 1) := by decide +kernel
theorem dX5_learn_209 : decode cX5_learn 209 = .ok (.iconst 0, 1) := by decide +kernel
theorem dX5_learn_210 : decode cX5_learn 210 = .ok (.istore 4, 2) := by decide +kernel
theorem dX5_learn_212 : decode cX5_learn 212 = .ok (.iload 4, 2) := by decide +kernel
theorem dX5_learn_214 : decode cX5_learn 214 = .ok (.aload_n 0, 1) := by decide +kernel
theorem dX5_learn_215 : decode cX5_learn 215 = .ok (.getfield 7, 3) := by decide +kernel
theorem dX5_learn_218 : decode cX5_learn 218 = .ok (.if_icmp .ge 217, 3) := by decide +kernel
theorem dX5_learn_221 : decode cX5_learn 221 = .ok (.iconst 0, 1) := by decide +kernel
theorem dX5_learn_222 : decode cX5_learn 222 = .ok (.istore 5, 2) := by decide +kernel
theorem dX5_learn_224 : decode cX5_learn 224 = .ok (.iload 5, 2) := by decide +kernel
theorem dX5_learn_226 : decode cX5_learn 226 = .ok (.aload_n 0, 1) := by decide +kernel
theorem dX5_learn_227 : decode cX5_learn 227 = .ok (.getfield 7, 3) := by decide +kernel
theorem dX5_learn_230 : decode cX5_learn 230 = .ok (.if_icmp .ge 141, 3) := by decide +kernel
theorem dX5_learn_233 : decode cX5_learn 233 = .ok (.iconst 0, 1) := by decide +kernel
theorem dX5_learn_234 : decode cX5_learn 234 = .ok (.istore 6, 2) := by decide +kernel
theorem dX5_learn_236 : decode cX5_learn 236 = .ok (.iload 6, 2) := by decide +kernel
theorem dX5_learn_238 : decode cX5_learn 238 = .ok (.aload_n 0, 1) := by decide +kernel
theorem dX5_learn_239 : decode cX5_learn 239 = .ok (.getfield 7, 3) := by decide +kernel
theorem dX5_learn_242 : decode cX5_learn 242 = .ok (.if_icmp .ge 123, 3) := by decide +kernel
theorem dX5_learn_245 : decode cX5_learn 245 = .ok (.aload_n 0, 1) := by decide +kernel
theorem dX5_learn_246 : decode cX5_learn 246 = .ok (.getfield 30, 3) := by decide +kernel
theorem dX5_learn_249 : decode cX5_learn 249 = .ok (.bipush 10, 2) := by decide +kernel
theorem dX5_learn_251 : decode cX5_learn 251 = .ok (.iload 5, 2) := by decide +kernel
theorem dX5_learn_253 : decode cX5_learn 253 = .ok (.imul, 1) := by decide +kernel
theorem dX5_learn_254 : decode cX5_learn 254 = .ok (.iload 4, 2) := by decide +kernel
theorem dX5_learn_256 : decode cX5_learn 256 = .ok (.iadd, 1) := by decide +kernel
theorem dX5_learn_257 : decode cX5_learn 257 = .ok (.iaload, 1) := by decide +kernel
theorem dX5_learn_258 : decode cX5_learn 258 = .ok (.ldc 57, 2) := by decide +kernel
theorem dX5_learn_260 : decode cX5_learn 260 = .ok (.if_icmp .ge 99, 3) := by decide +kernel
theorem dX5_learn_263 : decode cX5_learn 263 = .ok (.aload_n 0, 1) := by decide +kernel
theorem dX5_learn_264 : decode cX5_learn 264 = .ok (.getfield 30, 3) := by decide +kernel
theorem dX5_learn_267 : decode cX5_learn 267 = .ok (.bipush 10, 2) := by decide +kernel
theorem dX5_learn_269 : decode cX5_learn 269 = .ok (.iload 4, 2) := by decide +kernel
theorem dX5_learn_271 : decode cX5_learn 271 = .ok (.imul, 1) := by decide +kernel
theorem dX5_learn_272 : decode cX5_learn 272 = .ok (.iload 6, 2) := by decide +kernel
theorem dX5_learn_274 : decode cX5_learn 274 = .ok (.iadd, 1) := by decide +kernel
theorem dX5_learn_275 : decode cX5_learn 275 = .ok (.iaload, 1) := by decide +kernel
theorem dX5_learn_276 : decode cX5_learn 276 = .ok (.ldc 57, 2) := by decide +kernel
theorem dX5_learn_278 : decode cX5_learn 278 = .ok (.if_icmp .ge 81, 3) := by decide +kernel
theorem dX5_learn_281 : decode cX5_learn 281 = .ok (.aload_n 0, 1) := by decide +kernel
theorem dX5_learn_282 : decode cX5_learn 282 = .ok (.getfield 30, 3) := by decide +kernel
theorem dX5_learn_285 : decode cX5_learn 285 = .ok (.bipush 10, 2) := by decide +kernel
theorem dX5_learn_287 : decode cX5_learn 287 = .ok (.iload 5, 2) := by decide +kernel
theorem dX5_learn_289 : decode cX5_learn 289 = .ok (.imul, 1) := by decide +kernel
theorem dX5_learn_290 : decode cX5_learn 290 = .ok (.iload 4, 2) := by decide +kernel
theorem dX5_learn_292 : decode cX5_learn 292 = .ok (.iadd, 1) := by decide +kernel
theorem dX5_learn_293 : decode cX5_learn 293 = .ok (.iaload, 1) := by decide +kernel
theorem dX5_learn_294 : decode cX5_learn 294 = .ok (.aload_n 0, 1) := by decide +kernel
theorem dX5_learn_295 : decode cX5_learn 295 = .ok (.getfield 30, 3) := by decide +kernel
theorem dX5_learn_298 : decode cX5_learn 298 = .ok (.bipush 10, 2) := by decide +kernel
theorem dX5_learn_300 : decode cX5_learn 300 = .ok (.iload 4, 2) := by decide +kernel
theorem dX5_learn_302 : decode cX5_learn 302 = .ok (.imul, 1) := by decide +kernel
theorem dX5_learn_303 : decode cX5_learn 303 = .ok (.iload 6, 2) := by decide +kernel
theorem dX5_learn_305 : decode cX5_learn 305 = .ok (.iadd, 1) := by decide +kernel
theorem dX5_learn_306 : decode cX5_learn 306 = .ok (.iaload, 1) := by decide +kernel
theorem dX5_learn_307 : decode cX5_learn 307 = .ok (.iadd, 1) := by decide +kernel
theorem dX5_learn_308 : decode cX5_learn 308 = .ok (.istore 7, 2) := by decide +kernel
theorem dX5_learn_310 : decode cX5_learn 310 = .ok (.aload_n 0, 1) := by decide +kernel
theorem dX5_learn_311 : decode cX5_learn 311 = .ok (.getfield 30, 3) := by decide +kernel
theorem dX5_learn_314 : decode cX5_learn 314 = .ok (.bipush 10, 2) := by decide +kernel
theorem dX5_learn_316 : decode cX5_learn 316 = .ok (.iload 5, 2) := by decide +kernel
theorem dX5_learn_318 : decode cX5_learn 318 = .ok (.imul, 1) := by decide +kernel
theorem dX5_learn_319 : decode cX5_learn 319 = .ok (.iload 6, 2) := by decide +kernel
theorem dX5_learn_321 : decode cX5_learn 321 = .ok (.iadd, 1) := by decide +kernel
theorem dX5_learn_322 : decode cX5_learn 322 = .ok (.iload 7, 2) := by decide +kernel
theorem dX5_learn_324 : decode cX5_learn 324 = .ok (.aload_n 0, 1) := by decide +kernel
theorem dX5_learn_325 : decode cX5_learn 325 = .ok (.getfield 30, 3) := by decide +kernel
theorem dX5_learn_328 : decode cX5_learn 328 = .ok (.bipush 10, 2) := by decide +kernel
theorem dX5_learn_330 : decode cX5_learn 330 = .ok (.iload 5, 2) := by decide +kernel
theorem dX5_learn_332 : decode cX5_learn 332 = .ok (.imul, 1) := by decide +kernel
theorem dX5_learn_333 : decode cX5_learn 333 = .ok (.iload 6, 2) := by decide +kernel
theorem dX5_learn_335 : decode cX5_learn 335 = .ok (.iadd, 1) := by decide +kernel
theorem dX5_learn_336 : decode cX5_learn 336 = .ok (.iaload, 1) := by decide +kernel
theorem dX5_learn_337 : decode cX5_learn 337 = .ok (.if_icmp .ge 8, 3) := by decide +kernel
theorem dX5_learn_340 : decode cX5_learn 340 = .ok (.iload 7, 2) := by decide +kernel
theorem dX5_learn_342 : decode cX5_learn 342 = .ok (.goto 16, 3) := by decide +kernel
theorem dX5_learn_345 : decode cX5_learn 345 = .ok (.aload_n 0, 1) := by decide +kernel
theorem dX5_learn_346 : decode cX5_learn 346 = .ok (.getfield 30, 3) := by decide +kernel
theorem dX5_learn_349 : decode cX5_learn 349 = .ok (.bipush 10, 2) := by decide +kernel
theorem dX5_learn_351 : decode cX5_learn 351 = .ok (.iload 5, 2) := by decide +kernel
theorem dX5_learn_353 : decode cX5_learn 353 = .ok (.imul, 1) := by decide +kernel
theorem dX5_learn_354 : decode cX5_learn 354 = .ok (.iload 6, 2) := by decide +kernel
theorem dX5_learn_356 : decode cX5_learn 356 = .ok (.iadd, 1) := by decide +kernel
theorem dX5_learn_357 : decode cX5_learn 357 = .ok (.iaload, 1) := by decide +kernel
theorem dX5_learn_358 : decode cX5_learn 358 = .ok (.iastore, 1) := by decide +kernel
theorem dX5_learn_359 : decode cX5_learn 359 = .ok (.iinc 6 1, 3) := by decide +kernel
theorem dX5_learn_362 : decode cX5_learn 362 = .ok (.goto (-126), 3) := by decide +kernel
theorem dX5_learn_365 : decode cX5_learn 365 = .ok (.iinc 5 1, 3) := by decide +kernel
theorem dX5_learn_368 : decode cX5_learn 368 = .ok (.goto (-144), 3) := by decide +kernel
theorem dX5_learn_371 : decode cX5_learn 371 = .ok (.iconst 0, 1) := by decide +kernel
theorem dX5_learn_372 : decode cX5_learn 372 = .ok (.istore 5, 2) := by decide +kernel
theorem dX5_learn_374 : decode cX5_learn 374 = .ok (.iload 5, 2) := by decide +kernel
theorem dX5_learn_376 : decode cX5_learn 376 = .ok (.aload_n 0, 1) := by decide +kernel
theorem dX5_learn_377 : decode cX5_learn 377 = .ok (.getfield 7, 3) := by decide +kernel
theorem dX5_learn_380 : decode cX5_learn 380 = .ok (.if_icmp .ge 49, 3) := by decide +kernel
theorem dX5_learn_383 : decode cX5_learn 383 = .ok (.iload_n 3, 1) := by decide +kernel
theorem dX5_learn_384 : decode cX5_learn 384 = .ok (.ifCond .eq 23, 3) := by decide +kernel
theorem dX5_learn_387 : decode cX5_learn 387 = .ok (.aload_n 0, 1) := by decide +kernel
theorem dX5_learn_388 : decode cX5_learn 388 = .ok (.getfield 30, 3) := by decide +kernel
theorem dX5_learn_391 : decode cX5_learn 391 = .ok (.bipush 10, 2) := by decide +kernel
theorem dX5_learn_393 : decode cX5_learn 393 = .ok (.iload 5, 2) := by decide +kernel
theorem dX5_learn_395 : decode cX5_learn 395 = .ok (.imul, 1) := by decide +kernel
theorem dX5_learn_396 : decode cX5_learn 396 = .ok (.iload 5, 2) := by decide +kernel
theorem dX5_learn_398 : decode cX5_learn 398 = .ok (.iadd, 1) := by decide +kernel
theorem dX5_learn_399 : decode cX5_learn 399 = .ok (.iaload, 1) := by decide +kernel
theorem dX5_learn_400 : decode cX5_learn 400 = .ok (.ifCond .lt 7, 3) := by decide +kernel
theorem dX5_learn_403 : decode cX5_learn 403 = .ok (.iconst 1, 1) := by decide +kernel
theorem dX5_learn_404 : decode cX5_learn 404 = .ok (.goto 4, 3) := by decide +kernel
theorem dX5_learn_407 : decode cX5_learn 407 = .ok (.iconst 0, 1) := by decide +kernel
theorem dX5_learn_408 : decode cX5_learn 408 = .ok (.istore_n 3, 1) := by decide +kernel
theorem dX5_learn_409 : decode cX5_learn 409 = .ok (.aload_n 0, 1) := by decide +kernel
theorem dX5_learn_410 : decode cX5_learn 410 = .ok (.getfield 30, 3) := by decide +kernel
theorem dX5_learn_413 : decode cX5_learn 413 = .ok (.bipush 10, 2) := by decide +kernel
theorem dX5_learn_415 : decode cX5_learn 415 = .ok (.iload 5, 2) := by decide +kernel
theorem dX5_learn_417 : decode cX5_learn 417 = .ok (.imul, 1) := by decide +kernel
theorem dX5_learn_418 : decode cX5_learn 418 = .ok (.iload 5, 2) := by decide +kernel
theorem dX5_learn_420 : decode cX5_learn 420 = .ok (.iadd, 1) := by decide +kernel
theorem dX5_learn_421 : decode cX5_learn 421 = .ok (.iconst 0, 1) := by decide +kernel
theorem dX5_learn_422 : decode cX5_learn 422 = .ok (.iastore, 1) := by decide +kernel
theorem dX5_learn_423 : decode cX5_learn 423 = .ok (.iinc 5 1, 3) := by decide +kernel
theorem dX5_learn_426 : decode cX5_learn 426 = .ok (.goto (-52), 3) := by decide +kernel
theorem dX5_learn_429 : decode cX5_learn 429 = .ok (.iinc 4 1, 3) := by decide +kernel
theorem dX5_learn_432 : decode cX5_learn 432 = .ok (.goto (-220), 3) := by decide +kernel
theorem dX5_learn_435 : decode cX5_learn 435 = .ok (.iload_n 3, 1) := by decide +kernel
theorem dX5_learn_436 : decode cX5_learn 436 = .ok (.ireturn, 1) := by decide +kernel
theorem dX5_coarse_0 : decode cX5_coarse 0 = .ok (.iload_n 0, 1) := by decide +kernel
theorem dX5_coarse_1 : decode cX5_coarse 1 = .ok (.ldc 57, 2) := by decide +kernel
theorem dX5_coarse_3 : decode cX5_coarse 3 = .ok (.if_icmp .lt 7, 3) := by decide +kernel
theorem dX5_coarse_6 : decode cX5_coarse 6 = .ok (.sipush (-1000), 3) := by decide +kernel
theorem dX5_coarse_9 : decode cX5_coarse 9 = .ok (.ireturn, 1) := by decide +kernel
theorem dX5_coarse_10 : decode cX5_coarse 10 = .ok (.iload_n 0, 1) := by decide +kernel
theorem dX5_coarse_11 : decode cX5_coarse 11 = .ok (.bipush 64, 2) := by decide +kernel
theorem dX5_coarse_13 : decode cX5_coarse 13 = .ok (.irem, 1) := by decide +kernel
theorem dX5_coarse_14 : decode cX5_coarse 14 = .ok (.istore_n 1, 1) := by decide +kernel
theorem dX5_coarse_15 : decode cX5_coarse 15 = .ok (.iload_n 0, 1) := by decide +kernel
theorem dX5_coarse_16 : decode cX5_coarse 16 = .ok (.iload_n 1, 1) := by decide +kernel
theorem dX5_coarse_17 : decode cX5_coarse 17 = .ok (.ifCond .ge 10, 3) := by decide +kernel
theorem dX5_coarse_20 : decode cX5_coarse 20 = .ok (.iload_n 1, 1) := by decide +kernel
theorem dX5_coarse_21 : decode cX5_coarse 21 = .ok (.bipush 64, 2) := by decide +kernel
theorem dX5_coarse_23 : decode cX5_coarse 23 = .ok (.iadd, 1) := by decide +kernel
theorem dX5_coarse_24 : decode cX5_coarse 24 = .ok (.goto 4, 3) := by decide +kernel
theorem dX5_coarse_27 : decode cX5_coarse 27 = .ok (.iload_n 1, 1) := by decide +kernel
theorem dX5_coarse_28 : decode cX5_coarse 28 = .ok (.isub, 1) := by decide +kernel
theorem dX5_coarse_29 : decode cX5_coarse 29 = .ok (.bipush 64, 2) := by decide +kernel
theorem dX5_coarse_31 : decode cX5_coarse 31 = .ok (.idiv, 1) := by decide +kernel
theorem dX5_coarse_32 : decode cX5_coarse 32 = .ok (.ireturn, 1) := by decide +kernel
theorem dX5_farOf_0 : decode cX5_farOf 0 = .ok (.aload_n 0, 1) := by decide +kernel
theorem dX5_farOf_1 : decode cX5_farOf 1 = .ok (.getfield 30, 3) := by decide +kernel
theorem dX5_farOf_4 : decode cX5_farOf 4 = .ok (.bipush 10, 2) := by decide +kernel
theorem dX5_farOf_6 : decode cX5_farOf 6 = .ok (.iload_n 1, 1) := by decide +kernel
theorem dX5_farOf_7 : decode cX5_farOf 7 = .ok (.imul, 1) := by decide +kernel
theorem dX5_farOf_8 : decode cX5_farOf 8 = .ok (.iload_n 2, 1) := by decide +kernel
theorem dX5_farOf_9 : decode cX5_farOf 9 = .ok (.iadd, 1) := by decide +kernel
theorem dX5_farOf_10 : decode cX5_farOf 10 = .ok (.iaload, 1) := by decide +kernel
theorem dX5_farOf_11 : decode cX5_farOf 11 = .ok (.invokestatic 58, 3) := by decide +kernel
theorem dX5_farOf_14 : decode cX5_farOf 14 = .ok (.ireturn, 1) := by decide +kernel
theorem dX5_keep_0 : decode cX5_keep 0 = .ok (.iconst 0, 1) := by decide +kernel
theorem dX5_keep_1 : decode cX5_keep 1 = .ok (.istore_n 1, 1) := by decide +kernel
theorem dX5_keep_2 : decode cX5_keep 2 = .ok (.iload_n 1, 1) := by decide +kernel
theorem dX5_keep_3 : decode cX5_keep 3 = .ok (.bipush 100, 2) := by decide +kernel
theorem dX5_keep_5 : decode cX5_keep 5 = .ok (.if_icmp .ge 32, 3) := by decide +kernel
theorem dX5_keep_8 : decode cX5_keep 8 = .ok (.aload_n 0, 1) := by decide +kernel
theorem dX5_keep_9 : decode cX5_keep 9 = .ok (.getfield 34, 3) := by decide +kernel
theorem dX5_keep_12 : decode cX5_keep 12 = .ok (.bipush 100, 2) := by decide +kernel
theorem dX5_keep_14 : decode cX5_keep 14 = .ok (.aload_n 0, 1) := by decide +kernel
theorem dX5_keep_15 : decode cX5_keep 15 = .ok (.getfield 62, 3) := by decide +kernel
theorem dX5_keep_18 : decode cX5_keep 18 = .ok (.imul, 1) := by decide +kernel
theorem dX5_keep_19 : decode cX5_keep 19 = .ok (.iload_n 1, 1) := by decide +kernel
theorem dX5_keep_20 : decode cX5_keep 20 = .ok (.iadd, 1) := by decide +kernel
theorem dX5_keep_21 : decode cX5_keep 21 = .ok (.aload_n 0, 1) := by decide +kernel
theorem dX5_keep_22 : decode cX5_keep 22 = .ok (.getfield 30, 3) := by decide +kernel
theorem dX5_keep_25 : decode cX5_keep 25 = .ok (.iload_n 1, 1) := by decide +kernel
theorem dX5_keep_26 : decode cX5_keep 26 = .ok (.iaload, 1) := by decide +kernel
theorem dX5_keep_27 : decode cX5_keep 27 = .ok (.invokestatic 58, 3) := by decide +kernel
theorem dX5_keep_30 : decode cX5_keep 30 = .ok (.iastore, 1) := by decide +kernel
theorem dX5_keep_31 : decode cX5_keep 31 = .ok (.iinc 1 1, 3) := by decide +kernel
theorem dX5_keep_34 : decode cX5_keep 34 = .ok (.goto (-32), 3) := by decide +kernel
theorem dX5_keep_37 : decode cX5_keep 37 = .ok (.return_, 1) := by decide +kernel
theorem dX5_did_0 : decode cX5_did 0 = .ok (.aload_n 0, 1) := by decide +kernel
theorem dX5_did_1 : decode cX5_did 1 = .ok (.dup, 1) := by decide +kernel
theorem dX5_did_2 : decode cX5_did 2 = .ok (.getfield 62, 3) := by decide +kernel
theorem dX5_did_5 : decode cX5_did 5 = .ok (.iconst 1, 1) := by decide +kernel
theorem dX5_did_6 : decode cX5_did 6 = .ok (.iadd, 1) := by decide +kernel
theorem dX5_did_7 : decode cX5_did 7 = .ok (.putfield 62, 3) := by decide +kernel
theorem dX5_did_10 : decode cX5_did 10 = .ok (.aload_n 0, 1) := by decide +kernel
theorem dX5_did_11 : decode cX5_did 11 = .ok (.sipush (-1000), 3) := by decide +kernel
theorem dX5_did_14 : decode cX5_did 14 = .ok (.sipush (-1000), 3) := by decide +kernel
theorem dX5_did_17 : decode cX5_did 17 = .ok (.invokevirtual 40, 3) := by decide +kernel
theorem dX5_did_20 : decode cX5_did 20 = .ok (.pop, 1) := by decide +kernel
theorem dX5_did_21 : decode cX5_did 21 = .ok (.aload_n 0, 1) := by decide +kernel
theorem dX5_did_22 : decode cX5_did 22 = .ok (.invokevirtual 44, 3) := by decide +kernel
theorem dX5_did_25 : decode cX5_did 25 = .ok (.return_, 1) := by decide +kernel
theorem dX5_there_0 : decode cX5_there 0 = .ok (.iconst 0, 1) := by decide +kernel
theorem dX5_there_1 : decode cX5_there 1 = .ok (.istore_n 1, 1) := by decide +kernel
theorem dX5_there_2 : decode cX5_there 2 = .ok (.iconst 0, 1) := by decide +kernel
theorem dX5_there_3 : decode cX5_there 3 = .ok (.istore_n 2, 1) := by decide +kernel
theorem dX5_there_4 : decode cX5_there 4 = .ok (.iload_n 2, 1) := by decide +kernel
theorem dX5_there_5 : decode cX5_there 5 = .ok (.aload_n 0, 1) := by decide +kernel
theorem dX5_there_6 : decode cX5_there 6 = .ok (.getfield 54, 3) := by decide +kernel
theorem dX5_there_9 : decode cX5_there 9 = .ok (.if_icmp .ge 26, 3) := by decide +kernel
theorem dX5_there_12 : decode cX5_there 12 = .ok (.iload_n 1, 1) := by decide +kernel
theorem dX5_there_13 : decode cX5_there 13 = .ok (.aload_n 0, 1) := by decide +kernel
theorem dX5_there_14 : decode cX5_there 14 = .ok (.getfield 27, 3) := by decide +kernel
theorem dX5_there_17 : decode cX5_there 17 = .ok (.iload_n 2, 1) := by decide +kernel
theorem dX5_there_18 : decode cX5_there 18 = .ok (.baload, 1) := by decide +kernel
theorem dX5_there_19 : decode cX5_there 19 = .ok (.ifCond .eq 7, 3) := by decide +kernel
theorem dX5_there_22 : decode cX5_there 22 = .ok (.iconst 1, 1) := by decide +kernel
theorem dX5_there_23 : decode cX5_there 23 = .ok (.goto 4, 3) := by decide +kernel
theorem dX5_there_26 : decode cX5_there 26 = .ok (.iconst 0, 1) := by decide +kernel
theorem dX5_there_27 : decode cX5_there 27 = .ok (.iadd, 1) := by decide +kernel
theorem dX5_there_28 : decode cX5_there 28 = .ok (.istore_n 1, 1) := by decide +kernel
theorem dX5_there_29 : decode cX5_there 29 = .ok (.iinc 2 1, 3) := by decide +kernel
theorem dX5_there_32 : decode cX5_there 32 = .ok (.goto (-28), 3) := by decide +kernel
theorem dX5_there_35 : decode cX5_there 35 = .ok (.iload_n 1, 1) := by decide +kernel
theorem dX5_there_36 : decode cX5_there 36 = .ok (.ireturn, 1) := by decide +kernel
theorem dX5_posts_0 : decode cX5_posts 0 = .ok (.aload_n 0, 1) := by decide +kernel
theorem dX5_posts_1 : decode cX5_posts 1 = .ok (.iconst 0, 1) := by decide +kernel
theorem dX5_posts_2 : decode cX5_posts 2 = .ok (.putfield 47, 3) := by decide +kernel
theorem dX5_posts_5 : decode cX5_posts 5 = .ok (.iload_n 1, 1) := by decide +kernel
theorem dX5_posts_6 : decode cX5_posts 6 = .ok (.i2l, 1) := by decide +kernel
theorem dX5_posts_7 : decode cX5_posts 7 = .ok (.ldc2_w 65, 3) := by decide +kernel
theorem dX5_posts_10 : decode cX5_posts 10 = .ok (.ldc2_w 67, 3) := by decide +kernel
theorem dX5_posts_13 : decode cX5_posts 13 = .ok (.invokestatic 50, 3) := by decide +kernel
theorem dX5_posts_16 : decode cX5_posts 16 = .ok (.ifCond .ne 7, 3) := by decide +kernel
theorem dX5_posts_19 : decode cX5_posts 19 = .ok (.sipush (-1002), 3) := by decide +kernel
theorem dX5_posts_22 : decode cX5_posts 22 = .ok (.ireturn, 1) := by decide +kernel
theorem dX5_posts_23 : decode cX5_posts 23 = .ok (.aload_n 0, 1) := by decide +kernel
theorem dX5_posts_24 : decode cX5_posts 24 = .ok (.getfield 7, 3) := by decide +kernel
theorem dX5_posts_27 : decode cX5_posts 27 = .ok (.istore_n 2, 1) := by decide +kernel
theorem dX5_posts_28 : decode cX5_posts 28 = .ok (.aload_n 0, 1) := by decide +kernel
theorem dX5_posts_29 : decode cX5_posts 29 = .ok (.iload_n 1, 1) := by decide +kernel
theorem dX5_posts_30 : decode cX5_posts 30 = .ok (.putfield 7, 3) := by decide +kernel
theorem dX5_posts_33 : decode cX5_posts 33 = .ok (.aload_n 0, 1) := by decide +kernel
theorem dX5_posts_34 : decode cX5_posts 34 = .ok (.iconst 0, 1) := by decide +kernel
theorem dX5_posts_35 : decode cX5_posts 35 = .ok (.putfield 54, 3) := by decide +kernel
theorem dX5_posts_38 : decode cX5_posts 38 = .ok (.aload_n 0, 1) := by decide +kernel
theorem dX5_posts_39 : decode cX5_posts 39 = .ok (.iconst 0, 1) := by decide +kernel
theorem dX5_posts_40 : decode cX5_posts 40 = .ok (.putfield 62, 3) := by decide +kernel
theorem dX5_posts_43 : decode cX5_posts 43 = .ok (.aload_n 0, 1) := by decide +kernel
theorem dX5_posts_44 : decode cX5_posts 44 = .ok (.iconst 0, 1) := by decide +kernel
theorem dX5_posts_45 : decode cX5_posts 45 = .ok (.putfield 69, 3) := by decide +kernel
theorem dX5_posts_48 : decode cX5_posts 48 = .ok (.aload_n 0, 1) := by decide +kernel
theorem dX5_posts_49 : decode cX5_posts 49 = .ok (.sipush (-1000), 3) := by decide +kernel
theorem dX5_posts_52 : decode cX5_posts 52 = .ok (.sipush (-1000), 3) := by decide +kernel
theorem dX5_posts_55 : decode cX5_posts 55 = .ok (.invokevirtual 40, 3) := by decide +kernel
theorem dX5_posts_58 : decode cX5_posts 58 = .ok (.pop, 1) := by decide +kernel
theorem dX5_posts_59 : decode cX5_posts 59 = .ok (.aload_n 0, 1) := by decide +kernel
theorem dX5_posts_60 : decode cX5_posts 60 = .ok (.invokevirtual 44, 3) := by decide +kernel
theorem dX5_posts_63 : decode cX5_posts 63 = .ok (.iload_n 2, 1) := by decide +kernel
theorem dX5_posts_64 : decode cX5_posts 64 = .ok (.ireturn, 1) := by decide +kernel
theorem dX5_line_0 : decode cX5_line 0 = .ok (.aload_n 0, 1) := by decide +kernel
theorem dX5_line_1 : decode cX5_line 1 = .ok (.iconst 0, 1) := by decide +kernel
theorem dX5_line_2 : decode cX5_line 2 = .ok (.putfield 47, 3) := by decide +kernel
theorem dX5_line_5 : decode cX5_line 5 = .ok (.aload_n 0, 1) := by decide +kernel
theorem dX5_line_6 : decode cX5_line 6 = .ok (.iload_n 1, 1) := by decide +kernel
theorem dX5_line_7 : decode cX5_line 7 = .ok (.invokevirtual 72, 3) := by decide +kernel
theorem dX5_line_10 : decode cX5_line 10 = .ok (.ifCond .ne 11, 3) := by decide +kernel
theorem dX5_line_13 : decode cX5_line 13 = .ok (.aload_n 0, 1) := by decide +kernel
theorem dX5_line_14 : decode cX5_line 14 = .ok (.iload_n 2, 1) := by decide +kernel
theorem dX5_line_15 : decode cX5_line 15 = .ok (.invokevirtual 72, 3) := by decide +kernel
theorem dX5_line_18 : decode cX5_line 18 = .ok (.ifCond .eq 7, 3) := by decide +kernel
theorem dX5_line_21 : decode cX5_line 21 = .ok (.sipush (-1001), 3) := by decide +kernel
theorem dX5_line_24 : decode cX5_line 24 = .ok (.ireturn, 1) := by decide +kernel
theorem dX5_line_25 : decode cX5_line 25 = .ok (.iload_n 3, 1) := by decide +kernel
theorem dX5_line_26 : decode cX5_line 26 = .ok (.i2l, 1) := by decide +kernel
theorem dX5_line_27 : decode cX5_line 27 = .ok (.iload 4, 2) := by decide +kernel
theorem dX5_line_29 : decode cX5_line 29 = .ok (.ifCond .eq 7, 3) := by decide +kernel
theorem dX5_line_32 : decode cX5_line 32 = .ok (.lconst 0, 1) := by decide +kernel
theorem dX5_line_33 : decode cX5_line 33 = .ok (.goto 6, 3) := by decide +kernel
theorem dX5_line_36 : decode cX5_line 36 = .ok (.ldc2_w 76, 3) := by decide +kernel
theorem dX5_line_39 : decode cX5_line 39 = .ok (.ldc2_w 78, 3) := by decide +kernel
theorem dX5_line_42 : decode cX5_line 42 = .ok (.invokestatic 50, 3) := by decide +kernel
theorem dX5_line_45 : decode cX5_line 45 = .ok (.ifCond .ne 7, 3) := by decide +kernel
theorem dX5_line_48 : decode cX5_line 48 = .ok (.sipush (-1002), 3) := by decide +kernel
theorem dX5_line_51 : decode cX5_line 51 = .ok (.ireturn, 1) := by decide +kernel
theorem dX5_line_52 : decode cX5_line 52 = .ok (.iload_n 1, 1) := by decide +kernel
theorem dX5_line_53 : decode cX5_line 53 = .ok (.iload_n 2, 1) := by decide +kernel
theorem dX5_line_54 : decode cX5_line 54 = .ok (.if_icmp .ne 7, 3) := by decide +kernel
theorem dX5_line_57 : decode cX5_line 57 = .ok (.sipush (-1003), 3) := by decide +kernel
theorem dX5_line_60 : decode cX5_line 60 = .ok (.ireturn, 1) := by decide +kernel
theorem dX5_line_61 : decode cX5_line 61 = .ok (.aload_n 0, 1) := by decide +kernel
theorem dX5_line_62 : decode cX5_line 62 = .ok (.sipush (-1000), 3) := by decide +kernel
theorem dX5_line_65 : decode cX5_line 65 = .ok (.sipush (-1000), 3) := by decide +kernel
theorem dX5_line_68 : decode cX5_line 68 = .ok (.invokevirtual 40, 3) := by decide +kernel
theorem dX5_line_71 : decode cX5_line 71 = .ok (.pop, 1) := by decide +kernel
theorem dX5_line_72 : decode cX5_line 72 = .ok (.aload_n 0, 1) := by decide +kernel
theorem dX5_line_73 : decode cX5_line 73 = .ok (.iload_n 2, 1) := by decide +kernel
theorem dX5_line_74 : decode cX5_line 74 = .ok (.iload_n 1, 1) := by decide +kernel
theorem dX5_line_75 : decode cX5_line 75 = .ok (.invokevirtual 80, 3) := by decide +kernel
theorem dX5_line_78 : decode cX5_line 78 = .ok (.istore 5, 2) := by decide +kernel
theorem dX5_line_80 : decode cX5_line 80 = .ok (.iload 4, 2) := by decide +kernel
theorem dX5_line_82 : decode cX5_line 82 = .ok (.ifCond .ne 18, 3) := by decide +kernel
theorem dX5_line_85 : decode cX5_line 85 = .ok (.iload 5, 2) := by decide +kernel
theorem dX5_line_87 : decode cX5_line 87 = .ok (.sipush (-1000), 3) := by decide +kernel
theorem dX5_line_90 : decode cX5_line 90 = .ok (.if_icmp .eq 10, 3) := by decide +kernel
theorem dX5_line_93 : decode cX5_line 93 = .ok (.iload 5, 2) := by decide +kernel
theorem dX5_line_95 : decode cX5_line 95 = .ok (.iload_n 3, 1) := by decide +kernel
theorem dX5_line_96 : decode cX5_line 96 = .ok (.iadd, 1) := by decide +kernel
theorem dX5_line_97 : decode cX5_line 97 = .ok (.ifCond .lt 46, 3) := by decide +kernel
theorem dX5_line_100 : decode cX5_line 100 = .ok (.iload 4, 2) := by decide +kernel
theorem dX5_line_102 : decode cX5_line 102 = .ok (.ifCond .eq 45, 3) := by decide +kernel
theorem dX5_line_105 : decode cX5_line 105 = .ok (.aload_n 0, 1) := by decide +kernel
theorem dX5_line_106 : decode cX5_line 106 = .ok (.iload_n 1, 1) := by decide +kernel
theorem dX5_line_107 : decode cX5_line 107 = .ok (.iload_n 2, 1) := by decide +kernel
theorem dX5_line_108 : decode cX5_line 108 = .ok (.invokevirtual 80, 3) := by decide +kernel
theorem dX5_line_111 : decode cX5_line 111 = .ok (.sipush (-1000), 3) := by decide +kernel
theorem dX5_line_114 : decode cX5_line 114 = .ok (.if_icmp .eq 14, 3) := by decide +kernel
theorem dX5_line_117 : decode cX5_line 117 = .ok (.aload_n 0, 1) := by decide +kernel
theorem dX5_line_118 : decode cX5_line 118 = .ok (.iload_n 1, 1) := by decide +kernel
theorem dX5_line_119 : decode cX5_line 119 = .ok (.iload_n 2, 1) := by decide +kernel
theorem dX5_line_120 : decode cX5_line 120 = .ok (.invokevirtual 80, 3) := by decide +kernel
theorem dX5_line_123 : decode cX5_line 123 = .ok (.iload_n 3, 1) := by decide +kernel
theorem dX5_line_124 : decode cX5_line 124 = .ok (.iadd, 1) := by decide +kernel
theorem dX5_line_125 : decode cX5_line 125 = .ok (.ifCond .lt 18, 3) := by decide +kernel
theorem dX5_line_128 : decode cX5_line 128 = .ok (.iload 5, 2) := by decide +kernel
theorem dX5_line_130 : decode cX5_line 130 = .ok (.sipush (-1000), 3) := by decide +kernel
theorem dX5_line_133 : decode cX5_line 133 = .ok (.if_icmp .eq 14, 3) := by decide +kernel
theorem dX5_line_136 : decode cX5_line 136 = .ok (.iload 5, 2) := by decide +kernel
theorem dX5_line_138 : decode cX5_line 138 = .ok (.iload_n 3, 1) := by decide +kernel
theorem dX5_line_139 : decode cX5_line 139 = .ok (.iadd, 1) := by decide +kernel
theorem dX5_line_140 : decode cX5_line 140 = .ok (.ifCond .ge 7, 3) := by decide +kernel
theorem dX5_line_143 : decode cX5_line 143 = .ok (.sipush (-1003), 3) := by decide +kernel
theorem dX5_line_146 : decode cX5_line 146 = .ok (.ireturn, 1) := by decide +kernel
theorem dX5_line_147 : decode cX5_line 147 = .ok (.aload_n 0, 1) := by decide +kernel
theorem dX5_line_148 : decode cX5_line 148 = .ok (.getfield 54, 3) := by decide +kernel
theorem dX5_line_151 : decode cX5_line 151 = .ok (.bipush 40, 2) := by decide +kernel
theorem dX5_line_153 : decode cX5_line 153 = .ok (.if_icmp .eq 13, 3) := by decide +kernel
theorem dX5_line_156 : decode cX5_line 156 = .ok (.aload_n 0, 1) := by decide +kernel
theorem dX5_line_157 : decode cX5_line 157 = .ok (.getfield 62, 3) := by decide +kernel
theorem dX5_line_160 : decode cX5_line 160 = .ok (.sipush 400, 3) := by decide +kernel
theorem dX5_line_163 : decode cX5_line 163 = .ok (.if_icmp .ne 7, 3) := by decide +kernel
theorem dX5_line_166 : decode cX5_line 166 = .ok (.sipush (-1004), 3) := by decide +kernel
theorem dX5_line_169 : decode cX5_line 169 = .ok (.ireturn, 1) := by decide +kernel
theorem dX5_line_170 : decode cX5_line 170 = .ok (.aload_n 0, 1) := by decide +kernel
theorem dX5_line_171 : decode cX5_line 171 = .ok (.getfield 13, 3) := by decide +kernel
theorem dX5_line_174 : decode cX5_line 174 = .ok (.aload_n 0, 1) := by decide +kernel
theorem dX5_line_175 : decode cX5_line 175 = .ok (.getfield 54, 3) := by decide +kernel
theorem dX5_line_178 : decode cX5_line 178 = .ok (.iload_n 1, 1) := by decide +kernel
theorem dX5_line_179 : decode cX5_line 179 = .ok (.iastore, 1) := by decide +kernel
theorem dX5_line_180 : decode cX5_line 180 = .ok (.aload_n 0, 1) := by decide +kernel
theorem dX5_line_181 : decode cX5_line 181 = .ok (.getfield 17, 3) := by decide +kernel
theorem dX5_line_184 : decode cX5_line 184 = .ok (.aload_n 0, 1) := by decide +kernel
theorem dX5_line_185 : decode cX5_line 185 = .ok (.getfield 54, 3) := by decide +kernel
theorem dX5_line_188 : decode cX5_line 188 = .ok (.iload_n 2, 1) := by decide +kernel
theorem dX5_line_189 : decode cX5_line 189 = .ok (.iastore, 1) := by decide +kernel
theorem dX5_line_190 : decode cX5_line 190 = .ok (.aload_n 0, 1) := by decide +kernel
theorem dX5_line_191 : decode cX5_line 191 = .ok (.getfield 20, 3) := by decide +kernel
theorem dX5_line_194 : decode cX5_line 194 = .ok (.aload_n 0, 1) := by decide +kernel
theorem dX5_line_195 : decode cX5_line 195 = .ok (.getfield 54, 3) := by decide +kernel
theorem dX5_line_198 : decode cX5_line 198 = .ok (.iload_n 3, 1) := by decide +kernel
theorem dX5_line_199 : decode cX5_line 199 = .ok (.iastore, 1) := by decide +kernel
theorem dX5_line_200 : decode cX5_line 200 = .ok (.aload_n 0, 1) := by decide +kernel
theorem dX5_line_201 : decode cX5_line 201 = .ok (.getfield 23, 3) := by decide +kernel
theorem dX5_line_204 : decode cX5_line 204 = .ok (.aload_n 0, 1) := by decide +kernel
theorem dX5_line_205 : decode cX5_line 205 = .ok (.getfield 54, 3) := by decide +kernel
theorem dX5_line_208 : decode cX5_line 208 = .ok (.iload 4, 2) := by decide +kernel
theorem dX5_line_210 : decode cX5_line 210 = .ok (.bastore, 1) := by decide +kernel
theorem dX5_line_211 : decode cX5_line 211 = .ok (.aload_n 0, 1) := by decide +kernel
theorem dX5_line_212 : decode cX5_line 212 = .ok (.getfield 27, 3) := by decide +kernel
theorem dX5_line_215 : decode cX5_line 215 = .ok (.aload_n 0, 1) := by decide +kernel
theorem dX5_line_216 : decode cX5_line 216 = .ok (.getfield 54, 3) := by decide +kernel
theorem dX5_line_219 : decode cX5_line 219 = .ok (.iconst 1, 1) := by decide +kernel
theorem dX5_line_220 : decode cX5_line 220 = .ok (.bastore, 1) := by decide +kernel
theorem dX5_line_221 : decode cX5_line 221 = .ok (.aload_n 0, 1) := by decide +kernel
theorem dX5_line_222 : decode cX5_line 222 = .ok (.dup, 1) := by decide +kernel
theorem dX5_line_223 : decode cX5_line 223 = .ok (.getfield 54, 3) := by decide +kernel
theorem dX5_line_226 : decode cX5_line 226 = .ok (.iconst 1, 1) := by decide +kernel
theorem dX5_line_227 : decode cX5_line 227 = .ok (.iadd, 1) := by decide +kernel
theorem dX5_line_228 : decode cX5_line 228 = .ok (.putfield 54, 3) := by decide +kernel
theorem dX5_line_231 : decode cX5_line 231 = .ok (.aload_n 0, 1) := by decide +kernel
theorem dX5_line_232 : decode cX5_line 232 = .ok (.invokevirtual 84, 3) := by decide +kernel
theorem dX5_line_235 : decode cX5_line 235 = .ok (.aload_n 0, 1) := by decide +kernel
theorem dX5_line_236 : decode cX5_line 236 = .ok (.getfield 54, 3) := by decide +kernel
theorem dX5_line_239 : decode cX5_line 239 = .ok (.iconst 1, 1) := by decide +kernel
theorem dX5_line_240 : decode cX5_line 240 = .ok (.isub, 1) := by decide +kernel
theorem dX5_line_241 : decode cX5_line 241 = .ok (.ireturn, 1) := by decide +kernel
theorem dX5_price_0 : decode cX5_price 0 = .ok (.aload_n 0, 1) := by decide +kernel
theorem dX5_price_1 : decode cX5_price 1 = .ok (.iconst 0, 1) := by decide +kernel
theorem dX5_price_2 : decode cX5_price 2 = .ok (.putfield 47, 3) := by decide +kernel
theorem dX5_price_5 : decode cX5_price 5 = .ok (.aload_n 0, 1) := by decide +kernel
theorem dX5_price_6 : decode cX5_price 6 = .ok (.iload_n 1, 1) := by decide +kernel
theorem dX5_price_7 : decode cX5_price 7 = .ok (.invokevirtual 87, 3) := by decide +kernel
theorem dX5_price_10 : decode cX5_price 10 = .ok (.ifCond .eq 7, 3) := by decide +kernel
theorem dX5_price_13 : decode cX5_price 13 = .ok (.sipush (-1001), 3) := by decide +kernel
theorem dX5_price_16 : decode cX5_price 16 = .ok (.ireturn, 1) := by decide +kernel
theorem dX5_price_17 : decode cX5_price 17 = .ok (.iload_n 2, 1) := by decide +kernel
theorem dX5_price_18 : decode cX5_price 18 = .ok (.i2l, 1) := by decide +kernel
theorem dX5_price_19 : decode cX5_price 19 = .ok (.aload_n 0, 1) := by decide +kernel
theorem dX5_price_20 : decode cX5_price 20 = .ok (.getfield 23, 3) := by decide +kernel
theorem dX5_price_23 : decode cX5_price 23 = .ok (.iload_n 1, 1) := by decide +kernel
theorem dX5_price_24 : decode cX5_price 24 = .ok (.baload, 1) := by decide +kernel
theorem dX5_price_25 : decode cX5_price 25 = .ok (.ifCond .eq 7, 3) := by decide +kernel
theorem dX5_price_28 : decode cX5_price 28 = .ok (.lconst 0, 1) := by decide +kernel
theorem dX5_price_29 : decode cX5_price 29 = .ok (.goto 6, 3) := by decide +kernel
theorem dX5_price_32 : decode cX5_price 32 = .ok (.ldc2_w 76, 3) := by decide +kernel
theorem dX5_price_35 : decode cX5_price 35 = .ok (.ldc2_w 78, 3) := by decide +kernel
theorem dX5_price_38 : decode cX5_price 38 = .ok (.invokestatic 50, 3) := by decide +kernel
theorem dX5_price_41 : decode cX5_price 41 = .ok (.ifCond .ne 7, 3) := by decide +kernel
theorem dX5_price_44 : decode cX5_price 44 = .ok (.sipush (-1002), 3) := by decide +kernel
theorem dX5_price_47 : decode cX5_price 47 = .ok (.ireturn, 1) := by decide +kernel
theorem dX5_price_48 : decode cX5_price 48 = .ok (.aload_n 0, 1) := by decide +kernel
theorem dX5_price_49 : decode cX5_price 49 = .ok (.getfield 20, 3) := by decide +kernel
theorem dX5_price_52 : decode cX5_price 52 = .ok (.iload_n 1, 1) := by decide +kernel
theorem dX5_price_53 : decode cX5_price 53 = .ok (.iaload, 1) := by decide +kernel
theorem dX5_price_54 : decode cX5_price 54 = .ok (.istore_n 3, 1) := by decide +kernel
theorem dX5_price_55 : decode cX5_price 55 = .ok (.iload_n 3, 1) := by decide +kernel
theorem dX5_price_56 : decode cX5_price 56 = .ok (.iload_n 2, 1) := by decide +kernel
theorem dX5_price_57 : decode cX5_price 57 = .ok (.if_icmp .ne 5, 3) := by decide +kernel
theorem dX5_price_60 : decode cX5_price 60 = .ok (.iload_n 3, 1) := by decide +kernel
theorem dX5_price_61 : decode cX5_price 61 = .ok (.ireturn, 1) := by decide +kernel
theorem dX5_price_62 : decode cX5_price 62 = .ok (.aload_n 0, 1) := by decide +kernel
theorem dX5_price_63 : decode cX5_price 63 = .ok (.getfield 20, 3) := by decide +kernel
theorem dX5_price_66 : decode cX5_price 66 = .ok (.iload_n 1, 1) := by decide +kernel
theorem dX5_price_67 : decode cX5_price 67 = .ok (.iload_n 2, 1) := by decide +kernel
theorem dX5_price_68 : decode cX5_price 68 = .ok (.iastore, 1) := by decide +kernel
theorem dX5_price_69 : decode cX5_price 69 = .ok (.aload_n 0, 1) := by decide +kernel
theorem dX5_price_70 : decode cX5_price 70 = .ok (.sipush (-1000), 3) := by decide +kernel
theorem dX5_price_73 : decode cX5_price 73 = .ok (.sipush (-1000), 3) := by decide +kernel
theorem dX5_price_76 : decode cX5_price 76 = .ok (.invokevirtual 40, 3) := by decide +kernel
theorem dX5_price_79 : decode cX5_price 79 = .ok (.ifCond .ne 14, 3) := by decide +kernel
theorem dX5_price_82 : decode cX5_price 82 = .ok (.aload_n 0, 1) := by decide +kernel
theorem dX5_price_83 : decode cX5_price 83 = .ok (.getfield 20, 3) := by decide +kernel
theorem dX5_price_86 : decode cX5_price 86 = .ok (.iload_n 1, 1) := by decide +kernel
theorem dX5_price_87 : decode cX5_price 87 = .ok (.iload_n 3, 1) := by decide +kernel
theorem dX5_price_88 : decode cX5_price 88 = .ok (.iastore, 1) := by decide +kernel
theorem dX5_price_89 : decode cX5_price 89 = .ok (.sipush (-1003), 3) := by decide +kernel
theorem dX5_price_92 : decode cX5_price 92 = .ok (.ireturn, 1) := by decide +kernel
theorem dX5_price_93 : decode cX5_price 93 = .ok (.aload_n 0, 1) := by decide +kernel
theorem dX5_price_94 : decode cX5_price 94 = .ok (.getfield 62, 3) := by decide +kernel
theorem dX5_price_97 : decode cX5_price 97 = .ok (.sipush 400, 3) := by decide +kernel
theorem dX5_price_100 : decode cX5_price 100 = .ok (.if_icmp .ne 14, 3) := by decide +kernel
theorem dX5_price_103 : decode cX5_price 103 = .ok (.aload_n 0, 1) := by decide +kernel
theorem dX5_price_104 : decode cX5_price 104 = .ok (.getfield 20, 3) := by decide +kernel
theorem dX5_price_107 : decode cX5_price 107 = .ok (.iload_n 1, 1) := by decide +kernel
theorem dX5_price_108 : decode cX5_price 108 = .ok (.iload_n 3, 1) := by decide +kernel
theorem dX5_price_109 : decode cX5_price 109 = .ok (.iastore, 1) := by decide +kernel
theorem dX5_price_110 : decode cX5_price 110 = .ok (.sipush (-1004), 3) := by decide +kernel
theorem dX5_price_113 : decode cX5_price 113 = .ok (.ireturn, 1) := by decide +kernel
theorem dX5_price_114 : decode cX5_price 114 = .ok (.aload_n 0, 1) := by decide +kernel
theorem dX5_price_115 : decode cX5_price 115 = .ok (.invokevirtual 84, 3) := by decide +kernel
theorem dX5_price_118 : decode cX5_price 118 = .ok (.iload_n 3, 1) := by decide +kernel
theorem dX5_price_119 : decode cX5_price 119 = .ok (.ireturn, 1) := by decide +kernel
theorem dX5_cut_0 : decode cX5_cut 0 = .ok (.aload_n 0, 1) := by decide +kernel
theorem dX5_cut_1 : decode cX5_cut 1 = .ok (.iconst 0, 1) := by decide +kernel
theorem dX5_cut_2 : decode cX5_cut 2 = .ok (.putfield 47, 3) := by decide +kernel
theorem dX5_cut_5 : decode cX5_cut 5 = .ok (.aload_n 0, 1) := by decide +kernel
theorem dX5_cut_6 : decode cX5_cut 6 = .ok (.iload_n 1, 1) := by decide +kernel
theorem dX5_cut_7 : decode cX5_cut 7 = .ok (.invokevirtual 87, 3) := by decide +kernel
theorem dX5_cut_10 : decode cX5_cut 10 = .ok (.ifCond .eq 7, 3) := by decide +kernel
theorem dX5_cut_13 : decode cX5_cut 13 = .ok (.sipush (-1001), 3) := by decide +kernel
theorem dX5_cut_16 : decode cX5_cut 16 = .ok (.ireturn, 1) := by decide +kernel
theorem dX5_cut_17 : decode cX5_cut 17 = .ok (.aload_n 0, 1) := by decide +kernel
theorem dX5_cut_18 : decode cX5_cut 18 = .ok (.getfield 27, 3) := by decide +kernel
theorem dX5_cut_21 : decode cX5_cut 21 = .ok (.iload_n 1, 1) := by decide +kernel
theorem dX5_cut_22 : decode cX5_cut 22 = .ok (.baload, 1) := by decide +kernel
theorem dX5_cut_23 : decode cX5_cut 23 = .ok (.ifCond .ne 7, 3) := by decide +kernel
theorem dX5_cut_26 : decode cX5_cut 26 = .ok (.sipush (-1003), 3) := by decide +kernel
theorem dX5_cut_29 : decode cX5_cut 29 = .ok (.ireturn, 1) := by decide +kernel
theorem dX5_cut_30 : decode cX5_cut 30 = .ok (.aload_n 0, 1) := by decide +kernel
theorem dX5_cut_31 : decode cX5_cut 31 = .ok (.getfield 62, 3) := by decide +kernel
theorem dX5_cut_34 : decode cX5_cut 34 = .ok (.sipush 400, 3) := by decide +kernel
theorem dX5_cut_37 : decode cX5_cut 37 = .ok (.if_icmp .ne 7, 3) := by decide +kernel
theorem dX5_cut_40 : decode cX5_cut 40 = .ok (.sipush (-1004), 3) := by decide +kernel
theorem dX5_cut_43 : decode cX5_cut 43 = .ok (.ireturn, 1) := by decide +kernel
theorem dX5_cut_44 : decode cX5_cut 44 = .ok (.aload_n 0, 1) := by decide +kernel
theorem dX5_cut_45 : decode cX5_cut 45 = .ok (.getfield 27, 3) := by decide +kernel
theorem dX5_cut_48 : decode cX5_cut 48 = .ok (.iload_n 1, 1) := by decide +kernel
theorem dX5_cut_49 : decode cX5_cut 49 = .ok (.iconst 0, 1) := by decide +kernel
theorem dX5_cut_50 : decode cX5_cut 50 = .ok (.bastore, 1) := by decide +kernel
theorem dX5_cut_51 : decode cX5_cut 51 = .ok (.aload_n 0, 1) := by decide +kernel
theorem dX5_cut_52 : decode cX5_cut 52 = .ok (.invokevirtual 84, 3) := by decide +kernel
theorem dX5_cut_55 : decode cX5_cut 55 = .ok (.aload_n 0, 1) := by decide +kernel
theorem dX5_cut_56 : decode cX5_cut 56 = .ok (.invokevirtual 90, 3) := by decide +kernel
theorem dX5_cut_59 : decode cX5_cut 59 = .ok (.ireturn, 1) := by decide +kernel
theorem dX5_back_0 : decode cX5_back 0 = .ok (.aload_n 0, 1) := by decide +kernel
theorem dX5_back_1 : decode cX5_back 1 = .ok (.iconst 0, 1) := by decide +kernel
theorem dX5_back_2 : decode cX5_back 2 = .ok (.putfield 47, 3) := by decide +kernel
theorem dX5_back_5 : decode cX5_back 5 = .ok (.aload_n 0, 1) := by decide +kernel
theorem dX5_back_6 : decode cX5_back 6 = .ok (.iload_n 1, 1) := by decide +kernel
theorem dX5_back_7 : decode cX5_back 7 = .ok (.invokevirtual 87, 3) := by decide +kernel
theorem dX5_back_10 : decode cX5_back 10 = .ok (.ifCond .eq 7, 3) := by decide +kernel
theorem dX5_back_13 : decode cX5_back 13 = .ok (.sipush (-1001), 3) := by decide +kernel
theorem dX5_back_16 : decode cX5_back 16 = .ok (.ireturn, 1) := by decide +kernel
theorem dX5_back_17 : decode cX5_back 17 = .ok (.aload_n 0, 1) := by decide +kernel
theorem dX5_back_18 : decode cX5_back 18 = .ok (.getfield 27, 3) := by decide +kernel
theorem dX5_back_21 : decode cX5_back 21 = .ok (.iload_n 1, 1) := by decide +kernel
theorem dX5_back_22 : decode cX5_back 22 = .ok (.baload, 1) := by decide +kernel
theorem dX5_back_23 : decode cX5_back 23 = .ok (.ifCond .eq 7, 3) := by decide +kernel
theorem dX5_back_26 : decode cX5_back 26 = .ok (.sipush (-1003), 3) := by decide +kernel
theorem dX5_back_29 : decode cX5_back 29 = .ok (.ireturn, 1) := by decide +kernel
theorem dX5_back_30 : decode cX5_back 30 = .ok (.aload_n 0, 1) := by decide +kernel
theorem dX5_back_31 : decode cX5_back 31 = .ok (.getfield 27, 3) := by decide +kernel
theorem dX5_back_34 : decode cX5_back 34 = .ok (.iload_n 1, 1) := by decide +kernel
theorem dX5_back_35 : decode cX5_back 35 = .ok (.iconst 1, 1) := by decide +kernel
theorem dX5_back_36 : decode cX5_back 36 = .ok (.bastore, 1) := by decide +kernel
theorem dX5_back_37 : decode cX5_back 37 = .ok (.aload_n 0, 1) := by decide +kernel
theorem dX5_back_38 : decode cX5_back 38 = .ok (.sipush (-1000), 3) := by decide +kernel
theorem dX5_back_41 : decode cX5_back 41 = .ok (.sipush (-1000), 3) := by decide +kernel
theorem dX5_back_44 : decode cX5_back 44 = .ok (.invokevirtual 40, 3) := by decide +kernel
theorem dX5_back_47 : decode cX5_back 47 = .ok (.istore_n 2, 1) := by decide +kernel
theorem dX5_back_48 : decode cX5_back 48 = .ok (.iload_n 2, 1) := by decide +kernel
theorem dX5_back_49 : decode cX5_back 49 = .ok (.ifCond .eq 13, 3) := by decide +kernel
theorem dX5_back_52 : decode cX5_back 52 = .ok (.aload_n 0, 1) := by decide +kernel
theorem dX5_back_53 : decode cX5_back 53 = .ok (.getfield 62, 3) := by decide +kernel
theorem dX5_back_56 : decode cX5_back 56 = .ok (.sipush 400, 3) := by decide +kernel
theorem dX5_back_59 : decode cX5_back 59 = .ok (.if_icmp .ne 24, 3) := by decide +kernel
theorem dX5_back_62 : decode cX5_back 62 = .ok (.aload_n 0, 1) := by decide +kernel
theorem dX5_back_63 : decode cX5_back 63 = .ok (.getfield 27, 3) := by decide +kernel
theorem dX5_back_66 : decode cX5_back 66 = .ok (.iload_n 1, 1) := by decide +kernel
theorem dX5_back_67 : decode cX5_back 67 = .ok (.iconst 0, 1) := by decide +kernel
theorem dX5_back_68 : decode cX5_back 68 = .ok (.bastore, 1) := by decide +kernel
theorem dX5_back_69 : decode cX5_back 69 = .ok (.iload_n 2, 1) := by decide +kernel
theorem dX5_back_70 : decode cX5_back 70 = .ok (.ifCond .eq 9, 3) := by decide +kernel
theorem dX5_back_73 : decode cX5_back 73 = .ok (.sipush (-1004), 3) := by decide +kernel
theorem dX5_back_76 : decode cX5_back 76 = .ok (.goto 6, 3) := by decide +kernel
theorem dX5_back_79 : decode cX5_back 79 = .ok (.sipush (-1003), 3) := by decide +kernel
theorem dX5_back_82 : decode cX5_back 82 = .ok (.ireturn, 1) := by decide +kernel
theorem dX5_back_83 : decode cX5_back 83 = .ok (.aload_n 0, 1) := by decide +kernel
theorem dX5_back_84 : decode cX5_back 84 = .ok (.invokevirtual 84, 3) := by decide +kernel
theorem dX5_back_87 : decode cX5_back 87 = .ok (.aload_n 0, 1) := by decide +kernel
theorem dX5_back_88 : decode cX5_back 88 = .ok (.invokevirtual 90, 3) := by decide +kernel
theorem dX5_back_91 : decode cX5_back 91 = .ok (.ireturn, 1) := by decide +kernel
theorem dX5_heightOf_0 : decode cX5_heightOf 0 = .ok (.iconst 0, 1) := by decide +kernel
theorem dX5_heightOf_1 : decode cX5_heightOf 1 = .ok (.istore_n 2, 1) := by decide +kernel
theorem dX5_heightOf_2 : decode cX5_heightOf 2 = .ok (.iconst 0, 1) := by decide +kernel
theorem dX5_heightOf_3 : decode cX5_heightOf 3 = .ok (.istore_n 3, 1) := by decide +kernel
theorem dX5_heightOf_4 : decode cX5_heightOf 4 = .ok (.iload_n 3, 1) := by decide +kernel
theorem dX5_heightOf_5 : decode cX5_heightOf 5 = .ok (.aload_n 0, 1) := by decide +kernel
theorem dX5_heightOf_6 : decode cX5_heightOf 6 = .ok (.getfield 7, 3) := by decide +kernel
theorem dX5_heightOf_9 : decode cX5_heightOf 9 = .ok (.if_icmp .ge 42, 3) := by decide +kernel
theorem dX5_heightOf_12 : decode cX5_heightOf 12 = .ok (.aload_n 0, 1) := by decide +kernel
theorem dX5_heightOf_13 : decode cX5_heightOf 13 = .ok (.iload_n 3, 1) := by decide +kernel
theorem dX5_heightOf_14 : decode cX5_heightOf 14 = .ok (.iload_n 1, 1) := by decide +kernel
theorem dX5_heightOf_15 : decode cX5_heightOf 15 = .ok (.invokevirtual 80, 3) := by decide +kernel
theorem dX5_heightOf_18 : decode cX5_heightOf 18 = .ok (.sipush (-1000), 3) := by decide +kernel
theorem dX5_heightOf_21 : decode cX5_heightOf 21 = .ok (.if_icmp .eq 22, 3) := by decide +kernel
theorem dX5_heightOf_24 : decode cX5_heightOf 24 = .ok (.aload_n 0, 1) := by decide +kernel
theorem dX5_heightOf_25 : decode cX5_heightOf 25 = .ok (.iload_n 3, 1) := by decide +kernel
theorem dX5_heightOf_26 : decode cX5_heightOf 26 = .ok (.iload_n 1, 1) := by decide +kernel
theorem dX5_heightOf_27 : decode cX5_heightOf 27 = .ok (.invokevirtual 80, 3) := by decide +kernel
theorem dX5_heightOf_30 : decode cX5_heightOf 30 = .ok (.iload_n 2, 1) := by decide +kernel
theorem dX5_heightOf_31 : decode cX5_heightOf 31 = .ok (.if_icmp .ge 12, 3) := by decide +kernel
theorem dX5_heightOf_34 : decode cX5_heightOf 34 = .ok (.aload_n 0, 1) := by decide +kernel
theorem dX5_heightOf_35 : decode cX5_heightOf 35 = .ok (.iload_n 3, 1) := by decide +kernel
theorem dX5_heightOf_36 : decode cX5_heightOf 36 = .ok (.iload_n 1, 1) := by decide +kernel
theorem dX5_heightOf_37 : decode cX5_heightOf 37 = .ok (.invokevirtual 80, 3) := by decide +kernel
theorem dX5_heightOf_40 : decode cX5_heightOf 40 = .ok (.goto 4, 3) := by decide +kernel
theorem dX5_heightOf_43 : decode cX5_heightOf 43 = .ok (.iload_n 2, 1) := by decide +kernel
theorem dX5_heightOf_44 : decode cX5_heightOf 44 = .ok (.istore_n 2, 1) := by decide +kernel
theorem dX5_heightOf_45 : decode cX5_heightOf 45 = .ok (.iinc 3 1, 3) := by decide +kernel
theorem dX5_heightOf_48 : decode cX5_heightOf 48 = .ok (.goto (-44), 3) := by decide +kernel
theorem dX5_heightOf_51 : decode cX5_heightOf 51 = .ok (.iload_n 2, 1) := by decide +kernel
theorem dX5_heightOf_52 : decode cX5_heightOf 52 = .ok (.ireturn, 1) := by decide +kernel
theorem dX5_told_0 : decode cX5_told 0 = .ok (.aload_n 0, 1) := by decide +kernel
theorem dX5_told_1 : decode cX5_told 1 = .ok (.iconst 0, 1) := by decide +kernel
theorem dX5_told_2 : decode cX5_told 2 = .ok (.putfield 47, 3) := by decide +kernel
theorem dX5_told_5 : decode cX5_told 5 = .ok (.aload_n 0, 1) := by decide +kernel
theorem dX5_told_6 : decode cX5_told 6 = .ok (.iload_n 1, 1) := by decide +kernel
theorem dX5_told_7 : decode cX5_told 7 = .ok (.invokevirtual 87, 3) := by decide +kernel
theorem dX5_told_10 : decode cX5_told 10 = .ok (.ifCond .eq 7, 3) := by decide +kernel
theorem dX5_told_13 : decode cX5_told 13 = .ok (.sipush (-1001), 3) := by decide +kernel
theorem dX5_told_16 : decode cX5_told 16 = .ok (.ireturn, 1) := by decide +kernel
theorem dX5_told_17 : decode cX5_told 17 = .ok (.iload_n 2, 1) := by decide +kernel
theorem dX5_told_18 : decode cX5_told 18 = .ok (.tableswitch 164 0 5 #[38, 45, 52, 59, 74, 89], 38) := by decide +kernel
theorem dX5_told_56 : decode cX5_told 56 = .ok (.aload_n 0, 1) := by decide +kernel
theorem dX5_told_57 : decode cX5_told 57 = .ok (.getfield 13, 3) := by decide +kernel
theorem dX5_told_60 : decode cX5_told 60 = .ok (.iload_n 1, 1) := by decide +kernel
theorem dX5_told_61 : decode cX5_told 61 = .ok (.iaload, 1) := by decide +kernel
theorem dX5_told_62 : decode cX5_told 62 = .ok (.ireturn, 1) := by decide +kernel
theorem dX5_told_63 : decode cX5_told 63 = .ok (.aload_n 0, 1) := by decide +kernel
theorem dX5_told_64 : decode cX5_told 64 = .ok (.getfield 17, 3) := by decide +kernel
theorem dX5_told_67 : decode cX5_told 67 = .ok (.iload_n 1, 1) := by decide +kernel
theorem dX5_told_68 : decode cX5_told 68 = .ok (.iaload, 1) := by decide +kernel
theorem dX5_told_69 : decode cX5_told 69 = .ok (.ireturn, 1) := by decide +kernel
theorem dX5_told_70 : decode cX5_told 70 = .ok (.aload_n 0, 1) := by decide +kernel
theorem dX5_told_71 : decode cX5_told 71 = .ok (.getfield 20, 3) := by decide +kernel
theorem dX5_told_74 : decode cX5_told 74 = .ok (.iload_n 1, 1) := by decide +kernel
theorem dX5_told_75 : decode cX5_told 75 = .ok (.iaload, 1) := by decide +kernel
theorem dX5_told_76 : decode cX5_told 76 = .ok (.ireturn, 1) := by decide +kernel
theorem dX5_told_77 : decode cX5_told 77 = .ok (.aload_n 0, 1) := by decide +kernel
theorem dX5_told_78 : decode cX5_told 78 = .ok (.getfield 23, 3) := by decide +kernel
theorem dX5_told_81 : decode cX5_told 81 = .ok (.iload_n 1, 1) := by decide +kernel
theorem dX5_told_82 : decode cX5_told 82 = .ok (.baload, 1) := by decide +kernel
theorem dX5_told_83 : decode cX5_told 83 = .ok (.ifCond .eq 7, 3) := by decide +kernel
theorem dX5_told_86 : decode cX5_told 86 = .ok (.iconst 1, 1) := by decide +kernel
theorem dX5_told_87 : decode cX5_told 87 = .ok (.goto 4, 3) := by decide +kernel
theorem dX5_told_90 : decode cX5_told 90 = .ok (.iconst 0, 1) := by decide +kernel
theorem dX5_told_91 : decode cX5_told 91 = .ok (.ireturn, 1) := by decide +kernel
theorem dX5_told_92 : decode cX5_told 92 = .ok (.aload_n 0, 1) := by decide +kernel
theorem dX5_told_93 : decode cX5_told 93 = .ok (.getfield 27, 3) := by decide +kernel
theorem dX5_told_96 : decode cX5_told 96 = .ok (.iload_n 1, 1) := by decide +kernel
theorem dX5_told_97 : decode cX5_told 97 = .ok (.baload, 1) := by decide +kernel
theorem dX5_told_98 : decode cX5_told 98 = .ok (.ifCond .eq 7, 3) := by decide +kernel
theorem dX5_told_101 : decode cX5_told 101 = .ok (.iconst 1, 1) := by decide +kernel
theorem dX5_told_102 : decode cX5_told 102 = .ok (.goto 4, 3) := by decide +kernel
theorem dX5_told_105 : decode cX5_told 105 = .ok (.iconst 0, 1) := by decide +kernel
theorem dX5_told_106 : decode cX5_told 106 = .ok (.ireturn, 1) := by decide +kernel
theorem dX5_told_107 : decode cX5_told 107 = .ok (.aload_n 0, 1) := by decide +kernel
theorem dX5_told_108 : decode cX5_told 108 = .ok (.sipush (-1000), 3) := by decide +kernel
theorem dX5_told_111 : decode cX5_told 111 = .ok (.sipush (-1000), 3) := by decide +kernel
theorem dX5_told_114 : decode cX5_told 114 = .ok (.invokevirtual 40, 3) := by decide +kernel
theorem dX5_told_117 : decode cX5_told 117 = .ok (.pop, 1) := by decide +kernel
theorem dX5_told_118 : decode cX5_told 118 = .ok (.aload_n 0, 1) := by decide +kernel
theorem dX5_told_119 : decode cX5_told 119 = .ok (.aload_n 0, 1) := by decide +kernel
theorem dX5_told_120 : decode cX5_told 120 = .ok (.getfield 13, 3) := by decide +kernel
theorem dX5_told_123 : decode cX5_told 123 = .ok (.iload_n 1, 1) := by decide +kernel
theorem dX5_told_124 : decode cX5_told 124 = .ok (.iaload, 1) := by decide +kernel
theorem dX5_told_125 : decode cX5_told 125 = .ok (.invokevirtual 94, 3) := by decide +kernel
theorem dX5_told_128 : decode cX5_told 128 = .ok (.aload_n 0, 1) := by decide +kernel
theorem dX5_told_129 : decode cX5_told 129 = .ok (.aload_n 0, 1) := by decide +kernel
theorem dX5_told_130 : decode cX5_told 130 = .ok (.getfield 17, 3) := by decide +kernel
theorem dX5_told_133 : decode cX5_told 133 = .ok (.iload_n 1, 1) := by decide +kernel
theorem dX5_told_134 : decode cX5_told 134 = .ok (.iaload, 1) := by decide +kernel
theorem dX5_told_135 : decode cX5_told 135 = .ok (.invokevirtual 94, 3) := by decide +kernel
theorem dX5_told_138 : decode cX5_told 138 = .ok (.isub, 1) := by decide +kernel
theorem dX5_told_139 : decode cX5_told 139 = .ok (.istore_n 3, 1) := by decide +kernel
theorem dX5_told_140 : decode cX5_told 140 = .ok (.aload_n 0, 1) := by decide +kernel
theorem dX5_told_141 : decode cX5_told 141 = .ok (.getfield 27, 3) := by decide +kernel
theorem dX5_told_144 : decode cX5_told 144 = .ok (.iload_n 1, 1) := by decide +kernel
