theorem dL_acts_3 : decode cL_acts 3 = .ok (.iaload, 1) := by decide +kernel
theorem dL_acts_4 : decode cL_acts 4 = .ok (.aload_n 3, 1) := by decide +kernel
theorem dL_acts_5 : decode cL_acts 5 = .ok (.bipush 31, 2) := by decide +kernel
theorem dL_acts_7 : decode cL_acts 7 = .ok (.iaload, 1) := by decide +kernel
theorem dL_acts_8 : decode cL_acts 8 = .ok (.imul, 1) := by decide +kernel
theorem dL_acts_9 : decode cL_acts 9 = .ok (.istore 8, 2) := by decide +kernel
theorem dL_acts_11 : decode cL_acts 11 = .ok (.iload_n 1, 1) := by decide +kernel
theorem dL_acts_12 : decode cL_acts 12 = .ok (.iconst 3, 1) := by decide +kernel
theorem dL_acts_13 : decode cL_acts 13 = .ok (.if_icmp .ge 279, 3) := by decide +kernel
theorem dL_acts_16 : decode cL_acts 16 = .ok (.iload_n 2, 1) := by decide +kernel
theorem dL_acts_17 : decode cL_acts 17 = .ok (.bipush 60, 2) := by decide +kernel
theorem dL_acts_19 : decode cL_acts 19 = .ok (.invokestatic 109, 3) := by decide +kernel
theorem dL_acts_22 : decode cL_acts 22 = .ok (.ifCond .ne 8, 3) := by decide +kernel
theorem dL_acts_25 : decode cL_acts 25 = .ok (.bipush 10, 2) := by decide +kernel
theorem dL_acts_27 : decode cL_acts 27 = .ok (.goto 9, 3) := by decide +kernel
theorem dL_acts_30 : decode cL_acts 30 = .ok (.iload_n 2, 1) := by decide +kernel
theorem dL_acts_31 : decode cL_acts 31 = .ok (.bipush 10, 2) := by decide +kernel
theorem dL_acts_33 : decode cL_acts 33 = .ok (.invokestatic 109, 3) := by decide +kernel
theorem dL_acts_36 : decode cL_acts 36 = .ok (.istore 9, 2) := by decide +kernel
theorem dL_acts_38 : decode cL_acts 38 = .ok (.iload_n 2, 1) := by decide +kernel
theorem dL_acts_39 : decode cL_acts 39 = .ok (.iconst 3, 1) := by decide +kernel
theorem dL_acts_40 : decode cL_acts 40 = .ok (.ishr, 1) := by decide +kernel
theorem dL_acts_41 : decode cL_acts 41 = .ok (.bipush 60, 2) := by decide +kernel
theorem dL_acts_43 : decode cL_acts 43 = .ok (.invokestatic 109, 3) := by decide +kernel
theorem dL_acts_46 : decode cL_acts 46 = .ok (.ifCond .ne 9, 3) := by decide +kernel
theorem dL_acts_49 : decode cL_acts 49 = .ok (.sipush 1001, 3) := by decide +kernel
theorem dL_acts_52 : decode cL_acts 52 = .ok (.goto 12, 3) := by decide +kernel
theorem dL_acts_55 : decode cL_acts 55 = .ok (.iload_n 2, 1) := by decide +kernel
theorem dL_acts_56 : decode cL_acts 56 = .ok (.iconst 3, 1) := by decide +kernel
theorem dL_acts_57 : decode cL_acts 57 = .ok (.ishr, 1) := by decide +kernel
theorem dL_acts_58 : decode cL_acts 58 = .ok (.sipush 1001, 3) := by decide +kernel
theorem dL_acts_61 : decode cL_acts 61 = .ok (.invokestatic 109, 3) := by decide +kernel
theorem dL_acts_64 : decode cL_acts 64 = .ok (.istore 10, 2) := by decide +kernel
theorem dL_acts_66 : decode cL_acts 66 = .ok (.iload 9, 2) := by decide +kernel
theorem dL_acts_68 : decode cL_acts 68 = .ok (.bipush 10, 2) := by decide +kernel
theorem dL_acts_70 : decode cL_acts 70 = .ok (.if_icmp .ge 13, 3) := by decide +kernel
theorem dL_acts_73 : decode cL_acts 73 = .ok (.aload_n 3, 1) := by decide +kernel
theorem dL_acts_74 : decode cL_acts 74 = .ok (.bipush 10, 2) := by decide +kernel
theorem dL_acts_76 : decode cL_acts 76 = .ok (.iload 9, 2) := by decide +kernel
theorem dL_acts_78 : decode cL_acts 78 = .ok (.iadd, 1) := by decide +kernel
theorem dL_acts_79 : decode cL_acts 79 = .ok (.iaload, 1) := by decide +kernel
theorem dL_acts_80 : decode cL_acts 80 = .ok (.goto 4, 3) := by decide +kernel
theorem dL_acts_83 : decode cL_acts 83 = .ok (.iconst 0, 1) := by decide +kernel
theorem dL_acts_84 : decode cL_acts 84 = .ok (.istore 11, 2) := by decide +kernel
theorem dL_acts_86 : decode cL_acts 86 = .ok (.iload_n 2, 1) := by decide +kernel
theorem dL_acts_87 : decode cL_acts 87 = .ok (.bipush 6, 2) := by decide +kernel
theorem dL_acts_89 : decode cL_acts 89 = .ok (.ishr, 1) := by decide +kernel
theorem dL_acts_90 : decode cL_acts 90 = .ok (.bipush 40, 2) := by decide +kernel
theorem dL_acts_92 : decode cL_acts 92 = .ok (.invokestatic 109, 3) := by decide +kernel
theorem dL_acts_95 : decode cL_acts 95 = .ok (.ifCond .ne 9, 3) := by decide +kernel
theorem dL_acts_98 : decode cL_acts 98 = .ok (.sipush 10000, 3) := by decide +kernel
theorem dL_acts_101 : decode cL_acts 101 = .ok (.goto 40, 3) := by decide +kernel
theorem dL_acts_104 : decode cL_acts 104 = .ok (.iload 9, 2) := by decide +kernel
theorem dL_acts_106 : decode cL_acts 106 = .ok (.ifCond .ne 18, 3) := by decide +kernel
theorem dL_acts_109 : decode cL_acts 109 = .ok (.iload_n 2, 1) := by decide +kernel
theorem dL_acts_110 : decode cL_acts 110 = .ok (.bipush 7, 2) := by decide +kernel
theorem dL_acts_112 : decode cL_acts 112 = .ok (.ishr, 1) := by decide +kernel
theorem dL_acts_113 : decode cL_acts 113 = .ok (.iconst 3, 1) := by decide +kernel
theorem dL_acts_114 : decode cL_acts 114 = .ok (.invokestatic 109, 3) := by decide +kernel
theorem dL_acts_117 : decode cL_acts 117 = .ok (.ifCond .le 7, 3) := by decide +kernel
theorem dL_acts_120 : decode cL_acts 120 = .ok (.iconst 0, 1) := by decide +kernel
theorem dL_acts_121 : decode cL_acts 121 = .ok (.goto 20, 3) := by decide +kernel
theorem dL_acts_124 : decode cL_acts 124 = .ok (.iload 11, 2) := by decide +kernel
theorem dL_acts_126 : decode cL_acts 126 = .ok (.iload_n 2, 1) := by decide +kernel
theorem dL_acts_127 : decode cL_acts 127 = .ok (.bipush 6, 2) := by decide +kernel
theorem dL_acts_129 : decode cL_acts 129 = .ok (.ishr, 1) := by decide +kernel
theorem dL_acts_130 : decode cL_acts 130 = .ok (.sipush 1500, 3) := by decide +kernel
theorem dL_acts_133 : decode cL_acts 133 = .ok (.invokestatic 109, 3) := by decide +kernel
theorem dL_acts_136 : decode cL_acts 136 = .ok (.iadd, 1) := by decide +kernel
theorem dL_acts_137 : decode cL_acts 137 = .ok (.sipush 700, 3) := by decide +kernel
theorem dL_acts_140 : decode cL_acts 140 = .ok (.isub, 1) := by decide +kernel
theorem dL_acts_141 : decode cL_acts 141 = .ok (.istore 12, 2) := by decide +kernel
theorem dL_acts_143 : decode cL_acts 143 = .ok (.iload 9, 2) := by decide +kernel
theorem dL_acts_145 : decode cL_acts 145 = .ok (.bipush 10, 2) := by decide +kernel
theorem dL_acts_147 : decode cL_acts 147 = .ok (.if_icmp .ge 51, 3) := by decide +kernel
theorem dL_acts_150 : decode cL_acts 150 = .ok (.iload 9, 2) := by decide +kernel
theorem dL_acts_152 : decode cL_acts 152 = .ok (.ifCond .ne 11, 3) := by decide +kernel
theorem dL_acts_155 : decode cL_acts 155 = .ok (.iload 12, 2) := by decide +kernel
theorem dL_acts_157 : decode cL_acts 157 = .ok (.ifCond .ne 41, 3) := by decide +kernel
theorem dL_acts_160 : decode cL_acts 160 = .ok (.goto 15, 3) := by decide +kernel
theorem dL_acts_163 : decode cL_acts 163 = .ok (.iload 12, 2) := by decide +kernel
theorem dL_acts_165 : decode cL_acts 165 = .ok (.aload_n 3, 1) := by decide +kernel
theorem dL_acts_166 : decode cL_acts 166 = .ok (.bipush 9, 2) := by decide +kernel
theorem dL_acts_168 : decode cL_acts 168 = .ok (.iload 9, 2) := by decide +kernel
theorem dL_acts_170 : decode cL_acts 170 = .ok (.iadd, 1) := by decide +kernel
theorem dL_acts_171 : decode cL_acts 171 = .ok (.iaload, 1) := by decide +kernel
theorem dL_acts_172 : decode cL_acts 172 = .ok (.if_icmp .le 26, 3) := by decide +kernel
theorem dL_acts_175 : decode cL_acts 175 = .ok (.iload 9, 2) := by decide +kernel
theorem dL_acts_177 : decode cL_acts 177 = .ok (.bipush 9, 2) := by decide +kernel
theorem dL_acts_179 : decode cL_acts 179 = .ok (.if_icmp .eq 15, 3) := by decide +kernel
theorem dL_acts_182 : decode cL_acts 182 = .ok (.iload 12, 2) := by decide +kernel
theorem dL_acts_184 : decode cL_acts 184 = .ok (.aload_n 3, 1) := by decide +kernel
theorem dL_acts_185 : decode cL_acts 185 = .ok (.bipush 11, 2) := by decide +kernel
theorem dL_acts_187 : decode cL_acts 187 = .ok (.iload 9, 2) := by decide +kernel
theorem dL_acts_189 : decode cL_acts 189 = .ok (.iadd, 1) := by decide +kernel
theorem dL_acts_190 : decode cL_acts 190 = .ok (.iaload, 1) := by decide +kernel
theorem dL_acts_191 : decode cL_acts 191 = .ok (.if_icmp .ge 7, 3) := by decide +kernel
theorem dL_acts_194 : decode cL_acts 194 = .ok (.iconst 1, 1) := by decide +kernel
theorem dL_acts_195 : decode cL_acts 195 = .ok (.goto 4, 3) := by decide +kernel
theorem dL_acts_198 : decode cL_acts 198 = .ok (.iconst 0, 1) := by decide +kernel
theorem dL_acts_199 : decode cL_acts 199 = .ok (.istore 13, 2) := by decide +kernel
theorem dL_acts_201 : decode cL_acts 201 = .ok (.iload 9, 2) := by decide +kernel
theorem dL_acts_203 : decode cL_acts 203 = .ok (.bipush 10, 2) := by decide +kernel
theorem dL_acts_205 : decode cL_acts 205 = .ok (.if_icmp .ne 7, 3) := by decide +kernel
theorem dL_acts_208 : decode cL_acts 208 = .ok (.iconst (-1), 1) := by decide +kernel
theorem dL_acts_209 : decode cL_acts 209 = .ok (.goto 40, 3) := by decide +kernel
theorem dL_acts_212 : decode cL_acts 212 = .ok (.iload 10, 2) := by decide +kernel
theorem dL_acts_214 : decode cL_acts 214 = .ok (.sipush 1000, 3) := by decide +kernel
theorem dL_acts_217 : decode cL_acts 217 = .ok (.if_icmp .gt 16, 3) := by decide +kernel
theorem dL_acts_220 : decode cL_acts 220 = .ok (.iload 12, 2) := by decide +kernel
theorem dL_acts_222 : decode cL_acts 222 = .ok (.ifCond .lt 11, 3) := by decide +kernel
theorem dL_acts_225 : decode cL_acts 225 = .ok (.iload 12, 2) := by decide +kernel
theorem dL_acts_227 : decode cL_acts 227 = .ok (.sipush 9999, 3) := by decide +kernel
theorem dL_acts_230 : decode cL_acts 230 = .ok (.if_icmp .le 8, 3) := by decide +kernel
theorem dL_acts_233 : decode cL_acts 233 = .ok (.bipush (-2), 2) := by decide +kernel
theorem dL_acts_235 : decode cL_acts 235 = .ok (.goto 14, 3) := by decide +kernel
theorem dL_acts_238 : decode cL_acts 238 = .ok (.iload 13, 2) := by decide +kernel
theorem dL_acts_240 : decode cL_acts 240 = .ok (.ifCond .eq 7, 3) := by decide +kernel
theorem dL_acts_243 : decode cL_acts 243 = .ok (.iconst 0, 1) := by decide +kernel
theorem dL_acts_244 : decode cL_acts 244 = .ok (.goto 5, 3) := by decide +kernel
theorem dL_acts_247 : decode cL_acts 247 = .ok (.bipush (-3), 2) := by decide +kernel
theorem dL_acts_249 : decode cL_acts 249 = .ok (.istore 14, 2) := by decide +kernel
theorem dL_acts_251 : decode cL_acts 251 = .ok (.iload 14, 2) := by decide +kernel
theorem dL_acts_253 : decode cL_acts 253 = .ok (.ifCond .ne 18, 3) := by decide +kernel
theorem dL_acts_256 : decode cL_acts 256 = .ok (.aload_n 3, 1) := by decide +kernel
theorem dL_acts_257 : decode cL_acts 257 = .ok (.iload 9, 2) := by decide +kernel
theorem dL_acts_259 : decode cL_acts 259 = .ok (.iload 10, 2) := by decide +kernel
theorem dL_acts_261 : decode cL_acts 261 = .ok (.iastore, 1) := by decide +kernel
theorem dL_acts_262 : decode cL_acts 262 = .ok (.aload_n 3, 1) := by decide +kernel
theorem dL_acts_263 : decode cL_acts 263 = .ok (.bipush 10, 2) := by decide +kernel
theorem dL_acts_265 : decode cL_acts 265 = .ok (.iload 9, 2) := by decide +kernel
theorem dL_acts_267 : decode cL_acts 267 = .ok (.iadd, 1) := by decide +kernel
theorem dL_acts_268 : decode cL_acts 268 = .ok (.iload 12, 2) := by decide +kernel
theorem dL_acts_270 : decode cL_acts 270 = .ok (.iastore, 1) := by decide +kernel
theorem dL_acts_271 : decode cL_acts 271 = .ok (.aload_n 0, 1) := by decide +kernel
theorem dL_acts_272 : decode cL_acts 272 = .ok (.iload 9, 2) := by decide +kernel
theorem dL_acts_274 : decode cL_acts 274 = .ok (.iload 10, 2) := by decide +kernel
theorem dL_acts_276 : decode cL_acts 276 = .ok (.iload 12, 2) := by decide +kernel
theorem dL_acts_278 : decode cL_acts 278 = .ok (.invokestatic 112, 3) := by decide +kernel
theorem dL_acts_281 : decode cL_acts 281 = .ok (.iload 14, 2) := by decide +kernel
theorem dL_acts_283 : decode cL_acts 283 = .ok (.if_icmp .ne 7, 3) := by decide +kernel
theorem dL_acts_286 : decode cL_acts 286 = .ok (.iconst 1, 1) := by decide +kernel
theorem dL_acts_287 : decode cL_acts 287 = .ok (.goto 4, 3) := by decide +kernel
theorem dL_acts_290 : decode cL_acts 290 = .ok (.iconst 0, 1) := by decide +kernel
theorem dL_acts_291 : decode cL_acts 291 = .ok (.ireturn, 1) := by decide +kernel
theorem dL_acts_292 : decode cL_acts 292 = .ok (.iload_n 1, 1) := by decide +kernel
theorem dL_acts_293 : decode cL_acts 293 = .ok (.iconst 3, 1) := by decide +kernel
theorem dL_acts_294 : decode cL_acts 294 = .ok (.if_icmp .ne 117, 3) := by decide +kernel
theorem dL_acts_297 : decode cL_acts 297 = .ok (.iload_n 2, 1) := by decide +kernel
theorem dL_acts_298 : decode cL_acts 298 = .ok (.bipush 30, 2) := by decide +kernel
theorem dL_acts_300 : decode cL_acts 300 = .ok (.invokestatic 109, 3) := by decide +kernel
theorem dL_acts_303 : decode cL_acts 303 = .ok (.ifCond .ne 8, 3) := by decide +kernel
theorem dL_acts_306 : decode cL_acts 306 = .ok (.bipush 9, 2) := by decide +kernel
theorem dL_acts_308 : decode cL_acts 308 = .ok (.goto 9, 3) := by decide +kernel
theorem dL_acts_311 : decode cL_acts 311 = .ok (.iload_n 2, 1) := by decide +kernel
theorem dL_acts_312 : decode cL_acts 312 = .ok (.bipush 9, 2) := by decide +kernel
theorem dL_acts_314 : decode cL_acts 314 = .ok (.invokestatic 109, 3) := by decide +kernel
theorem dL_acts_317 : decode cL_acts 317 = .ok (.istore 9, 2) := by decide +kernel
theorem dL_acts_319 : decode cL_acts 319 = .ok (.iload_n 2, 1) := by decide +kernel
theorem dL_acts_320 : decode cL_acts 320 = .ok (.iconst 4, 1) := by decide +kernel
theorem dL_acts_321 : decode cL_acts 321 = .ok (.ishr, 1) := by decide +kernel
theorem dL_acts_322 : decode cL_acts 322 = .ok (.bipush 30, 2) := by decide +kernel
theorem dL_acts_324 : decode cL_acts 324 = .ok (.invokestatic 109, 3) := by decide +kernel
theorem dL_acts_327 : decode cL_acts 327 = .ok (.ifCond .ne 7, 3) := by decide +kernel
theorem dL_acts_330 : decode cL_acts 330 = .ok (.iconst 0, 1) := by decide +kernel
theorem dL_acts_331 : decode cL_acts 331 = .ok (.goto 14, 3) := by decide +kernel
theorem dL_acts_334 : decode cL_acts 334 = .ok (.iconst 1, 1) := by decide +kernel
theorem dL_acts_335 : decode cL_acts 335 = .ok (.iload_n 2, 1) := by decide +kernel
theorem dL_acts_336 : decode cL_acts 336 = .ok (.iconst 4, 1) := by decide +kernel
theorem dL_acts_337 : decode cL_acts 337 = .ok (.ishr, 1) := by decide +kernel
theorem dL_acts_338 : decode cL_acts 338 = .ok (.sipush 2000, 3) := by decide +kernel
theorem dL_acts_341 : decode cL_acts 341 = .ok (.invokestatic 109, 3) := by decide +kernel
theorem dL_acts_344 : decode cL_acts 344 = .ok (.iadd, 1) := by decide +kernel
theorem dL_acts_345 : decode cL_acts 345 = .ok (.istore 10, 2) := by decide +kernel
theorem dL_acts_347 : decode cL_acts 347 = .ok (.iload 9, 2) := by decide +kernel
theorem dL_acts_349 : decode cL_acts 349 = .ok (.bipush 8, 2) := by decide +kernel
theorem dL_acts_351 : decode cL_acts 351 = .ok (.if_icmp .le 7, 3) := by decide +kernel
theorem dL_acts_354 : decode cL_acts 354 = .ok (.iconst (-1), 1) := by decide +kernel
theorem dL_acts_355 : decode cL_acts 355 = .ok (.goto 21, 3) := by decide +kernel
theorem dL_acts_358 : decode cL_acts 358 = .ok (.iload 10, 2) := by decide +kernel
theorem dL_acts_360 : decode cL_acts 360 = .ok (.iconst 1, 1) := by decide +kernel
theorem dL_acts_361 : decode cL_acts 361 = .ok (.if_icmp .ge 8, 3) := by decide +kernel
theorem dL_acts_364 : decode cL_acts 364 = .ok (.bipush (-2), 2) := by decide +kernel
theorem dL_acts_366 : decode cL_acts 366 = .ok (.goto 10, 3) := by decide +kernel
theorem dL_acts_369 : decode cL_acts 369 = .ok (.aload_n 3, 1) := by decide +kernel
theorem dL_acts_370 : decode cL_acts 370 = .ok (.bipush 20, 2) := by decide +kernel
theorem dL_acts_372 : decode cL_acts 372 = .ok (.iload 9, 2) := by decide +kernel
theorem dL_acts_374 : decode cL_acts 374 = .ok (.iadd, 1) := by decide +kernel
theorem dL_acts_375 : decode cL_acts 375 = .ok (.iaload, 1) := by decide +kernel
theorem dL_acts_376 : decode cL_acts 376 = .ok (.istore 11, 2) := by decide +kernel
theorem dL_acts_378 : decode cL_acts 378 = .ok (.iload 11, 2) := by decide +kernel
theorem dL_acts_380 : decode cL_acts 380 = .ok (.ifCond .le 12, 3) := by decide +kernel
theorem dL_acts_383 : decode cL_acts 383 = .ok (.aload_n 3, 1) := by decide +kernel
theorem dL_acts_384 : decode cL_acts 384 = .ok (.bipush 20, 2) := by decide +kernel
theorem dL_acts_386 : decode cL_acts 386 = .ok (.iload 9, 2) := by decide +kernel
theorem dL_acts_388 : decode cL_acts 388 = .ok (.iadd, 1) := by decide +kernel
theorem dL_acts_389 : decode cL_acts 389 = .ok (.iload 10, 2) := by decide +kernel
theorem dL_acts_391 : decode cL_acts 391 = .ok (.iastore, 1) := by decide +kernel
theorem dL_acts_392 : decode cL_acts 392 = .ok (.aload_n 0, 1) := by decide +kernel
theorem dL_acts_393 : decode cL_acts 393 = .ok (.iload 9, 2) := by decide +kernel
theorem dL_acts_395 : decode cL_acts 395 = .ok (.iload 10, 2) := by decide +kernel
theorem dL_acts_397 : decode cL_acts 397 = .ok (.invokestatic 116, 3) := by decide +kernel
theorem dL_acts_400 : decode cL_acts 400 = .ok (.iload 11, 2) := by decide +kernel
theorem dL_acts_402 : decode cL_acts 402 = .ok (.if_icmp .ne 7, 3) := by decide +kernel
theorem dL_acts_405 : decode cL_acts 405 = .ok (.iconst 1, 1) := by decide +kernel
theorem dL_acts_406 : decode cL_acts 406 = .ok (.goto 4, 3) := by decide +kernel
theorem dL_acts_409 : decode cL_acts 409 = .ok (.iconst 0, 1) := by decide +kernel
theorem dL_acts_410 : decode cL_acts 410 = .ok (.ireturn, 1) := by decide +kernel
theorem dL_acts_411 : decode cL_acts 411 = .ok (.iload_n 1, 1) := by decide +kernel
theorem dL_acts_412 : decode cL_acts 412 = .ok (.iconst 4, 1) := by decide +kernel
theorem dL_acts_413 : decode cL_acts 413 = .ok (.if_icmp .ne 121, 3) := by decide +kernel
theorem dL_acts_416 : decode cL_acts 416 = .ok (.iload_n 2, 1) := by decide +kernel
theorem dL_acts_417 : decode cL_acts 417 = .ok (.iconst 3, 1) := by decide +kernel
theorem dL_acts_418 : decode cL_acts 418 = .ok (.invokestatic 109, 3) := by decide +kernel
theorem dL_acts_421 : decode cL_acts 421 = .ok (.ifCond .ne 15, 3) := by decide +kernel
theorem dL_acts_424 : decode cL_acts 424 = .ok (.iload_n 2, 1) := by decide +kernel
theorem dL_acts_425 : decode cL_acts 425 = .ok (.iconst 2, 1) := by decide +kernel
theorem dL_acts_426 : decode cL_acts 426 = .ok (.ishr, 1) := by decide +kernel
theorem dL_acts_427 : decode cL_acts 427 = .ok (.sipush 362, 3) := by decide +kernel
theorem dL_acts_430 : decode cL_acts 430 = .ok (.invokestatic 109, 3) := by decide +kernel
theorem dL_acts_433 : decode cL_acts 433 = .ok (.goto 17, 3) := by decide +kernel
theorem dL_acts_436 : decode cL_acts 436 = .ok (.sipush 360, 3) := by decide +kernel
theorem dL_acts_439 : decode cL_acts 439 = .ok (.iconst 1, 1) := by decide +kernel
theorem dL_acts_440 : decode cL_acts 440 = .ok (.iload_n 2, 1) := by decide +kernel
theorem dL_acts_441 : decode cL_acts 441 = .ok (.iconst 2, 1) := by decide +kernel
theorem dL_acts_442 : decode cL_acts 442 = .ok (.ishr, 1) := by decide +kernel
theorem dL_acts_443 : decode cL_acts 443 = .ok (.bipush 40, 2) := by decide +kernel
theorem dL_acts_445 : decode cL_acts 445 = .ok (.invokestatic 109, 3) := by decide +kernel
theorem dL_acts_448 : decode cL_acts 448 = .ok (.iadd, 1) := by decide +kernel
theorem dL_acts_449 : decode cL_acts 449 = .ok (.idiv, 1) := by decide +kernel
theorem dL_acts_450 : decode cL_acts 450 = .ok (.istore 9, 2) := by decide +kernel
theorem dL_acts_452 : decode cL_acts 452 = .ok (.iload 9, 2) := by decide +kernel
theorem dL_acts_454 : decode cL_acts 454 = .ok (.ifCond .le 24, 3) := by decide +kernel
theorem dL_acts_457 : decode cL_acts 457 = .ok (.iload 9, 2) := by decide +kernel
theorem dL_acts_459 : decode cL_acts 459 = .ok (.sipush 361, 3) := by decide +kernel
theorem dL_acts_462 : decode cL_acts 462 = .ok (.if_icmp .ge 16, 3) := by decide +kernel
theorem dL_acts_465 : decode cL_acts 465 = .ok (.sipush 360, 3) := by decide +kernel
theorem dL_acts_468 : decode cL_acts 468 = .ok (.iload 9, 2) := by decide +kernel
theorem dL_acts_470 : decode cL_acts 470 = .ok (.irem, 1) := by decide +kernel
theorem dL_acts_471 : decode cL_acts 471 = .ok (.ifCond .ne 7, 3) := by decide +kernel
theorem dL_acts_474 : decode cL_acts 474 = .ok (.iconst 1, 1) := by decide +kernel
theorem dL_acts_475 : decode cL_acts 475 = .ok (.goto 4, 3) := by decide +kernel
theorem dL_acts_478 : decode cL_acts 478 = .ok (.iconst 0, 1) := by decide +kernel
theorem dL_acts_479 : decode cL_acts 479 = .ok (.istore 10, 2) := by decide +kernel
theorem dL_acts_481 : decode cL_acts 481 = .ok (.aload_n 3, 1) := by decide +kernel
theorem dL_acts_482 : decode cL_acts 482 = .ok (.bipush 29, 2) := by decide +kernel
theorem dL_acts_484 : decode cL_acts 484 = .ok (.iaload, 1) := by decide +kernel
theorem dL_acts_485 : decode cL_acts 485 = .ok (.istore 11, 2) := by decide +kernel
theorem dL_acts_487 : decode cL_acts 487 = .ok (.aload_n 3, 1) := by decide +kernel
theorem dL_acts_488 : decode cL_acts 488 = .ok (.bipush 29, 2) := by decide +kernel
theorem dL_acts_490 : decode cL_acts 490 = .ok (.iload 10, 2) := by decide +kernel
theorem dL_acts_492 : decode cL_acts 492 = .ok (.ifCond .eq 8, 3) := by decide +kernel
theorem dL_acts_495 : decode cL_acts 495 = .ok (.iload 9, 2) := by decide +kernel
theorem dL_acts_497 : decode cL_acts 497 = .ok (.goto 5, 3) := by decide +kernel
theorem dL_acts_500 : decode cL_acts 500 = .ok (.iload 11, 2) := by decide +kernel
theorem dL_acts_502 : decode cL_acts 502 = .ok (.iastore, 1) := by decide +kernel
theorem dL_acts_503 : decode cL_acts 503 = .ok (.aload_n 0, 1) := by decide +kernel
theorem dL_acts_504 : decode cL_acts 504 = .ok (.bipush 8, 2) := by decide +kernel
theorem dL_acts_506 : decode cL_acts 506 = .ok (.iload 9, 2) := by decide +kernel
theorem dL_acts_508 : decode cL_acts 508 = .ok (.iconst 0, 1) := by decide +kernel
theorem dL_acts_509 : decode cL_acts 509 = .ok (.iconst 0, 1) := by decide +kernel
theorem dL_acts_510 : decode cL_acts 510 = .ok (.invokestatic 119, 3) := by decide +kernel
theorem dL_acts_513 : decode cL_acts 513 = .ok (.iload 10, 2) := by decide +kernel
theorem dL_acts_515 : decode cL_acts 515 = .ok (.ifCond .eq 8, 3) := by decide +kernel
theorem dL_acts_518 : decode cL_acts 518 = .ok (.iload 11, 2) := by decide +kernel
theorem dL_acts_520 : decode cL_acts 520 = .ok (.goto 5, 3) := by decide +kernel
theorem dL_acts_523 : decode cL_acts 523 = .ok (.ldc 65, 2) := by decide +kernel
theorem dL_acts_525 : decode cL_acts 525 = .ok (.if_icmp .ne 7, 3) := by decide +kernel
theorem dL_acts_528 : decode cL_acts 528 = .ok (.iconst 1, 1) := by decide +kernel
theorem dL_acts_529 : decode cL_acts 529 = .ok (.goto 4, 3) := by decide +kernel
theorem dL_acts_532 : decode cL_acts 532 = .ok (.iconst 0, 1) := by decide +kernel
theorem dL_acts_533 : decode cL_acts 533 = .ok (.ireturn, 1) := by decide +kernel
theorem dL_acts_534 : decode cL_acts 534 = .ok (.iload_n 1, 1) := by decide +kernel
theorem dL_acts_535 : decode cL_acts 535 = .ok (.iconst 5, 1) := by decide +kernel
theorem dL_acts_536 : decode cL_acts 536 = .ok (.if_icmp .ne 129, 3) := by decide +kernel
theorem dL_acts_539 : decode cL_acts 539 = .ok (.iload_n 2, 1) := by decide +kernel
theorem dL_acts_540 : decode cL_acts 540 = .ok (.bipush 40, 2) := by decide +kernel
theorem dL_acts_542 : decode cL_acts 542 = .ok (.invokestatic 109, 3) := by decide +kernel
theorem dL_acts_545 : decode cL_acts 545 = .ok (.ifCond .ne 8, 3) := by decide +kernel
theorem dL_acts_548 : decode cL_acts 548 = .ok (.bipush 7, 2) := by decide +kernel
theorem dL_acts_550 : decode cL_acts 550 = .ok (.goto 11, 3) := by decide +kernel
theorem dL_acts_553 : decode cL_acts 553 = .ok (.iconst 1, 1) := by decide +kernel
theorem dL_acts_554 : decode cL_acts 554 = .ok (.iload_n 2, 1) := by decide +kernel
theorem dL_acts_555 : decode cL_acts 555 = .ok (.bipush 6, 2) := by decide +kernel
theorem dL_acts_557 : decode cL_acts 557 = .ok (.invokestatic 109, 3) := by decide +kernel
theorem dL_acts_560 : decode cL_acts 560 = .ok (.iadd, 1) := by decide +kernel
theorem dL_acts_561 : decode cL_acts 561 = .ok (.istore 9, 2) := by decide +kernel
theorem dL_acts_563 : decode cL_acts 563 = .ok (.iload_n 2, 1) := by decide +kernel
theorem dL_acts_564 : decode cL_acts 564 = .ok (.iconst 4, 1) := by decide +kernel
theorem dL_acts_565 : decode cL_acts 565 = .ok (.ishr, 1) := by decide +kernel
theorem dL_acts_566 : decode cL_acts 566 = .ok (.bipush 40, 2) := by decide +kernel
theorem dL_acts_568 : decode cL_acts 568 = .ok (.invokestatic 109, 3) := by decide +kernel
theorem dL_acts_571 : decode cL_acts 571 = .ok (.ifCond .ne 7, 3) := by decide +kernel
theorem dL_acts_574 : decode cL_acts 574 = .ok (.iconst 0, 1) := by decide +kernel
theorem dL_acts_575 : decode cL_acts 575 = .ok (.goto 13, 3) := by decide +kernel
theorem dL_acts_578 : decode cL_acts 578 = .ok (.iconst 1, 1) := by decide +kernel
theorem dL_acts_579 : decode cL_acts 579 = .ok (.iload_n 2, 1) := by decide +kernel
theorem dL_acts_580 : decode cL_acts 580 = .ok (.iconst 4, 1) := by decide +kernel
theorem dL_acts_581 : decode cL_acts 581 = .ok (.ishr, 1) := by decide +kernel
theorem dL_acts_582 : decode cL_acts 582 = .ok (.bipush 6, 2) := by decide +kernel
theorem dL_acts_584 : decode cL_acts 584 = .ok (.invokestatic 109, 3) := by decide +kernel
theorem dL_acts_587 : decode cL_acts 587 = .ok (.iadd, 1) := by decide +kernel
theorem dL_acts_588 : decode cL_acts 588 = .ok (.istore 10, 2) := by decide +kernel
theorem dL_acts_590 : decode cL_acts 590 = .ok (.iload 9, 2) := by decide +kernel
theorem dL_acts_592 : decode cL_acts 592 = .ok (.bipush 7, 2) := by decide +kernel
theorem dL_acts_594 : decode cL_acts 594 = .ok (.if_icmp .ge 12, 3) := by decide +kernel
theorem dL_acts_597 : decode cL_acts 597 = .ok (.iload 10, 2) := by decide +kernel
theorem dL_acts_599 : decode cL_acts 599 = .ok (.ifCond .le 7, 3) := by decide +kernel
theorem dL_acts_602 : decode cL_acts 602 = .ok (.iconst 1, 1) := by decide +kernel
theorem dL_acts_603 : decode cL_acts 603 = .ok (.goto 4, 3) := by decide +kernel
theorem dL_acts_606 : decode cL_acts 606 = .ok (.iconst 0, 1) := by decide +kernel
theorem dL_acts_607 : decode cL_acts 607 = .ok (.istore 11, 2) := by decide +kernel
theorem dL_acts_609 : decode cL_acts 609 = .ok (.iload 11, 2) := by decide +kernel
theorem dL_acts_611 : decode cL_acts 611 = .ok (.ifCond .eq 27, 3) := by decide +kernel
theorem dL_acts_614 : decode cL_acts 614 = .ok (.aload_n 3, 1) := by decide +kernel
theorem dL_acts_615 : decode cL_acts 615 = .ok (.bipush 30, 2) := by decide +kernel
theorem dL_acts_617 : decode cL_acts 617 = .ok (.iload 9, 2) := by decide +kernel
theorem dL_acts_619 : decode cL_acts 619 = .ok (.iastore, 1) := by decide +kernel
theorem dL_acts_620 : decode cL_acts 620 = .ok (.aload_n 3, 1) := by decide +kernel
theorem dL_acts_621 : decode cL_acts 621 = .ok (.bipush 31, 2) := by decide +kernel
theorem dL_acts_623 : decode cL_acts 623 = .ok (.iload 10, 2) := by decide +kernel
theorem dL_acts_625 : decode cL_acts 625 = .ok (.iastore, 1) := by decide +kernel
theorem dL_acts_626 : decode cL_acts 626 = .ok (.aload_n 3, 1) := by decide +kernel
theorem dL_acts_627 : decode cL_acts 627 = .ok (.aload 4, 2) := by decide +kernel
theorem dL_acts_629 : decode cL_acts 629 = .ok (.aload 5, 2) := by decide +kernel
theorem dL_acts_631 : decode cL_acts 631 = .ok (.aload 6, 2) := by decide +kernel
theorem dL_acts_633 : decode cL_acts 633 = .ok (.aload 7, 2) := by decide +kernel
theorem dL_acts_635 : decode cL_acts 635 = .ok (.invokestatic 123, 3) := by decide +kernel
theorem dL_acts_638 : decode cL_acts 638 = .ok (.aload_n 0, 1) := by decide +kernel
theorem dL_acts_639 : decode cL_acts 639 = .ok (.iload 9, 2) := by decide +kernel
theorem dL_acts_641 : decode cL_acts 641 = .ok (.iload 10, 2) := by decide +kernel
theorem dL_acts_643 : decode cL_acts 643 = .ok (.invokestatic 127, 3) := by decide +kernel
theorem dL_acts_646 : decode cL_acts 646 = .ok (.iload 11, 2) := by decide +kernel
theorem dL_acts_648 : decode cL_acts 648 = .ok (.ifCond .eq 7, 3) := by decide +kernel
theorem dL_acts_651 : decode cL_acts 651 = .ok (.iconst 0, 1) := by decide +kernel
theorem dL_acts_652 : decode cL_acts 652 = .ok (.goto 4, 3) := by decide +kernel
theorem dL_acts_655 : decode cL_acts 655 = .ok (.iconst (-1), 1) := by decide +kernel
theorem dL_acts_656 : decode cL_acts 656 = .ok (.if_icmp .ne 7, 3) := by decide +kernel
theorem dL_acts_659 : decode cL_acts 659 = .ok (.iconst 1, 1) := by decide +kernel
theorem dL_acts_660 : decode cL_acts 660 = .ok (.goto 4, 3) := by decide +kernel
theorem dL_acts_663 : decode cL_acts 663 = .ok (.iconst 0, 1) := by decide +kernel
theorem dL_acts_664 : decode cL_acts 664 = .ok (.ireturn, 1) := by decide +kernel
theorem dL_acts_665 : decode cL_acts 665 = .ok (.iload_n 1, 1) := by decide +kernel
theorem dL_acts_666 : decode cL_acts 666 = .ok (.bipush 6, 2) := by decide +kernel
theorem dL_acts_668 : decode cL_acts 668 = .ok (.if_icmp .ne 36, 3) := by decide +kernel
theorem dL_acts_671 : decode cL_acts 671 = .ok (.aload_n 3, 1) := by decide +kernel
theorem dL_acts_672 : decode cL_acts 672 = .ok (.bipush 32, 2) := by decide +kernel
theorem dL_acts_674 : decode cL_acts 674 = .ok (.iaload, 1) := by decide +kernel
theorem dL_acts_675 : decode cL_acts 675 = .ok (.istore 9, 2) := by decide +kernel
theorem dL_acts_677 : decode cL_acts 677 = .ok (.aload_n 3, 1) := by decide +kernel
theorem dL_acts_678 : decode cL_acts 678 = .ok (.aload 4, 2) := by decide +kernel
theorem dL_acts_680 : decode cL_acts 680 = .ok (.aload 5, 2) := by decide +kernel
theorem dL_acts_682 : decode cL_acts 682 = .ok (.aload 6, 2) := by decide +kernel
theorem dL_acts_684 : decode cL_acts 684 = .ok (.aload 7, 2) := by decide +kernel
theorem dL_acts_686 : decode cL_acts 686 = .ok (.invokestatic 123, 3) := by decide +kernel
theorem dL_acts_689 : decode cL_acts 689 = .ok (.aload_n 0, 1) := by decide +kernel
theorem dL_acts_690 : decode cL_acts 690 = .ok (.invokevirtual 129, 3) := by decide +kernel
theorem dL_acts_693 : decode cL_acts 693 = .ok (.iload 9, 2) := by decide +kernel
theorem dL_acts_695 : decode cL_acts 695 = .ok (.if_icmp .ne 7, 3) := by decide +kernel
theorem dL_acts_698 : decode cL_acts 698 = .ok (.iconst 1, 1) := by decide +kernel
theorem dL_acts_699 : decode cL_acts 699 = .ok (.goto 4, 3) := by decide +kernel
theorem dL_acts_702 : decode cL_acts 702 = .ok (.iconst 0, 1) := by decide +kernel
theorem dL_acts_703 : decode cL_acts 703 = .ok (.ireturn, 1) := by decide +kernel
theorem dL_acts_704 : decode cL_acts 704 = .ok (.iload_n 2, 1) := by decide +kernel
theorem dL_acts_705 : decode cL_acts 705 = .ok (.iconst 2, 1) := by decide +kernel
theorem dL_acts_706 : decode cL_acts 706 = .ok (.invokestatic 109, 3) := by decide +kernel
theorem dL_acts_709 : decode cL_acts 709 = .ok (.ifCond .ne 7, 3) := by decide +kernel
theorem dL_acts_712 : decode cL_acts 712 = .ok (.iconst 1, 1) := by decide +kernel
theorem dL_acts_713 : decode cL_acts 713 = .ok (.goto 4, 3) := by decide +kernel
theorem dL_acts_716 : decode cL_acts 716 = .ok (.iconst 0, 1) := by decide +kernel
theorem dL_acts_717 : decode cL_acts 717 = .ok (.istore 9, 2) := by decide +kernel
theorem dL_acts_719 : decode cL_acts 719 = .ok (.ldc 133, 2) := by decide +kernel
theorem dL_acts_721 : decode cL_acts 721 = .ok (.istore 10, 2) := by decide +kernel
theorem dL_acts_723 : decode cL_acts 723 = .ok (.ldc 134, 2) := by decide +kernel
theorem dL_acts_725 : decode cL_acts 725 = .ok (.istore 11, 2) := by decide +kernel
theorem dL_acts_727 : decode cL_acts 727 = .ok (.iconst 0, 1) := by decide +kernel
theorem dL_acts_728 : decode cL_acts 728 = .ok (.istore 12, 2) := by decide +kernel
theorem dL_acts_730 : decode cL_acts 730 = .ok (.iconst 0, 1) := by decide +kernel
theorem dL_acts_731 : decode cL_acts 731 = .ok (.istore 13, 2) := by decide +kernel
theorem dL_acts_733 : decode cL_acts 733 = .ok (.iload 13, 2) := by decide +kernel
theorem dL_acts_735 : decode cL_acts 735 = .ok (.iload 8, 2) := by decide +kernel
theorem dL_acts_737 : decode cL_acts 737 = .ok (.if_icmp .ge 83, 3) := by decide +kernel
theorem dL_acts_740 : decode cL_acts 740 = .ok (.iload 9, 2) := by decide +kernel
theorem dL_acts_742 : decode cL_acts 742 = .ok (.ifCond .eq 11, 3) := by decide +kernel
theorem dL_acts_745 : decode cL_acts 745 = .ok (.aload 4, 2) := by decide +kernel
theorem dL_acts_747 : decode cL_acts 747 = .ok (.iload 13, 2) := by decide +kernel
theorem dL_acts_749 : decode cL_acts 749 = .ok (.iaload, 1) := by decide +kernel
theorem dL_acts_750 : decode cL_acts 750 = .ok (.goto 8, 3) := by decide +kernel
theorem dL_acts_753 : decode cL_acts 753 = .ok (.aload 5, 2) := by decide +kernel
theorem dL_acts_755 : decode cL_acts 755 = .ok (.iload 13, 2) := by decide +kernel
theorem dL_acts_757 : decode cL_acts 757 = .ok (.iaload, 1) := by decide +kernel
theorem dL_acts_758 : decode cL_acts 758 = .ok (.istore 14, 2) := by decide +kernel
theorem dL_acts_760 : decode cL_acts 760 = .ok (.iload 14, 2) := by decide +kernel
theorem dL_acts_762 : decode cL_acts 762 = .ok (.iload 10, 2) := by decide +kernel
theorem dL_acts_764 : decode cL_acts 764 = .ok (.if_icmp .ge 8, 3) := by decide +kernel
theorem dL_acts_767 : decode cL_acts 767 = .ok (.iload 14, 2) := by decide +kernel
theorem dL_acts_769 : decode cL_acts 769 = .ok (.goto 5, 3) := by decide +kernel
theorem dL_acts_772 : decode cL_acts 772 = .ok (.iload 10, 2) := by decide +kernel
theorem dL_acts_774 : decode cL_acts 774 = .ok (.istore 10, 2) := by decide +kernel
theorem dL_acts_776 : decode cL_acts 776 = .ok (.iload 14, 2) := by decide +kernel
theorem dL_acts_778 : decode cL_acts 778 = .ok (.iload 11, 2) := by decide +kernel
theorem dL_acts_780 : decode cL_acts 780 = .ok (.if_icmp .le 8, 3) := by decide +kernel
theorem dL_acts_783 : decode cL_acts 783 = .ok (.iload 14, 2) := by decide +kernel
theorem dL_acts_785 : decode cL_acts 785 = .ok (.goto 5, 3) := by decide +kernel
theorem dL_acts_788 : decode cL_acts 788 = .ok (.iload 11, 2) := by decide +kernel
theorem dL_acts_790 : decode cL_acts 790 = .ok (.istore 11, 2) := by decide +kernel
theorem dL_acts_792 : decode cL_acts 792 = .ok (.aload 6, 2) := by decide +kernel
theorem dL_acts_794 : decode cL_acts 794 = .ok (.iload 13, 2) := by decide +kernel
theorem dL_acts_796 : decode cL_acts 796 = .ok (.iaload, 1) := by decide +kernel
theorem dL_acts_797 : decode cL_acts 797 = .ok (.iload 12, 2) := by decide +kernel
theorem dL_acts_799 : decode cL_acts 799 = .ok (.if_icmp .le 11, 3) := by decide +kernel
theorem dL_acts_802 : decode cL_acts 802 = .ok (.aload 6, 2) := by decide +kernel
theorem dL_acts_804 : decode cL_acts 804 = .ok (.iload 13, 2) := by decide +kernel
theorem dL_acts_806 : decode cL_acts 806 = .ok (.iaload, 1) := by decide +kernel
theorem dL_acts_807 : decode cL_acts 807 = .ok (.goto 5, 3) := by decide +kernel
theorem dL_acts_810 : decode cL_acts 810 = .ok (.iload 12, 2) := by decide +kernel
theorem dL_acts_812 : decode cL_acts 812 = .ok (.istore 12, 2) := by decide +kernel
theorem dL_acts_814 : decode cL_acts 814 = .ok (.iinc 13 1, 3) := by decide +kernel
theorem dL_acts_817 : decode cL_acts 817 = .ok (.goto (-84), 3) := by decide +kernel
theorem dL_acts_820 : decode cL_acts 820 = .ok (.iload_n 2, 1) := by decide +kernel
theorem dL_acts_821 : decode cL_acts 821 = .ok (.iconst 3, 1) := by decide +kernel
theorem dL_acts_822 : decode cL_acts 822 = .ok (.ishr, 1) := by decide +kernel
theorem dL_acts_823 : decode cL_acts 823 = .ok (.bipush 25, 2) := by decide +kernel
theorem dL_acts_825 : decode cL_acts 825 = .ok (.invokestatic 109, 3) := by decide +kernel
theorem dL_acts_828 : decode cL_acts 828 = .ok (.ifCond .ne 21, 3) := by decide +kernel
theorem dL_acts_831 : decode cL_acts 831 = .ok (.iload_n 2, 1) := by decide +kernel
theorem dL_acts_832 : decode cL_acts 832 = .ok (.iconst 3, 1) := by decide +kernel
theorem dL_acts_833 : decode cL_acts 833 = .ok (.invokestatic 109, 3) := by decide +kernel
theorem dL_acts_836 : decode cL_acts 836 = .ok (.ifCond .ne 8, 3) := by decide +kernel
theorem dL_acts_839 : decode cL_acts 839 = .ok (.ldc 135, 2) := by decide +kernel
theorem dL_acts_841 : decode cL_acts 841 = .ok (.goto 24, 3) := by decide +kernel
theorem dL_acts_844 : decode cL_acts 844 = .ok (.ldc 136, 2) := by decide +kernel
theorem dL_acts_846 : decode cL_acts 846 = .ok (.goto 19, 3) := by decide +kernel
theorem dL_acts_849 : decode cL_acts 849 = .ok (.iload 10, 2) := by decide +kernel
theorem dL_acts_851 : decode cL_acts 851 = .ok (.iload_n 2, 1) := by decide +kernel
theorem dL_acts_852 : decode cL_acts 852 = .ok (.iconst 3, 1) := by decide +kernel
theorem dL_acts_853 : decode cL_acts 853 = .ok (.ishr, 1) := by decide +kernel
theorem dL_acts_854 : decode cL_acts 854 = .ok (.iload 11, 2) := by decide +kernel
theorem dL_acts_856 : decode cL_acts 856 = .ok (.iload 10, 2) := by decide +kernel
theorem dL_acts_858 : decode cL_acts 858 = .ok (.isub, 1) := by decide +kernel
theorem dL_acts_859 : decode cL_acts 859 = .ok (.iconst 3, 1) := by decide +kernel
theorem dL_acts_860 : decode cL_acts 860 = .ok (.iadd, 1) := by decide +kernel
theorem dL_acts_861 : decode cL_acts 861 = .ok (.invokestatic 109, 3) := by decide +kernel
theorem dL_acts_864 : decode cL_acts 864 = .ok (.iadd, 1) := by decide +kernel
theorem dL_acts_865 : decode cL_acts 865 = .ok (.istore 13, 2) := by decide +kernel
theorem dL_acts_867 : decode cL_acts 867 = .ok (.iconst 0, 1) := by decide +kernel
theorem dL_acts_868 : decode cL_acts 868 = .ok (.istore 14, 2) := by decide +kernel
theorem dL_acts_870 : decode cL_acts 870 = .ok (.iconst 0, 1) := by decide +kernel
theorem dL_acts_871 : decode cL_acts 871 = .ok (.istore 15, 2) := by decide +kernel
theorem dL_acts_873 : decode cL_acts 873 = .ok (.iload 15, 2) := by decide +kernel
theorem dL_acts_875 : decode cL_acts 875 = .ok (.iload 8, 2) := by decide +kernel
theorem dL_acts_877 : decode cL_acts 877 = .ok (.if_icmp .ge 42, 3) := by decide +kernel
theorem dL_acts_880 : decode cL_acts 880 = .ok (.iload 14, 2) := by decide +kernel
theorem dL_acts_882 : decode cL_acts 882 = .ok (.iload 9, 2) := by decide +kernel
theorem dL_acts_884 : decode cL_acts 884 = .ok (.ifCond .eq 11, 3) := by decide +kernel
theorem dL_acts_887 : decode cL_acts 887 = .ok (.aload 4, 2) := by decide +kernel
theorem dL_acts_889 : decode cL_acts 889 = .ok (.iload 15, 2) := by decide +kernel
theorem dL_acts_891 : decode cL_acts 891 = .ok (.iaload, 1) := by decide +kernel
theorem dL_acts_892 : decode cL_acts 892 = .ok (.goto 8, 3) := by decide +kernel
theorem dL_acts_895 : decode cL_acts 895 = .ok (.aload 5, 2) := by decide +kernel
theorem dL_acts_897 : decode cL_acts 897 = .ok (.iload 15, 2) := by decide +kernel
theorem dL_acts_899 : decode cL_acts 899 = .ok (.iaload, 1) := by decide +kernel
theorem dL_acts_900 : decode cL_acts 900 = .ok (.iload 13, 2) := by decide +kernel
theorem dL_acts_902 : decode cL_acts 902 = .ok (.if_icmp .ge 7, 3) := by decide +kernel
theorem dL_acts_905 : decode cL_acts 905 = .ok (.iconst 1, 1) := by decide +kernel
theorem dL_acts_906 : decode cL_acts 906 = .ok (.goto 4, 3) := by decide +kernel
theorem dL_acts_909 : decode cL_acts 909 = .ok (.iconst 0, 1) := by decide +kernel
theorem dL_acts_910 : decode cL_acts 910 = .ok (.iadd, 1) := by decide +kernel
theorem dL_acts_911 : decode cL_acts 911 = .ok (.istore 14, 2) := by decide +kernel
theorem dL_acts_913 : decode cL_acts 913 = .ok (.iinc 15 1, 3) := by decide +kernel
theorem dL_acts_916 : decode cL_acts 916 = .ok (.goto (-43), 3) := by decide +kernel
theorem dL_acts_919 : decode cL_acts 919 = .ok (.iload 14, 2) := by decide +kernel
theorem dL_acts_921 : decode cL_acts 921 = .ok (.ifCond .le 14, 3) := by decide +kernel
theorem dL_acts_924 : decode cL_acts 924 = .ok (.iload 14, 2) := by decide +kernel
theorem dL_acts_926 : decode cL_acts 926 = .ok (.iload 8, 2) := by decide +kernel
theorem dL_acts_928 : decode cL_acts 928 = .ok (.if_icmp .ge 7, 3) := by decide +kernel
theorem dL_acts_931 : decode cL_acts 931 = .ok (.iconst 1, 1) := by decide +kernel
theorem dL_acts_932 : decode cL_acts 932 = .ok (.goto 4, 3) := by decide +kernel
theorem dL_acts_935 : decode cL_acts 935 = .ok (.iconst 0, 1) := by decide +kernel
theorem dL_acts_936 : decode cL_acts 936 = .ok (.istore 15, 2) := by decide +kernel
theorem dL_acts_938 : decode cL_acts 938 = .ok (.iconst 0, 1) := by decide +kernel
theorem dL_acts_939 : decode cL_acts 939 = .ok (.istore 16, 2) := by decide +kernel
theorem dL_acts_941 : decode cL_acts 941 = .ok (.iload 16, 2) := by decide +kernel
theorem dL_acts_943 : decode cL_acts 943 = .ok (.iload 8, 2) := by decide +kernel
theorem dL_acts_945 : decode cL_acts 945 = .ok (.if_icmp .ge 123, 3) := by decide +kernel
theorem dL_acts_948 : decode cL_acts 948 = .ok (.iload 15, 2) := by decide +kernel
theorem dL_acts_950 : decode cL_acts 950 = .ok (.ifCond .eq 118, 3) := by decide +kernel
theorem dL_acts_953 : decode cL_acts 953 = .ok (.iload 9, 2) := by decide +kernel
theorem dL_acts_955 : decode cL_acts 955 = .ok (.ifCond .eq 11, 3) := by decide +kernel
theorem dL_acts_958 : decode cL_acts 958 = .ok (.aload 4, 2) := by decide +kernel
theorem dL_acts_960 : decode cL_acts 960 = .ok (.iload 16, 2) := by decide +kernel
theorem dL_acts_962 : decode cL_acts 962 = .ok (.iaload, 1) := by decide +kernel
theorem dL_acts_963 : decode cL_acts 963 = .ok (.goto 8, 3) := by decide +kernel
theorem dL_acts_966 : decode cL_acts 966 = .ok (.aload 5, 2) := by decide +kernel
theorem dL_acts_968 : decode cL_acts 968 = .ok (.iload 16, 2) := by decide +kernel
theorem dL_acts_970 : decode cL_acts 970 = .ok (.iaload, 1) := by decide +kernel
theorem dL_acts_971 : decode cL_acts 971 = .ok (.istore 17, 2) := by decide +kernel
theorem dL_acts_973 : decode cL_acts 973 = .ok (.iload 17, 2) := by decide +kernel
theorem dL_acts_975 : decode cL_acts 975 = .ok (.iload 13, 2) := by decide +kernel
theorem dL_acts_977 : decode cL_acts 977 = .ok (.if_icmp .ge 85, 3) := by decide +kernel
theorem dL_acts_980 : decode cL_acts 980 = .ok (.iload 13, 2) := by decide +kernel
theorem dL_acts_982 : decode cL_acts 982 = .ok (.iload 13, 2) := by decide +kernel
theorem dL_acts_984 : decode cL_acts 984 = .ok (.iconst 1, 1) := by decide +kernel
theorem dL_acts_985 : decode cL_acts 985 = .ok (.isub, 1) := by decide +kernel
theorem dL_acts_986 : decode cL_acts 986 = .ok (.iload 17, 2) := by decide +kernel
theorem dL_acts_988 : decode cL_acts 988 = .ok (.isub, 1) := by decide +kernel
theorem dL_acts_989 : decode cL_acts 989 = .ok (.iadd, 1) := by decide +kernel
theorem dL_acts_990 : decode cL_acts 990 = .ok (.istore 18, 2) := by decide +kernel
theorem dL_acts_992 : decode cL_acts 992 = .ok (.aload 4, 2) := by decide +kernel
theorem dL_acts_994 : decode cL_acts 994 = .ok (.iload 16, 2) := by decide +kernel
theorem dL_acts_996 : decode cL_acts 996 = .ok (.iload 9, 2) := by decide +kernel
theorem dL_acts_998 : decode cL_acts 998 = .ok (.ifCond .eq 8, 3) := by decide +kernel
theorem dL_acts_1001 : decode cL_acts 1001 = .ok (.iload 18, 2) := by decide +kernel
theorem dL_acts_1003 : decode cL_acts 1003 = .ok (.goto 8, 3) := by decide +kernel
theorem dL_acts_1006 : decode cL_acts 1006 = .ok (.aload 4, 2) := by decide +kernel
theorem dL_acts_1008 : decode cL_acts 1008 = .ok (.iload 16, 2) := by decide +kernel
theorem dL_acts_1010 : decode cL_acts 1010 = .ok (.iaload, 1) := by decide +kernel
theorem dL_acts_1011 : decode cL_acts 1011 = .ok (.iastore, 1) := by decide +kernel
theorem dL_acts_1012 : decode cL_acts 1012 = .ok (.aload 5, 2) := by decide +kernel
theorem dL_acts_1014 : decode cL_acts 1014 = .ok (.iload 16, 2) := by decide +kernel
theorem dL_acts_1016 : decode cL_acts 1016 = .ok (.iload 9, 2) := by decide +kernel
theorem dL_acts_1018 : decode cL_acts 1018 = .ok (.ifCond .eq 11, 3) := by decide +kernel
theorem dL_acts_1021 : decode cL_acts 1021 = .ok (.aload 5, 2) := by decide +kernel
theorem dL_acts_1023 : decode cL_acts 1023 = .ok (.iload 16, 2) := by decide +kernel
theorem dL_acts_1025 : decode cL_acts 1025 = .ok (.iaload, 1) := by decide +kernel
theorem dL_acts_1026 : decode cL_acts 1026 = .ok (.goto 5, 3) := by decide +kernel
theorem dL_acts_1029 : decode cL_acts 1029 = .ok (.iload 18, 2) := by decide +kernel
theorem dL_acts_1031 : decode cL_acts 1031 = .ok (.iastore, 1) := by decide +kernel
theorem dL_acts_1032 : decode cL_acts 1032 = .ok (.aload 6, 2) := by decide +kernel
theorem dL_acts_1034 : decode cL_acts 1034 = .ok (.iload 16, 2) := by decide +kernel
theorem dL_acts_1036 : decode cL_acts 1036 = .ok (.iload 12, 2) := by decide +kernel
theorem dL_acts_1038 : decode cL_acts 1038 = .ok (.iconst 1, 1) := by decide +kernel
theorem dL_acts_1039 : decode cL_acts 1039 = .ok (.iadd, 1) := by decide +kernel
theorem dL_acts_1040 : decode cL_acts 1040 = .ok (.iload 12, 2) := by decide +kernel
theorem dL_acts_1042 : decode cL_acts 1042 = .ok (.aload 6, 2) := by decide +kernel
theorem dL_acts_1044 : decode cL_acts 1044 = .ok (.iload 16, 2) := by decide +kernel
theorem dL_acts_1046 : decode cL_acts 1046 = .ok (.iaload, 1) := by decide +kernel
theorem dL_acts_1047 : decode cL_acts 1047 = .ok (.isub, 1) := by decide +kernel
theorem dL_acts_1048 : decode cL_acts 1048 = .ok (.iadd, 1) := by decide +kernel
theorem dL_acts_1049 : decode cL_acts 1049 = .ok (.iastore, 1) := by decide +kernel
theorem dL_acts_1050 : decode cL_acts 1050 = .ok (.aload 7, 2) := by decide +kernel
theorem dL_acts_1052 : decode cL_acts 1052 = .ok (.iload 16, 2) := by decide +kernel
theorem dL_acts_1054 : decode cL_acts 1054 = .ok (.iconst 1, 1) := by decide +kernel
theorem dL_acts_1055 : decode cL_acts 1055 = .ok (.aload 7, 2) := by decide +kernel
theorem dL_acts_1057 : decode cL_acts 1057 = .ok (.iload 16, 2) := by decide +kernel
theorem dL_acts_1059 : decode cL_acts 1059 = .ok (.iaload, 1) := by decide +kernel
theorem dL_acts_1060 : decode cL_acts 1060 = .ok (.isub, 1) := by decide +kernel
theorem dL_acts_1061 : decode cL_acts 1061 = .ok (.iastore, 1) := by decide +kernel
theorem dL_acts_1062 : decode cL_acts 1062 = .ok (.iinc 16 1, 3) := by decide +kernel
theorem dL_acts_1065 : decode cL_acts 1065 = .ok (.goto (-124), 3) := by decide +kernel
theorem dL_acts_1068 : decode cL_acts 1068 = .ok (.aload_n 3, 1) := by decide +kernel
theorem dL_acts_1069 : decode cL_acts 1069 = .ok (.bipush 32, 2) := by decide +kernel
theorem dL_acts_1071 : decode cL_acts 1071 = .ok (.dup2, 1) := by decide +kernel
theorem dL_acts_1072 : decode cL_acts 1072 = .ok (.iaload, 1) := by decide +kernel
theorem dL_acts_1073 : decode cL_acts 1073 = .ok (.iload 15, 2) := by decide +kernel
theorem dL_acts_1075 : decode cL_acts 1075 = .ok (.ifCond .eq 7, 3) := by decide +kernel
theorem dL_acts_1078 : decode cL_acts 1078 = .ok (.iconst 1, 1) := by decide +kernel
theorem dL_acts_1079 : decode cL_acts 1079 = .ok (.goto 4, 3) := by decide +kernel
theorem dL_acts_1082 : decode cL_acts 1082 = .ok (.iconst 0, 1) := by decide +kernel
theorem dL_acts_1083 : decode cL_acts 1083 = .ok (.iadd, 1) := by decide +kernel
theorem dL_acts_1084 : decode cL_acts 1084 = .ok (.iastore, 1) := by decide +kernel
theorem dL_acts_1085 : decode cL_acts 1085 = .ok (.aload_n 0, 1) := by decide +kernel
theorem dL_acts_1086 : decode cL_acts 1086 = .ok (.iload 9, 2) := by decide +kernel
theorem dL_acts_1088 : decode cL_acts 1088 = .ok (.iload 13, 2) := by decide +kernel
theorem dL_acts_1090 : decode cL_acts 1090 = .ok (.invokestatic 137, 3) := by decide +kernel
theorem dL_acts_1093 : decode cL_acts 1093 = .ok (.iload 15, 2) := by decide +kernel
theorem dL_acts_1095 : decode cL_acts 1095 = .ok (.ifCond .eq 8, 3) := by decide +kernel
theorem dL_acts_1098 : decode cL_acts 1098 = .ok (.iload 14, 2) := by decide +kernel
theorem dL_acts_1100 : decode cL_acts 1100 = .ok (.goto 4, 3) := by decide +kernel
theorem dL_acts_1103 : decode cL_acts 1103 = .ok (.iconst (-1), 1) := by decide +kernel
theorem dL_acts_1104 : decode cL_acts 1104 = .ok (.if_icmp .ne 7, 3) := by decide +kernel
theorem dL_acts_1107 : decode cL_acts 1107 = .ok (.iconst 1, 1) := by decide +kernel
theorem dL_acts_1108 : decode cL_acts 1108 = .ok (.goto 4, 3) := by decide +kernel
theorem dL_acts_1111 : decode cL_acts 1111 = .ok (.iconst 0, 1) := by decide +kernel
theorem dL_acts_1112 : decode cL_acts 1112 = .ok (.ireturn, 1) := by decide +kernel
theorem dL_maps_0 : decode cL_maps 0 = .ok (.iload_n 1, 1) := by decide +kernel
theorem dL_maps_1 : decode cL_maps 1 = .ok (.bipush 60, 2) := by decide +kernel
theorem dL_maps_3 : decode cL_maps 3 = .ok (.invokestatic 109, 3) := by decide +kernel
theorem dL_maps_6 : decode cL_maps 6 = .ok (.ifCond .ne 8, 3) := by decide +kernel
theorem dL_maps_9 : decode cL_maps 9 = .ok (.bipush 91, 2) := by decide +kernel
theorem dL_maps_11 : decode cL_maps 11 = .ok (.goto 13, 3) := by decide +kernel
theorem dL_maps_14 : decode cL_maps 14 = .ok (.iload_n 1, 1) := by decide +kernel
theorem dL_maps_15 : decode cL_maps 15 = .ok (.sipush 181, 3) := by decide +kernel
theorem dL_maps_18 : decode cL_maps 18 = .ok (.invokestatic 109, 3) := by decide +kernel
theorem dL_maps_21 : decode cL_maps 21 = .ok (.bipush 90, 2) := by decide +kernel
theorem dL_maps_23 : decode cL_maps 23 = .ok (.isub, 1) := by decide +kernel
theorem dL_maps_24 : decode cL_maps 24 = .ok (.istore_n 3, 1) := by decide +kernel
theorem dL_maps_25 : decode cL_maps 25 = .ok (.iload_n 1, 1) := by decide +kernel
theorem dL_maps_26 : decode cL_maps 26 = .ok (.iconst 5, 1) := by decide +kernel
theorem dL_maps_27 : decode cL_maps 27 = .ok (.ishr, 1) := by decide +kernel
theorem dL_maps_28 : decode cL_maps 28 = .ok (.bipush 60, 2) := by decide +kernel
theorem dL_maps_30 : decode cL_maps 30 = .ok (.invokestatic 109, 3) := by decide +kernel
theorem dL_maps_33 : decode cL_maps 33 = .ok (.ifCond .ne 9, 3) := by decide +kernel
theorem dL_maps_36 : decode cL_maps 36 = .ok (.sipush 180, 3) := by decide +kernel
theorem dL_maps_39 : decode cL_maps 39 = .ok (.goto 16, 3) := by decide +kernel
theorem dL_maps_42 : decode cL_maps 42 = .ok (.iload_n 1, 1) := by decide +kernel
theorem dL_maps_43 : decode cL_maps 43 = .ok (.iconst 5, 1) := by decide +kernel
theorem dL_maps_44 : decode cL_maps 44 = .ok (.ishr, 1) := by decide +kernel
theorem dL_maps_45 : decode cL_maps 45 = .ok (.sipush 360, 3) := by decide +kernel
theorem dL_maps_48 : decode cL_maps 48 = .ok (.invokestatic 109, 3) := by decide +kernel
theorem dL_maps_51 : decode cL_maps 51 = .ok (.sipush 180, 3) := by decide +kernel
theorem dL_maps_54 : decode cL_maps 54 = .ok (.isub, 1) := by decide +kernel
theorem dL_maps_55 : decode cL_maps 55 = .ok (.istore 4, 2) := by decide +kernel
theorem dL_maps_57 : decode cL_maps 57 = .ok (.iload_n 3, 1) := by decide +kernel
theorem dL_maps_58 : decode cL_maps 58 = .ok (.bipush 91, 2) := by decide +kernel
theorem dL_maps_60 : decode cL_maps 60 = .ok (.if_icmp .ge 7, 3) := by decide +kernel
theorem dL_maps_63 : decode cL_maps 63 = .ok (.iconst 1, 1) := by decide +kernel
theorem dL_maps_64 : decode cL_maps 64 = .ok (.goto 4, 3) := by decide +kernel
theorem dL_maps_67 : decode cL_maps 67 = .ok (.iconst 0, 1) := by decide +kernel
theorem dL_maps_68 : decode cL_maps 68 = .ok (.istore 5, 2) := by decide +kernel
theorem dL_maps_70 : decode cL_maps 70 = .ok (.iload 5, 2) := by decide +kernel
theorem dL_maps_72 : decode cL_maps 72 = .ok (.ifCond .eq 15, 3) := by decide +kernel
theorem dL_maps_75 : decode cL_maps 75 = .ok (.iload 4, 2) := by decide +kernel
theorem dL_maps_77 : decode cL_maps 77 = .ok (.sipush 180, 3) := by decide +kernel
theorem dL_maps_80 : decode cL_maps 80 = .ok (.if_icmp .ge 7, 3) := by decide +kernel
theorem dL_maps_83 : decode cL_maps 83 = .ok (.iconst 1, 1) := by decide +kernel
theorem dL_maps_84 : decode cL_maps 84 = .ok (.goto 4, 3) := by decide +kernel
theorem dL_maps_87 : decode cL_maps 87 = .ok (.iconst 0, 1) := by decide +kernel
theorem dL_maps_88 : decode cL_maps 88 = .ok (.istore 6, 2) := by decide +kernel
theorem dL_maps_90 : decode cL_maps 90 = .ok (.aload_n 0, 1) := by decide +kernel
theorem dL_maps_91 : decode cL_maps 91 = .ok (.iconst 0, 1) := by decide +kernel
theorem dL_maps_92 : decode cL_maps 92 = .ok (.iload_n 3, 1) := by decide +kernel
theorem dL_maps_93 : decode cL_maps 93 = .ok (.iload 4, 2) := by decide +kernel
theorem dL_maps_95 : decode cL_maps 95 = .ok (.iconst 0, 1) := by decide +kernel
theorem dL_maps_96 : decode cL_maps 96 = .ok (.invokestatic 119, 3) := by decide +kernel
theorem dL_maps_99 : decode cL_maps 99 = .ok (.iload 6, 2) := by decide +kernel
theorem dL_maps_101 : decode cL_maps 101 = .ok (.ifCond .eq 14, 3) := by decide +kernel
theorem dL_maps_104 : decode cL_maps 104 = .ok (.iload 4, 2) := by decide +kernel
theorem dL_maps_106 : decode cL_maps 106 = .ok (.aload_n 2, 1) := by decide +kernel
theorem dL_maps_107 : decode cL_maps 107 = .ok (.iload_n 3, 1) := by decide +kernel
theorem dL_maps_108 : decode cL_maps 108 = .ok (.invokestatic 20, 3) := by decide +kernel
theorem dL_maps_111 : decode cL_maps 111 = .ok (.imul, 1) := by decide +kernel
theorem dL_maps_112 : decode cL_maps 112 = .ok (.goto 5, 3) := by decide +kernel
theorem dL_maps_115 : decode cL_maps 115 = .ok (.ldc 65, 2) := by decide +kernel
theorem dL_maps_117 : decode cL_maps 117 = .ok (.if_icmp .ne 29, 3) := by decide +kernel
theorem dL_maps_120 : decode cL_maps 120 = .ok (.aload_n 0, 1) := by decide +kernel
theorem dL_maps_121 : decode cL_maps 121 = .ok (.iconst 1, 1) := by decide +kernel
theorem dL_maps_122 : decode cL_maps 122 = .ok (.iload_n 3, 1) := by decide +kernel
theorem dL_maps_123 : decode cL_maps 123 = .ok (.iconst 0, 1) := by decide +kernel
theorem dL_maps_124 : decode cL_maps 124 = .ok (.iconst 0, 1) := by decide +kernel
theorem dL_maps_125 : decode cL_maps 125 = .ok (.invokestatic 119, 3) := by decide +kernel
theorem dL_maps_128 : decode cL_maps 128 = .ok (.iload 5, 2) := by decide +kernel
theorem dL_maps_130 : decode cL_maps 130 = .ok (.ifCond .eq 11, 3) := by decide +kernel
theorem dL_maps_133 : decode cL_maps 133 = .ok (.aload_n 2, 1) := by decide +kernel
theorem dL_maps_134 : decode cL_maps 134 = .ok (.iload_n 3, 1) := by decide +kernel
theorem dL_maps_135 : decode cL_maps 135 = .ok (.invokestatic 16, 3) := by decide +kernel
theorem dL_maps_138 : decode cL_maps 138 = .ok (.goto 5, 3) := by decide +kernel
theorem dL_maps_141 : decode cL_maps 141 = .ok (.ldc 65, 2) := by decide +kernel
theorem dL_maps_143 : decode cL_maps 143 = .ok (.if_icmp .eq 5, 3) := by decide +kernel
theorem dL_maps_146 : decode cL_maps 146 = .ok (.iconst 0, 1) := by decide +kernel
theorem dL_maps_147 : decode cL_maps 147 = .ok (.ireturn, 1) := by decide +kernel
theorem dL_maps_148 : decode cL_maps 148 = .ok (.iload_n 1, 1) := by decide +kernel
theorem dL_maps_149 : decode cL_maps 149 = .ok (.iconst 3, 1) := by decide +kernel
theorem dL_maps_150 : decode cL_maps 150 = .ok (.ishr, 1) := by decide +kernel
theorem dL_maps_151 : decode cL_maps 151 = .ok (.bipush 50, 2) := by decide +kernel
theorem dL_maps_153 : decode cL_maps 153 = .ok (.invokestatic 109, 3) := by decide +kernel
theorem dL_maps_156 : decode cL_maps 156 = .ok (.ifCond .ne 8, 3) := by decide +kernel
theorem dL_maps_159 : decode cL_maps 159 = .ok (.ldc 141, 2) := by decide +kernel
theorem dL_maps_161 : decode cL_maps 161 = .ok (.goto 50, 3) := by decide +kernel
theorem dL_maps_164 : decode cL_maps 164 = .ok (.iload 5, 2) := by decide +kernel
theorem dL_maps_166 : decode cL_maps 166 = .ok (.ifCond .eq 34, 3) := by decide +kernel
theorem dL_maps_169 : decode cL_maps 169 = .ok (.iload_n 1, 1) := by decide +kernel
theorem dL_maps_170 : decode cL_maps 170 = .ok (.bipush 6, 2) := by decide +kernel
theorem dL_maps_172 : decode cL_maps 172 = .ok (.ishr, 1) := by decide +kernel
theorem dL_maps_173 : decode cL_maps 173 = .ok (.iconst 3, 1) := by decide +kernel
theorem dL_maps_174 : decode cL_maps 174 = .ok (.invokestatic 109, 3) := by decide +kernel
theorem dL_maps_177 : decode cL_maps 177 = .ok (.ifCond .le 23, 3) := by decide +kernel
theorem dL_maps_180 : decode cL_maps 180 = .ok (.aload_n 2, 1) := by decide +kernel
theorem dL_maps_181 : decode cL_maps 181 = .ok (.iload_n 3, 1) := by decide +kernel
theorem dL_maps_182 : decode cL_maps 182 = .ok (.invokestatic 16, 3) := by decide +kernel
theorem dL_maps_185 : decode cL_maps 185 = .ok (.iload_n 1, 1) := by decide +kernel
theorem dL_maps_186 : decode cL_maps 186 = .ok (.bipush 7, 2) := by decide +kernel
theorem dL_maps_188 : decode cL_maps 188 = .ok (.ishr, 1) := by decide +kernel
theorem dL_maps_189 : decode cL_maps 189 = .ok (.bipush 9, 2) := by decide +kernel
theorem dL_maps_191 : decode cL_maps 191 = .ok (.invokestatic 109, 3) := by decide +kernel
theorem dL_maps_194 : decode cL_maps 194 = .ok (.iadd, 1) := by decide +kernel
theorem dL_maps_195 : decode cL_maps 195 = .ok (.iconst 4, 1) := by decide +kernel
theorem dL_maps_196 : decode cL_maps 196 = .ok (.isub, 1) := by decide +kernel
theorem dL_maps_197 : decode cL_maps 197 = .ok (.goto 14, 3) := by decide +kernel
theorem dL_maps_200 : decode cL_maps 200 = .ok (.iload_n 1, 1) := by decide +kernel
theorem dL_maps_201 : decode cL_maps 201 = .ok (.iconst 2, 1) := by decide +kernel
theorem dL_maps_202 : decode cL_maps 202 = .ok (.ishr, 1) := by decide +kernel
theorem dL_maps_203 : decode cL_maps 203 = .ok (.ldc 142, 2) := by decide +kernel
theorem dL_maps_205 : decode cL_maps 205 = .ok (.invokestatic 109, 3) := by decide +kernel
theorem dL_maps_208 : decode cL_maps 208 = .ok (.ldc 143, 2) := by decide +kernel
theorem dL_maps_210 : decode cL_maps 210 = .ok (.isub, 1) := by decide +kernel
theorem dL_maps_211 : decode cL_maps 211 = .ok (.istore 7, 2) := by decide +kernel
theorem dL_maps_213 : decode cL_maps 213 = .ok (.bipush (-91), 2) := by decide +kernel
theorem dL_maps_215 : decode cL_maps 215 = .ok (.istore 8, 2) := by decide +kernel
theorem dL_maps_217 : decode cL_maps 217 = .ok (.bipush (-90), 2) := by decide +kernel
theorem dL_maps_219 : decode cL_maps 219 = .ok (.istore 9, 2) := by decide +kernel
theorem dL_maps_221 : decode cL_maps 221 = .ok (.iload 9, 2) := by decide +kernel
theorem dL_maps_223 : decode cL_maps 223 = .ok (.bipush 91, 2) := by decide +kernel
theorem dL_maps_225 : decode cL_maps 225 = .ok (.if_icmp .ge 29, 3) := by decide +kernel
theorem dL_maps_228 : decode cL_maps 228 = .ok (.aload_n 2, 1) := by decide +kernel
theorem dL_maps_229 : decode cL_maps 229 = .ok (.iload 9, 2) := by decide +kernel
theorem dL_maps_231 : decode cL_maps 231 = .ok (.invokestatic 16, 3) := by decide +kernel
theorem dL_maps_234 : decode cL_maps 234 = .ok (.iload 7, 2) := by decide +kernel
theorem dL_maps_236 : decode cL_maps 236 = .ok (.if_icmp .gt 8, 3) := by decide +kernel
theorem dL_maps_239 : decode cL_maps 239 = .ok (.iload 9, 2) := by decide +kernel
theorem dL_maps_241 : decode cL_maps 241 = .ok (.goto 5, 3) := by decide +kernel
theorem dL_maps_244 : decode cL_maps 244 = .ok (.iload 8, 2) := by decide +kernel
theorem dL_maps_246 : decode cL_maps 246 = .ok (.istore 8, 2) := by decide +kernel
theorem dL_maps_248 : decode cL_maps 248 = .ok (.iinc 9 1, 3) := by decide +kernel
theorem dL_maps_251 : decode cL_maps 251 = .ok (.goto (-30), 3) := by decide +kernel
theorem dL_maps_254 : decode cL_maps 254 = .ok (.aload_n 0, 1) := by decide +kernel
theorem dL_maps_255 : decode cL_maps 255 = .ok (.iload 7, 2) := by decide +kernel
theorem dL_maps_257 : decode cL_maps 257 = .ok (.invokestatic 144, 3) := by decide +kernel
theorem dL_maps_260 : decode cL_maps 260 = .ok (.iload 7, 2) := by decide +kernel
theorem dL_maps_262 : decode cL_maps 262 = .ok (.ldc 143, 2) := by decide +kernel
theorem dL_maps_264 : decode cL_maps 264 = .ok (.if_icmp .gt 10, 3) := by decide +kernel
theorem dL_maps_267 : decode cL_maps 267 = .ok (.iload 7, 2) := by decide +kernel
theorem dL_maps_269 : decode cL_maps 269 = .ok (.ldc 148, 2) := by decide +kernel
theorem dL_maps_271 : decode cL_maps 271 = .ok (.if_icmp .ge 9, 3) := by decide +kernel
theorem dL_maps_274 : decode cL_maps 274 = .ok (.sipush (-1001), 3) := by decide +kernel
theorem dL_maps_277 : decode cL_maps 277 = .ok (.goto 18, 3) := by decide +kernel
theorem dL_maps_280 : decode cL_maps 280 = .ok (.iload 8, 2) := by decide +kernel
theorem dL_maps_282 : decode cL_maps 282 = .ok (.bipush (-91), 2) := by decide +kernel
theorem dL_maps_284 : decode cL_maps 284 = .ok (.if_icmp .ne 9, 3) := by decide +kernel
theorem dL_maps_287 : decode cL_maps 287 = .ok (.sipush (-1002), 3) := by decide +kernel
theorem dL_maps_290 : decode cL_maps 290 = .ok (.goto 5, 3) := by decide +kernel
theorem dL_maps_293 : decode cL_maps 293 = .ok (.iload 8, 2) := by decide +kernel
theorem dL_maps_295 : decode cL_maps 295 = .ok (.if_icmp .eq 5, 3) := by decide +kernel
theorem dL_maps_298 : decode cL_maps 298 = .ok (.iconst 0, 1) := by decide +kernel
theorem dL_maps_299 : decode cL_maps 299 = .ok (.ireturn, 1) := by decide +kernel
theorem dL_maps_300 : decode cL_maps 300 = .ok (.iload_n 1, 1) := by decide +kernel
theorem dL_maps_301 : decode cL_maps 301 = .ok (.iconst 4, 1) := by decide +kernel
theorem dL_maps_302 : decode cL_maps 302 = .ok (.ishr, 1) := by decide +kernel
theorem dL_maps_303 : decode cL_maps 303 = .ok (.sipush 181, 3) := by decide +kernel
theorem dL_maps_306 : decode cL_maps 306 = .ok (.invokestatic 109, 3) := by decide +kernel
theorem dL_maps_309 : decode cL_maps 309 = .ok (.bipush 90, 2) := by decide +kernel
theorem dL_maps_311 : decode cL_maps 311 = .ok (.isub, 1) := by decide +kernel
theorem dL_maps_312 : decode cL_maps 312 = .ok (.istore 9, 2) := by decide +kernel
theorem dL_maps_314 : decode cL_maps 314 = .ok (.iload_n 3, 1) := by decide +kernel
theorem dL_maps_315 : decode cL_maps 315 = .ok (.iload 9, 2) := by decide +kernel
theorem dL_maps_317 : decode cL_maps 317 = .ok (.if_icmp .ge 7, 3) := by decide +kernel
theorem dL_maps_320 : decode cL_maps 320 = .ok (.iload_n 3, 1) := by decide +kernel
theorem dL_maps_321 : decode cL_maps 321 = .ok (.goto 5, 3) := by decide +kernel
theorem dL_maps_324 : decode cL_maps 324 = .ok (.iload 9, 2) := by decide +kernel
theorem dL_maps_326 : decode cL_maps 326 = .ok (.istore 10, 2) := by decide +kernel
theorem dL_maps_328 : decode cL_maps 328 = .ok (.iload_n 3, 1) := by decide +kernel
theorem dL_maps_329 : decode cL_maps 329 = .ok (.iload 9, 2) := by decide +kernel
theorem dL_maps_331 : decode cL_maps 331 = .ok (.if_icmp .ge 8, 3) := by decide +kernel
theorem dL_maps_334 : decode cL_maps 334 = .ok (.iload 9, 2) := by decide +kernel
theorem dL_maps_336 : decode cL_maps 336 = .ok (.goto 4, 3) := by decide +kernel
theorem dL_maps_339 : decode cL_maps 339 = .ok (.iload_n 3, 1) := by decide +kernel
theorem dL_maps_340 : decode cL_maps 340 = .ok (.istore 11, 2) := by decide +kernel
theorem dL_maps_342 : decode cL_maps 342 = .ok (.iload_n 1, 1) := by decide +kernel
theorem dL_maps_343 : decode cL_maps 343 = .ok (.bipush 7, 2) := by decide +kernel
theorem dL_maps_345 : decode cL_maps 345 = .ok (.ishr, 1) := by decide +kernel
theorem dL_maps_346 : decode cL_maps 346 = .ok (.sipush 362, 3) := by decide +kernel
theorem dL_maps_349 : decode cL_maps 349 = .ok (.invokestatic 109, 3) := by decide +kernel
theorem dL_maps_352 : decode cL_maps 352 = .ok (.sipush 181, 3) := by decide +kernel
theorem dL_maps_355 : decode cL_maps 355 = .ok (.isub, 1) := by decide +kernel
theorem dL_maps_356 : decode cL_maps 356 = .ok (.istore 12, 2) := by decide +kernel
theorem dL_maps_358 : decode cL_maps 358 = .ok (.iload 5, 2) := by decide +kernel
theorem dL_maps_360 : decode cL_maps 360 = .ok (.ifCond .eq 22, 3) := by decide +kernel
theorem dL_maps_363 : decode cL_maps 363 = .ok (.iload 12, 2) := by decide +kernel
theorem dL_maps_365 : decode cL_maps 365 = .ok (.sipush (-180), 3) := by decide +kernel
theorem dL_maps_368 : decode cL_maps 368 = .ok (.if_icmp .lt 14, 3) := by decide +kernel
theorem dL_maps_371 : decode cL_maps 371 = .ok (.iload 12, 2) := by decide +kernel
theorem dL_maps_373 : decode cL_maps 373 = .ok (.iload 4, 2) := by decide +kernel
theorem dL_maps_375 : decode cL_maps 375 = .ok (.if_icmp .gt 7, 3) := by decide +kernel
theorem dL_maps_378 : decode cL_maps 378 = .ok (.iconst 1, 1) := by decide +kernel
theorem dL_maps_379 : decode cL_maps 379 = .ok (.goto 4, 3) := by decide +kernel
theorem dL_maps_382 : decode cL_maps 382 = .ok (.iconst 0, 1) := by decide +kernel
theorem dL_maps_383 : decode cL_maps 383 = .ok (.istore 13, 2) := by decide +kernel
theorem dL_maps_385 : decode cL_maps 385 = .ok (.iload 13, 2) := by decide +kernel
theorem dL_maps_387 : decode cL_maps 387 = .ok (.ifCond .eq 19, 3) := by decide +kernel
theorem dL_maps_390 : decode cL_maps 390 = .ok (.aload_n 2, 1) := by decide +kernel
theorem dL_maps_391 : decode cL_maps 391 = .ok (.iload 10, 2) := by decide +kernel
theorem dL_maps_393 : decode cL_maps 393 = .ok (.iload 11, 2) := by decide +kernel
theorem dL_maps_395 : decode cL_maps 395 = .ok (.iload 4, 2) := by decide +kernel
theorem dL_maps_397 : decode cL_maps 397 = .ok (.iload 12, 2) := by decide +kernel
theorem dL_maps_399 : decode cL_maps 399 = .ok (.isub, 1) := by decide +kernel
theorem dL_maps_400 : decode cL_maps 400 = .ok (.invokestatic 149, 3) := by decide +kernel
theorem dL_maps_403 : decode cL_maps 403 = .ok (.goto 6, 3) := by decide +kernel
theorem dL_maps_406 : decode cL_maps 406 = .ok (.ldc2_w 76, 3) := by decide +kernel
theorem dL_maps_409 : decode cL_maps 409 = .ok (.lstore 14, 2) := by decide +kernel
theorem dL_maps_411 : decode cL_maps 411 = .ok (.aload_n 0, 1) := by decide +kernel
theorem dL_maps_412 : decode cL_maps 412 = .ok (.iconst 0, 1) := by decide +kernel
theorem dL_maps_413 : decode cL_maps 413 = .ok (.iload 10, 2) := by decide +kernel
theorem dL_maps_415 : decode cL_maps 415 = .ok (.iload 11, 2) := by decide +kernel
theorem dL_maps_417 : decode cL_maps 417 = .ok (.iload 12, 2) := by decide +kernel
theorem dL_maps_419 : decode cL_maps 419 = .ok (.iload 4, 2) := by decide +kernel
theorem dL_maps_421 : decode cL_maps 421 = .ok (.invokestatic 152, 3) := by decide +kernel
theorem dL_maps_424 : decode cL_maps 424 = .ok (.lload 14, 2) := by decide +kernel
theorem dL_maps_426 : decode cL_maps 426 = .ok (.lcmp, 1) := by decide +kernel
theorem dL_maps_427 : decode cL_maps 427 = .ok (.ifCond .ne 42, 3) := by decide +kernel
theorem dL_maps_430 : decode cL_maps 430 = .ok (.aload_n 0, 1) := by decide +kernel
theorem dL_maps_431 : decode cL_maps 431 = .ok (.iconst 1, 1) := by decide +kernel
theorem dL_maps_432 : decode cL_maps 432 = .ok (.iload 10, 2) := by decide +kernel
theorem dL_maps_434 : decode cL_maps 434 = .ok (.iload 11, 2) := by decide +kernel
theorem dL_maps_436 : decode cL_maps 436 = .ok (.iload 12, 2) := by decide +kernel
theorem dL_maps_438 : decode cL_maps 438 = .ok (.iload 4, 2) := by decide +kernel
theorem dL_maps_440 : decode cL_maps 440 = .ok (.invokestatic 152, 3) := by decide +kernel
theorem dL_maps_443 : decode cL_maps 443 = .ok (.lload 14, 2) := by decide +kernel
theorem dL_maps_445 : decode cL_maps 445 = .ok (.lcmp, 1) := by decide +kernel
theorem dL_maps_446 : decode cL_maps 446 = .ok (.ifCond .ne 23, 3) := by decide +kernel
theorem dL_maps_449 : decode cL_maps 449 = .ok (.aload_n 0, 1) := by decide +kernel
theorem dL_maps_450 : decode cL_maps 450 = .ok (.iconst 0, 1) := by decide +kernel
theorem dL_maps_451 : decode cL_maps 451 = .ok (.iconst 5, 1) := by decide +kernel
theorem dL_maps_452 : decode cL_maps 452 = .ok (.iconst 4, 1) := by decide +kernel
theorem dL_maps_453 : decode cL_maps 453 = .ok (.iconst 0, 1) := by decide +kernel
theorem dL_maps_454 : decode cL_maps 454 = .ok (.iconst 0, 1) := by decide +kernel
theorem dL_maps_455 : decode cL_maps 455 = .ok (.invokestatic 152, 3) := by decide +kernel
theorem dL_maps_458 : decode cL_maps 458 = .ok (.ldc2_w 76, 3) := by decide +kernel
theorem dL_maps_461 : decode cL_maps 461 = .ok (.lcmp, 1) := by decide +kernel
theorem dL_maps_462 : decode cL_maps 462 = .ok (.ifCond .ne 7, 3) := by decide +kernel
theorem dL_maps_465 : decode cL_maps 465 = .ok (.iconst 1, 1) := by decide +kernel
theorem dL_maps_466 : decode cL_maps 466 = .ok (.goto 4, 3) := by decide +kernel
theorem dL_maps_469 : decode cL_maps 469 = .ok (.iconst 0, 1) := by decide +kernel
theorem dL_maps_470 : decode cL_maps 470 = .ok (.ireturn, 1) := by decide +kernel
theorem dL_bands_0 : decode cL_bands 0 = .ok (.iconst 1, 1) := by decide +kernel
theorem dL_bands_1 : decode cL_bands 1 = .ok (.istore_n 2, 1) := by decide +kernel
theorem dL_bands_2 : decode cL_bands 2 = .ok (.iconst 0, 1) := by decide +kernel
theorem dL_bands_3 : decode cL_bands 3 = .ok (.istore_n 3, 1) := by decide +kernel
theorem dL_bands_4 : decode cL_bands 4 = .ok (.iconst 0, 1) := by decide +kernel
theorem dL_bands_5 : decode cL_bands 5 = .ok (.istore 4, 2) := by decide +kernel
theorem dL_bands_7 : decode cL_bands 7 = .ok (.iload 4, 2) := by decide +kernel
theorem dL_bands_9 : decode cL_bands 9 = .ok (.bipush 9, 2) := by decide +kernel
theorem dL_bands_11 : decode cL_bands 11 = .ok (.if_icmp .ge 148, 3) := by decide +kernel
theorem dL_bands_14 : decode cL_bands 14 = .ok (.aload_n 1, 1) := by decide +kernel
theorem dL_bands_15 : decode cL_bands 15 = .ok (.bipush 10, 2) := by decide +kernel
theorem dL_bands_17 : decode cL_bands 17 = .ok (.iload 4, 2) := by decide +kernel
theorem dL_bands_19 : decode cL_bands 19 = .ok (.imul, 1) := by decide +kernel
theorem dL_bands_20 : decode cL_bands 20 = .ok (.bipush 10, 2) := by decide +kernel
theorem dL_bands_22 : decode cL_bands 22 = .ok (.iload 4, 2) := by decide +kernel
