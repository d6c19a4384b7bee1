theorem dL_act_0 : decode cL_act 0 = .ok (.iload_n 1, 1) := by decide +kernel
theorem dL_act_1 : decode cL_act 1 = .ok (.bipush 9, 2) := by decide +kernel
theorem dL_act_3 : decode cL_act 3 = .ok (.invokestatic 40, 3) := by decide +kernel
theorem dL_act_6 : decode cL_act 6 = .ok (.istore 4, 2) := by decide +kernel
theorem dL_act_8 : decode cL_act 8 = .ok (.iload_n 1, 1) := by decide +kernel
theorem dL_act_9 : decode cL_act 9 = .ok (.iconst 5, 1) := by decide +kernel
theorem dL_act_10 : decode cL_act 10 = .ok (.ishr, 1) := by decide +kernel
theorem dL_act_11 : decode cL_act 11 = .ok (.istore 5, 2) := by decide +kernel
theorem dL_act_13 : decode cL_act 13 = .ok (.iload 5, 2) := by decide +kernel
theorem dL_act_15 : decode cL_act 15 = .ok (.bipush 6, 2) := by decide +kernel
theorem dL_act_17 : decode cL_act 17 = .ok (.invokestatic 40, 3) := by decide +kernel
theorem dL_act_20 : decode cL_act 20 = .ok (.istore 6, 2) := by decide +kernel
theorem dL_act_22 : decode cL_act 22 = .ok (.iload 4, 2) := by decide +kernel
theorem dL_act_24 : decode cL_act 24 = .ok (.iconst 2, 1) := by decide +kernel
theorem dL_act_25 : decode cL_act 25 = .ok (.if_icmp .ge 133, 3) := by decide +kernel
theorem dL_act_28 : decode cL_act 28 = .ok (.iload 6, 2) := by decide +kernel
theorem dL_act_30 : decode cL_act 30 = .ok (.iload_n 2, 1) := by decide +kernel
theorem dL_act_31 : decode cL_act 31 = .ok (.iconst 3, 1) := by decide +kernel
theorem dL_act_32 : decode cL_act 32 = .ok (.invokestatic 40, 3) := by decide +kernel
theorem dL_act_35 : decode cL_act 35 = .ok (.iadd, 1) := by decide +kernel
theorem dL_act_36 : decode cL_act 36 = .ok (.istore 7, 2) := by decide +kernel
theorem dL_act_38 : decode cL_act 38 = .ok (.aload_n 0, 1) := by decide +kernel
theorem dL_act_39 : decode cL_act 39 = .ok (.iload 6, 2) := by decide +kernel
theorem dL_act_41 : decode cL_act 41 = .ok (.invokevirtual 14, 3) := by decide +kernel
theorem dL_act_44 : decode cL_act 44 = .ok (.istore 8, 2) := by decide +kernel
theorem dL_act_46 : decode cL_act 46 = .ok (.iload 7, 2) := by decide +kernel
theorem dL_act_48 : decode cL_act 48 = .ok (.bipush 8, 2) := by decide +kernel
theorem dL_act_50 : decode cL_act 50 = .ok (.if_icmp .ge 26, 3) := by decide +kernel
theorem dL_act_53 : decode cL_act 53 = .ok (.aload_n 0, 1) := by decide +kernel
theorem dL_act_54 : decode cL_act 54 = .ok (.iload 6, 2) := by decide +kernel
theorem dL_act_56 : decode cL_act 56 = .ok (.invokevirtual 23, 3) := by decide +kernel
theorem dL_act_59 : decode cL_act 59 = .ok (.ifCond .ne 17, 3) := by decide +kernel
theorem dL_act_62 : decode cL_act 62 = .ok (.aload_n 0, 1) := by decide +kernel
theorem dL_act_63 : decode cL_act 63 = .ok (.iload 7, 2) := by decide +kernel
theorem dL_act_65 : decode cL_act 65 = .ok (.invokevirtual 27, 3) := by decide +kernel
theorem dL_act_68 : decode cL_act 68 = .ok (.iconst 3, 1) := by decide +kernel
theorem dL_act_69 : decode cL_act 69 = .ok (.if_icmp .ge 7, 3) := by decide +kernel
theorem dL_act_72 : decode cL_act 72 = .ok (.iconst 1, 1) := by decide +kernel
theorem dL_act_73 : decode cL_act 73 = .ok (.goto 4, 3) := by decide +kernel
theorem dL_act_76 : decode cL_act 76 = .ok (.iconst 0, 1) := by decide +kernel
theorem dL_act_77 : decode cL_act 77 = .ok (.istore 9, 2) := by decide +kernel
theorem dL_act_79 : decode cL_act 79 = .ok (.iconst 0, 1) := by decide +kernel
theorem dL_act_80 : decode cL_act 80 = .ok (.istore 10, 2) := by decide +kernel
theorem dL_act_82 : decode cL_act 82 = .ok (.iload 10, 2) := by decide +kernel
theorem dL_act_84 : decode cL_act 84 = .ok (.bipush 6, 2) := by decide +kernel
theorem dL_act_86 : decode cL_act 86 = .ok (.if_icmp .ge 37, 3) := by decide +kernel
theorem dL_act_89 : decode cL_act 89 = .ok (.iload 9, 2) := by decide +kernel
theorem dL_act_91 : decode cL_act 91 = .ok (.iload 10, 2) := by decide +kernel
theorem dL_act_93 : decode cL_act 93 = .ok (.iload 6, 2) := by decide +kernel
theorem dL_act_95 : decode cL_act 95 = .ok (.if_icmp .eq 14, 3) := by decide +kernel
theorem dL_act_98 : decode cL_act 98 = .ok (.aload_n 0, 1) := by decide +kernel
theorem dL_act_99 : decode cL_act 99 = .ok (.iload 10, 2) := by decide +kernel
theorem dL_act_101 : decode cL_act 101 = .ok (.invokevirtual 14, 3) := by decide +kernel
theorem dL_act_104 : decode cL_act 104 = .ok (.iload 7, 2) := by decide +kernel
theorem dL_act_106 : decode cL_act 106 = .ok (.if_icmp .eq 7, 3) := by decide +kernel
theorem dL_act_109 : decode cL_act 109 = .ok (.iconst 1, 1) := by decide +kernel
theorem dL_act_110 : decode cL_act 110 = .ok (.goto 4, 3) := by decide +kernel
theorem dL_act_113 : decode cL_act 113 = .ok (.iconst 0, 1) := by decide +kernel
theorem dL_act_114 : decode cL_act 114 = .ok (.iand, 1) := by decide +kernel
theorem dL_act_115 : decode cL_act 115 = .ok (.istore 9, 2) := by decide +kernel
theorem dL_act_117 : decode cL_act 117 = .ok (.iinc 10 1, 3) := by decide +kernel
theorem dL_act_120 : decode cL_act 120 = .ok (.goto (-38), 3) := by decide +kernel
theorem dL_act_123 : decode cL_act 123 = .ok (.iload 9, 2) := by decide +kernel
theorem dL_act_125 : decode cL_act 125 = .ok (.ifCond .eq 27, 3) := by decide +kernel
theorem dL_act_128 : decode cL_act 128 = .ok (.aload_n 0, 1) := by decide +kernel
theorem dL_act_129 : decode cL_act 129 = .ok (.iload 6, 2) := by decide +kernel
theorem dL_act_131 : decode cL_act 131 = .ok (.iload 7, 2) := by decide +kernel
theorem dL_act_133 : decode cL_act 133 = .ok (.invokevirtual 46, 3) := by decide +kernel
theorem dL_act_136 : decode cL_act 136 = .ok (.iload 8, 2) := by decide +kernel
theorem dL_act_138 : decode cL_act 138 = .ok (.if_icmp .ne 18, 3) := by decide +kernel
theorem dL_act_141 : decode cL_act 141 = .ok (.aload_n 0, 1) := by decide +kernel
theorem dL_act_142 : decode cL_act 142 = .ok (.iload 6, 2) := by decide +kernel
theorem dL_act_144 : decode cL_act 144 = .ok (.invokevirtual 14, 3) := by decide +kernel
theorem dL_act_147 : decode cL_act 147 = .ok (.iload 7, 2) := by decide +kernel
theorem dL_act_149 : decode cL_act 149 = .ok (.if_icmp .ne 7, 3) := by decide +kernel
theorem dL_act_152 : decode cL_act 152 = .ok (.iconst 1, 1) := by decide +kernel
theorem dL_act_153 : decode cL_act 153 = .ok (.goto 4, 3) := by decide +kernel
theorem dL_act_156 : decode cL_act 156 = .ok (.iconst 0, 1) := by decide +kernel
theorem dL_act_157 : decode cL_act 157 = .ok (.ireturn, 1) := by decide +kernel
theorem dL_act_158 : decode cL_act 158 = .ok (.iload 4, 2) := by decide +kernel
theorem dL_act_160 : decode cL_act 160 = .ok (.iconst 5, 1) := by decide +kernel
theorem dL_act_161 : decode cL_act 161 = .ok (.if_icmp .ge 122, 3) := by decide +kernel
theorem dL_act_164 : decode cL_act 164 = .ok (.aload_n 0, 1) := by decide +kernel
theorem dL_act_165 : decode cL_act 165 = .ok (.invokevirtual 30, 3) := by decide +kernel
theorem dL_act_168 : decode cL_act 168 = .ok (.istore 7, 2) := by decide +kernel
theorem dL_act_170 : decode cL_act 170 = .ok (.iload 6, 2) := by decide +kernel
theorem dL_act_172 : decode cL_act 172 = .ok (.iconst 1, 1) := by decide +kernel
theorem dL_act_173 : decode cL_act 173 = .ok (.iadd, 1) := by decide +kernel
theorem dL_act_174 : decode cL_act 174 = .ok (.iload 5, 2) := by decide +kernel
theorem dL_act_176 : decode cL_act 176 = .ok (.iconst 4, 1) := by decide +kernel
theorem dL_act_177 : decode cL_act 177 = .ok (.ishr, 1) := by decide +kernel
theorem dL_act_178 : decode cL_act 178 = .ok (.iconst 5, 1) := by decide +kernel
theorem dL_act_179 : decode cL_act 179 = .ok (.invokestatic 40, 3) := by decide +kernel
theorem dL_act_182 : decode cL_act 182 = .ok (.iadd, 1) := by decide +kernel
theorem dL_act_183 : decode cL_act 183 = .ok (.bipush 6, 2) := by decide +kernel
theorem dL_act_185 : decode cL_act 185 = .ok (.irem, 1) := by decide +kernel
theorem dL_act_186 : decode cL_act 186 = .ok (.istore 8, 2) := by decide +kernel
theorem dL_act_188 : decode cL_act 188 = .ok (.iload 7, 2) := by decide +kernel
theorem dL_act_190 : decode cL_act 190 = .ok (.ifCond .eq 11, 3) := by decide +kernel
theorem dL_act_193 : decode cL_act 193 = .ok (.iload_n 2, 1) := by decide +kernel
theorem dL_act_194 : decode cL_act 194 = .ok (.iconst 2, 1) := by decide +kernel
theorem dL_act_195 : decode cL_act 195 = .ok (.invokestatic 40, 3) := by decide +kernel
theorem dL_act_198 : decode cL_act 198 = .ok (.ifCond .ne 7, 3) := by decide +kernel
theorem dL_act_201 : decode cL_act 201 = .ok (.iconst (-1), 1) := by decide +kernel
theorem dL_act_202 : decode cL_act 202 = .ok (.goto 11, 3) := by decide +kernel
theorem dL_act_205 : decode cL_act 205 = .ok (.iload_n 2, 1) := by decide +kernel
theorem dL_act_206 : decode cL_act 206 = .ok (.iconst 3, 1) := by decide +kernel
theorem dL_act_207 : decode cL_act 207 = .ok (.ishr, 1) := by decide +kernel
theorem dL_act_208 : decode cL_act 208 = .ok (.iload 7, 2) := by decide +kernel
theorem dL_act_210 : decode cL_act 210 = .ok (.invokestatic 40, 3) := by decide +kernel
theorem dL_act_213 : decode cL_act 213 = .ok (.istore 9, 2) := by decide +kernel
theorem dL_act_215 : decode cL_act 215 = .ok (.iload 7, 2) := by decide +kernel
theorem dL_act_217 : decode cL_act 217 = .ok (.bipush 24, 2) := by decide +kernel
theorem dL_act_219 : decode cL_act 219 = .ok (.if_icmp .eq 18, 3) := by decide +kernel
theorem dL_act_222 : decode cL_act 222 = .ok (.iload 9, 2) := by decide +kernel
theorem dL_act_224 : decode cL_act 224 = .ok (.ifCond .lt 15, 3) := by decide +kernel
theorem dL_act_227 : decode cL_act 227 = .ok (.aload_n 0, 1) := by decide +kernel
theorem dL_act_228 : decode cL_act 228 = .ok (.iload 9, 2) := by decide +kernel
theorem dL_act_230 : decode cL_act 230 = .ok (.invokevirtual 34, 3) := by decide +kernel
theorem dL_act_233 : decode cL_act 233 = .ok (.iconst 2, 1) := by decide +kernel
theorem dL_act_234 : decode cL_act 234 = .ok (.if_icmp .ne 5, 3) := by decide +kernel
theorem dL_act_237 : decode cL_act 237 = .ok (.iconst 1, 1) := by decide +kernel
theorem dL_act_238 : decode cL_act 238 = .ok (.ireturn, 1) := by decide +kernel
theorem dL_act_239 : decode cL_act 239 = .ok (.aload_n 3, 1) := by decide +kernel
theorem dL_act_240 : decode cL_act 240 = .ok (.iload 7, 2) := by decide +kernel
theorem dL_act_242 : decode cL_act 242 = .ok (.iload 9, 2) := by decide +kernel
theorem dL_act_244 : decode cL_act 244 = .ok (.iastore, 1) := by decide +kernel
theorem dL_act_245 : decode cL_act 245 = .ok (.aload_n 0, 1) := by decide +kernel
theorem dL_act_246 : decode cL_act 246 = .ok (.iload_n 2, 1) := by decide +kernel
theorem dL_act_247 : decode cL_act 247 = .ok (.bipush 7, 2) := by decide +kernel
theorem dL_act_249 : decode cL_act 249 = .ok (.ishr, 1) := by decide +kernel
theorem dL_act_250 : decode cL_act 250 = .ok (.iconst 5, 1) := by decide +kernel
theorem dL_act_251 : decode cL_act 251 = .ok (.invokestatic 40, 3) := by decide +kernel
theorem dL_act_254 : decode cL_act 254 = .ok (.iload 6, 2) := by decide +kernel
theorem dL_act_256 : decode cL_act 256 = .ok (.iload 8, 2) := by decide +kernel
theorem dL_act_258 : decode cL_act 258 = .ok (.iload 9, 2) := by decide +kernel
theorem dL_act_260 : decode cL_act 260 = .ok (.invokevirtual 49, 3) := by decide +kernel
theorem dL_act_263 : decode cL_act 263 = .ok (.iload 7, 2) := by decide +kernel
theorem dL_act_265 : decode cL_act 265 = .ok (.if_icmp .ne 16, 3) := by decide +kernel
theorem dL_act_268 : decode cL_act 268 = .ok (.aload_n 0, 1) := by decide +kernel
theorem dL_act_269 : decode cL_act 269 = .ok (.iload 7, 2) := by decide +kernel
theorem dL_act_271 : decode cL_act 271 = .ok (.invokevirtual 34, 3) := by decide +kernel
theorem dL_act_274 : decode cL_act 274 = .ok (.ifCond .ne 7, 3) := by decide +kernel
theorem dL_act_277 : decode cL_act 277 = .ok (.iconst 1, 1) := by decide +kernel
theorem dL_act_278 : decode cL_act 278 = .ok (.goto 4, 3) := by decide +kernel
theorem dL_act_281 : decode cL_act 281 = .ok (.iconst 0, 1) := by decide +kernel
theorem dL_act_282 : decode cL_act 282 = .ok (.ireturn, 1) := by decide +kernel
theorem dL_act_283 : decode cL_act 283 = .ok (.iload 4, 2) := by decide +kernel
theorem dL_act_285 : decode cL_act 285 = .ok (.iconst 5, 1) := by decide +kernel
theorem dL_act_286 : decode cL_act 286 = .ok (.if_icmp .ne 24, 3) := by decide +kernel
theorem dL_act_289 : decode cL_act 289 = .ok (.aload_n 0, 1) := by decide +kernel
theorem dL_act_290 : decode cL_act 290 = .ok (.invokevirtual 53, 3) := by decide +kernel
theorem dL_act_293 : decode cL_act 293 = .ok (.ifCond .lt 15, 3) := by decide +kernel
theorem dL_act_296 : decode cL_act 296 = .ok (.aload_n 0, 1) := by decide +kernel
theorem dL_act_297 : decode cL_act 297 = .ok (.iconst 1, 1) := by decide +kernel
theorem dL_act_298 : decode cL_act 298 = .ok (.invokestatic 56, 3) := by decide +kernel
theorem dL_act_301 : decode cL_act 301 = .ok (.ifCond .lt 7, 3) := by decide +kernel
theorem dL_act_304 : decode cL_act 304 = .ok (.iconst 1, 1) := by decide +kernel
theorem dL_act_305 : decode cL_act 305 = .ok (.goto 4, 3) := by decide +kernel
theorem dL_act_308 : decode cL_act 308 = .ok (.iconst 0, 1) := by decide +kernel
theorem dL_act_309 : decode cL_act 309 = .ok (.ireturn, 1) := by decide +kernel
theorem dL_act_310 : decode cL_act 310 = .ok (.aload_n 0, 1) := by decide +kernel
theorem dL_act_311 : decode cL_act 311 = .ok (.invokevirtual 30, 3) := by decide +kernel
theorem dL_act_314 : decode cL_act 314 = .ok (.ifCond .ne 5, 3) := by decide +kernel
theorem dL_act_317 : decode cL_act 317 = .ok (.iconst 1, 1) := by decide +kernel
theorem dL_act_318 : decode cL_act 318 = .ok (.ireturn, 1) := by decide +kernel
theorem dL_act_319 : decode cL_act 319 = .ok (.iload_n 2, 1) := by decide +kernel
theorem dL_act_320 : decode cL_act 320 = .ok (.aload_n 0, 1) := by decide +kernel
theorem dL_act_321 : decode cL_act 321 = .ok (.invokevirtual 30, 3) := by decide +kernel
theorem dL_act_324 : decode cL_act 324 = .ok (.invokestatic 40, 3) := by decide +kernel
theorem dL_act_327 : decode cL_act 327 = .ok (.istore 7, 2) := by decide +kernel
theorem dL_act_329 : decode cL_act 329 = .ok (.iload 4, 2) := by decide +kernel
theorem dL_act_331 : decode cL_act 331 = .ok (.bipush 6, 2) := by decide +kernel
theorem dL_act_333 : decode cL_act 333 = .ok (.if_icmp .ne 52, 3) := by decide +kernel
theorem dL_act_336 : decode cL_act 336 = .ok (.aload_n 0, 1) := by decide +kernel
theorem dL_act_337 : decode cL_act 337 = .ok (.iconst 2, 1) := by decide +kernel
theorem dL_act_338 : decode cL_act 338 = .ok (.invokestatic 56, 3) := by decide +kernel
theorem dL_act_341 : decode cL_act 341 = .ok (.istore 8, 2) := by decide +kernel
theorem dL_act_343 : decode cL_act 343 = .ok (.aload_n 0, 1) := by decide +kernel
theorem dL_act_344 : decode cL_act 344 = .ok (.iload 7, 2) := by decide +kernel
theorem dL_act_346 : decode cL_act 346 = .ok (.invokevirtual 34, 3) := by decide +kernel
theorem dL_act_349 : decode cL_act 349 = .ok (.ifCond .ne 30, 3) := by decide +kernel
theorem dL_act_352 : decode cL_act 352 = .ok (.aload_n 0, 1) := by decide +kernel
theorem dL_act_353 : decode cL_act 353 = .ok (.iload 7, 2) := by decide +kernel
theorem dL_act_355 : decode cL_act 355 = .ok (.invokevirtual 60, 3) := by decide +kernel
theorem dL_act_358 : decode cL_act 358 = .ok (.aload_n 0, 1) := by decide +kernel
theorem dL_act_359 : decode cL_act 359 = .ok (.iconst 2, 1) := by decide +kernel
theorem dL_act_360 : decode cL_act 360 = .ok (.invokestatic 56, 3) := by decide +kernel
theorem dL_act_363 : decode cL_act 363 = .ok (.iload 8, 2) := by decide +kernel
theorem dL_act_365 : decode cL_act 365 = .ok (.isub, 1) := by decide +kernel
theorem dL_act_366 : decode cL_act 366 = .ok (.if_icmp .ne 17, 3) := by decide +kernel
theorem dL_act_369 : decode cL_act 369 = .ok (.aload_n 0, 1) := by decide +kernel
theorem dL_act_370 : decode cL_act 370 = .ok (.iload 7, 2) := by decide +kernel
theorem dL_act_372 : decode cL_act 372 = .ok (.invokevirtual 34, 3) := by decide +kernel
theorem dL_act_375 : decode cL_act 375 = .ok (.iconst 2, 1) := by decide +kernel
theorem dL_act_376 : decode cL_act 376 = .ok (.if_icmp .ne 7, 3) := by decide +kernel
theorem dL_act_379 : decode cL_act 379 = .ok (.iconst 1, 1) := by decide +kernel
theorem dL_act_380 : decode cL_act 380 = .ok (.goto 4, 3) := by decide +kernel
theorem dL_act_383 : decode cL_act 383 = .ok (.iconst 0, 1) := by decide +kernel
theorem dL_act_384 : decode cL_act 384 = .ok (.ireturn, 1) := by decide +kernel
theorem dL_act_385 : decode cL_act 385 = .ok (.iload 4, 2) := by decide +kernel
theorem dL_act_387 : decode cL_act 387 = .ok (.bipush 7, 2) := by decide +kernel
theorem dL_act_389 : decode cL_act 389 = .ok (.if_icmp .ne 60, 3) := by decide +kernel
theorem dL_act_392 : decode cL_act 392 = .ok (.aload_n 0, 1) := by decide +kernel
theorem dL_act_393 : decode cL_act 393 = .ok (.iconst 1, 1) := by decide +kernel
theorem dL_act_394 : decode cL_act 394 = .ok (.invokestatic 56, 3) := by decide +kernel
theorem dL_act_397 : decode cL_act 397 = .ok (.istore 8, 2) := by decide +kernel
theorem dL_act_399 : decode cL_act 399 = .ok (.aload_n 0, 1) := by decide +kernel
theorem dL_act_400 : decode cL_act 400 = .ok (.iload 7, 2) := by decide +kernel
theorem dL_act_402 : decode cL_act 402 = .ok (.invokevirtual 37, 3) := by decide +kernel
theorem dL_act_405 : decode cL_act 405 = .ok (.ifCond .eq 38, 3) := by decide +kernel
theorem dL_act_408 : decode cL_act 408 = .ok (.aload_n 0, 1) := by decide +kernel
theorem dL_act_409 : decode cL_act 409 = .ok (.iload 7, 2) := by decide +kernel
theorem dL_act_411 : decode cL_act 411 = .ok (.invokevirtual 63, 3) := by decide +kernel
theorem dL_act_414 : decode cL_act 414 = .ok (.iload 8, 2) := by decide +kernel
theorem dL_act_416 : decode cL_act 416 = .ok (.iconst 1, 1) := by decide +kernel
theorem dL_act_417 : decode cL_act 417 = .ok (.iadd, 1) := by decide +kernel
theorem dL_act_418 : decode cL_act 418 = .ok (.if_icmp .ne 29, 3) := by decide +kernel
theorem dL_act_421 : decode cL_act 421 = .ok (.aload_n 0, 1) := by decide +kernel
theorem dL_act_422 : decode cL_act 422 = .ok (.iload 7, 2) := by decide +kernel
theorem dL_act_424 : decode cL_act 424 = .ok (.invokevirtual 34, 3) := by decide +kernel
theorem dL_act_427 : decode cL_act 427 = .ok (.iconst 1, 1) := by decide +kernel
theorem dL_act_428 : decode cL_act 428 = .ok (.if_icmp .ne 19, 3) := by decide +kernel
theorem dL_act_431 : decode cL_act 431 = .ok (.aload_n 0, 1) := by decide +kernel
theorem dL_act_432 : decode cL_act 432 = .ok (.iconst 1, 1) := by decide +kernel
theorem dL_act_433 : decode cL_act 433 = .ok (.invokestatic 56, 3) := by decide +kernel
theorem dL_act_436 : decode cL_act 436 = .ok (.iload 8, 2) := by decide +kernel
theorem dL_act_438 : decode cL_act 438 = .ok (.iconst 1, 1) := by decide +kernel
theorem dL_act_439 : decode cL_act 439 = .ok (.iadd, 1) := by decide +kernel
theorem dL_act_440 : decode cL_act 440 = .ok (.if_icmp .ne 7, 3) := by decide +kernel
theorem dL_act_443 : decode cL_act 443 = .ok (.iconst 1, 1) := by decide +kernel
theorem dL_act_444 : decode cL_act 444 = .ok (.goto 4, 3) := by decide +kernel
theorem dL_act_447 : decode cL_act 447 = .ok (.iconst 0, 1) := by decide +kernel
theorem dL_act_448 : decode cL_act 448 = .ok (.ireturn, 1) := by decide +kernel
theorem dL_act_449 : decode cL_act 449 = .ok (.aload_n 0, 1) := by decide +kernel
theorem dL_act_450 : decode cL_act 450 = .ok (.iconst 1, 1) := by decide +kernel
theorem dL_act_451 : decode cL_act 451 = .ok (.invokestatic 56, 3) := by decide +kernel
theorem dL_act_454 : decode cL_act 454 = .ok (.istore 8, 2) := by decide +kernel
theorem dL_act_456 : decode cL_act 456 = .ok (.aload_n 0, 1) := by decide +kernel
theorem dL_act_457 : decode cL_act 457 = .ok (.iconst 2, 1) := by decide +kernel
theorem dL_act_458 : decode cL_act 458 = .ok (.invokestatic 56, 3) := by decide +kernel
theorem dL_act_461 : decode cL_act 461 = .ok (.istore 9, 2) := by decide +kernel
theorem dL_act_463 : decode cL_act 463 = .ok (.iload 8, 2) := by decide +kernel
theorem dL_act_465 : decode cL_act 465 = .ok (.iload 9, 2) := by decide +kernel
theorem dL_act_467 : decode cL_act 467 = .ok (.iadd, 1) := by decide +kernel
theorem dL_act_468 : decode cL_act 468 = .ok (.aload_n 0, 1) := by decide +kernel
theorem dL_act_469 : decode cL_act 469 = .ok (.invokevirtual 30, 3) := by decide +kernel
theorem dL_act_472 : decode cL_act 472 = .ok (.if_icmp .ge 5, 3) := by decide +kernel
theorem dL_act_475 : decode cL_act 475 = .ok (.iconst 1, 1) := by decide +kernel
theorem dL_act_476 : decode cL_act 476 = .ok (.ireturn, 1) := by decide +kernel
theorem dL_act_477 : decode cL_act 477 = .ok (.aload_n 0, 1) := by decide +kernel
theorem dL_act_478 : decode cL_act 478 = .ok (.invokevirtual 66, 3) := by decide +kernel
theorem dL_act_481 : decode cL_act 481 = .ok (.iload 8, 2) := by decide +kernel
theorem dL_act_483 : decode cL_act 483 = .ok (.iadd, 1) := by decide +kernel
theorem dL_act_484 : decode cL_act 484 = .ok (.iload 9, 2) := by decide +kernel
theorem dL_act_486 : decode cL_act 486 = .ok (.isub, 1) := by decide +kernel
theorem dL_act_487 : decode cL_act 487 = .ok (.istore 10, 2) := by decide +kernel
theorem dL_act_489 : decode cL_act 489 = .ok (.aload_n 0, 1) := by decide +kernel
theorem dL_act_490 : decode cL_act 490 = .ok (.invokevirtual 69, 3) := by decide +kernel
theorem dL_act_493 : decode cL_act 493 = .ok (.istore 11, 2) := by decide +kernel
theorem dL_act_495 : decode cL_act 495 = .ok (.aload_n 0, 1) := by decide +kernel
theorem dL_act_496 : decode cL_act 496 = .ok (.invokevirtual 72, 3) := by decide +kernel
theorem dL_act_499 : decode cL_act 499 = .ok (.iload 10, 2) := by decide +kernel
theorem dL_act_501 : decode cL_act 501 = .ok (.ifCond .ge 7, 3) := by decide +kernel
theorem dL_act_504 : decode cL_act 504 = .ok (.iconst 0, 1) := by decide +kernel
theorem dL_act_505 : decode cL_act 505 = .ok (.goto 5, 3) := by decide +kernel
theorem dL_act_508 : decode cL_act 508 = .ok (.iload 10, 2) := by decide +kernel
theorem dL_act_510 : decode cL_act 510 = .ok (.if_icmp .ne 25, 3) := by decide +kernel
theorem dL_act_513 : decode cL_act 513 = .ok (.aload_n 0, 1) := by decide +kernel
theorem dL_act_514 : decode cL_act 514 = .ok (.invokevirtual 69, 3) := by decide +kernel
theorem dL_act_517 : decode cL_act 517 = .ok (.iload 11, 2) := by decide +kernel
theorem dL_act_519 : decode cL_act 519 = .ok (.iconst 1, 1) := by decide +kernel
theorem dL_act_520 : decode cL_act 520 = .ok (.iadd, 1) := by decide +kernel
theorem dL_act_521 : decode cL_act 521 = .ok (.if_icmp .ne 14, 3) := by decide +kernel
theorem dL_act_524 : decode cL_act 524 = .ok (.aload_n 0, 1) := by decide +kernel
theorem dL_act_525 : decode cL_act 525 = .ok (.invokevirtual 30, 3) := by decide +kernel
theorem dL_act_528 : decode cL_act 528 = .ok (.ifCond .ne 7, 3) := by decide +kernel
theorem dL_act_531 : decode cL_act 531 = .ok (.iconst 1, 1) := by decide +kernel
theorem dL_act_532 : decode cL_act 532 = .ok (.goto 4, 3) := by decide +kernel
theorem dL_act_535 : decode cL_act 535 = .ok (.iconst 0, 1) := by decide +kernel
theorem dL_act_536 : decode cL_act 536 = .ok (.ireturn, 1) := by decide +kernel
set_option maxRecDepth 20000 in
theorem ggL_guessed_X0_isOn : GoodIn wsL_guessed wsX0_isOn := goodIn_ca (goodIn_r _ [5, 6, 7, 8, 4, 9, 10, 11, 12, 13, 14, 47, 48, 49, 50, 51, 52, 53, 54, 55, 56, 57, 58, 59, 60, 61, 62, 63] (by decide +kernel) (by decide +kernel)) (goodIn_sub (fun _ h => List.mem_cons_of_mem _ (List.mem_append_left _ (List.mem_append_right _ h))) (by decide +kernel))
set_option maxRecDepth 20000 in
theorem gL_guessed_X0_isOn : GoodIn wsL_guessed (wsV RL 23 RX0 yX0_isOn wsX0_isOn) := goodIn_app (goodIn_of _ (by decide +kernel)) ggL_guessed_X0_isOn
set_option maxRecDepth 20000 in
theorem ggL_guessed_X0_maskOf : GoodIn wsL_guessed wsX0_maskOf := goodIn_ca (goodIn_r _ [18, 19, 7, 8, 4, 9, 10, 11, 12, 13, 14, 47, 48, 49, 50, 51, 52, 53, 54, 55, 56, 57, 58, 59, 60, 61, 62, 63] (by decide +kernel) (by decide +kernel)) (goodIn_sub (fun _ h => List.mem_cons_of_mem _ (List.mem_append_left _ (List.mem_append_right _ h))) (by decide +kernel))
set_option maxRecDepth 20000 in
theorem gL_guessed_X0_maskOf : GoodIn wsL_guessed (wsV RL 8 RX0 yX0_maskOf wsX0_maskOf) := goodIn_app (goodIn_of _ (by decide +kernel)) ggL_guessed_X0_maskOf
set_option maxRecDepth 20000 in
theorem ggL_guessed_L_at : GoodIn wsL_guessed wsL_at := goodIn_r _ [23] (by decide +kernel) (by decide +kernel)
set_option maxRecDepth 20000 in
theorem gL_guessed_L_at : GoodIn wsL_guessed (va_wsS RL 40 yL_at wsL_at) := goodIn_app (goodIn_of _ (by decide +kernel)) ggL_guessed_L_at
set_option maxRecDepth 20000 in
theorem ggL_guessed_X0_points : GoodIn wsL_guessed wsX0_points := goodIn_ca (goodIn_r _ [27, 28, 29, 30, 4, 31, 10, 11, 12, 13, 14, 47, 48, 49, 50, 51, 52, 53, 54, 55, 56, 57, 58, 59, 60, 61, 62, 63] (by decide +kernel) (by decide +kernel)) (goodIn_sub (fun _ h => List.mem_cons_of_mem _ (List.mem_append_left _ (List.mem_append_right _ h))) (by decide +kernel))
set_option maxRecDepth 20000 in
theorem gL_guessed_X0_points : GoodIn wsL_guessed (wsV RL 75 RX0 yX0_points wsX0_points) := goodIn_app (goodIn_of _ (by decide +kernel)) ggL_guessed_X0_points
set_option maxRecDepth 20000 in
theorem ggL_guessed_X0_plays : GoodIn wsL_guessed wsX0_plays := goodIn_r _ [35, 36, 47, 48, 49, 50, 51, 52, 53, 54, 55, 56, 57, 58, 59, 60, 61, 62, 63] (by decide +kernel) (by decide +kernel)
set_option maxRecDepth 20000 in
theorem gL_guessed_X0_plays : GoodIn wsL_guessed (wsV RL 69 RX0 yX0_plays wsX0_plays) := goodIn_app (goodIn_of _ (by decide +kernel)) ggL_guessed_X0_plays
set_option maxRecDepth 20000 in
theorem ggL_guessed_X0_guess : GoodIn wsL_guessed wsX0_guess := goodIn_ca (goodIn_ca (goodIn_r _ [40, 41, 42, 6, 19, 43, 28, 29, 30, 4, 31, 10, 11, 12, 13, 14, 7, 8, 9, 44, 45, 46, 47, 48, 49, 50, 51, 52, 53, 54, 55, 56, 57, 58, 59, 60, 61, 62, 63] (by decide +kernel) (by decide +kernel)) (goodIn_sub (fun _ h => List.mem_cons_of_mem _ (List.mem_append_right _ h)) (by decide +kernel))) (goodIn_sub (fun _ h => List.mem_cons_of_mem _ (List.mem_append_left _ (List.mem_append_right _ h))) (by decide +kernel))
set_option maxRecDepth 20000 in
theorem gL_guessed_X0_guess : GoodIn wsL_guessed (wsV RL 78 RX0 yX0_guess wsX0_guess) := goodIn_app (goodIn_of _ (by decide +kernel)) ggL_guessed_X0_guess
theorem dL_guessed_0 : decode cL_guessed 0 = .ok (.iconst 0, 1) := by decide +kernel
theorem dL_guessed_1 : decode cL_guessed 1 = .ok (.istore_n 3, 1) := by decide +kernel
theorem dL_guessed_2 : decode cL_guessed 2 = .ok (.iload_n 3, 1) := by decide +kernel
theorem dL_guessed_3 : decode cL_guessed 3 = .ok (.bipush 6, 2) := by decide +kernel
theorem dL_guessed_5 : decode cL_guessed 5 = .ok (.if_icmp .ge 155, 3) := by decide +kernel
theorem dL_guessed_8 : decode cL_guessed 8 = .ok (.aload_n 0, 1) := by decide +kernel
theorem dL_guessed_9 : decode cL_guessed 9 = .ok (.iload_n 3, 1) := by decide +kernel
theorem dL_guessed_10 : decode cL_guessed 10 = .ok (.invokevirtual 23, 3) := by decide +kernel
theorem dL_guessed_13 : decode cL_guessed 13 = .ok (.ifCond .eq 141, 3) := by decide +kernel
theorem dL_guessed_16 : decode cL_guessed 16 = .ok (.aload_n 0, 1) := by decide +kernel
theorem dL_guessed_17 : decode cL_guessed 17 = .ok (.iload_n 3, 1) := by decide +kernel
theorem dL_guessed_18 : decode cL_guessed 18 = .ok (.invokevirtual 8, 3) := by decide +kernel
theorem dL_guessed_21 : decode cL_guessed 21 = .ok (.ifCond .lt 133, 3) := by decide +kernel
theorem dL_guessed_24 : decode cL_guessed 24 = .ok (.iload_n 1, 1) := by decide +kernel
theorem dL_guessed_25 : decode cL_guessed 25 = .ok (.iload_n 3, 1) := by decide +kernel
theorem dL_guessed_26 : decode cL_guessed 26 = .ok (.ishr, 1) := by decide +kernel
theorem dL_guessed_27 : decode cL_guessed 27 = .ok (.bipush 24, 2) := by decide +kernel
theorem dL_guessed_29 : decode cL_guessed 29 = .ok (.invokestatic 40, 3) := by decide +kernel
theorem dL_guessed_32 : decode cL_guessed 32 = .ok (.ifCond .eq 6, 3) := by decide +kernel
theorem dL_guessed_35 : decode cL_guessed 35 = .ok (.goto 119, 3) := by decide +kernel
theorem dL_guessed_38 : decode cL_guessed 38 = .ok (.aload_n 0, 1) := by decide +kernel
theorem dL_guessed_39 : decode cL_guessed 39 = .ok (.iconst 0, 1) := by decide +kernel
theorem dL_guessed_40 : decode cL_guessed 40 = .ok (.invokevirtual 75, 3) := by decide +kernel
theorem dL_guessed_43 : decode cL_guessed 43 = .ok (.aload_n 0, 1) := by decide +kernel
theorem dL_guessed_44 : decode cL_guessed 44 = .ok (.iconst 1, 1) := by decide +kernel
theorem dL_guessed_45 : decode cL_guessed 45 = .ok (.invokevirtual 75, 3) := by decide +kernel
theorem dL_guessed_48 : decode cL_guessed 48 = .ok (.iadd, 1) := by decide +kernel
theorem dL_guessed_49 : decode cL_guessed 49 = .ok (.aload_n 0, 1) := by decide +kernel
theorem dL_guessed_50 : decode cL_guessed 50 = .ok (.iconst 2, 1) := by decide +kernel
theorem dL_guessed_51 : decode cL_guessed 51 = .ok (.invokevirtual 75, 3) := by decide +kernel
theorem dL_guessed_54 : decode cL_guessed 54 = .ok (.iadd, 1) := by decide +kernel
theorem dL_guessed_55 : decode cL_guessed 55 = .ok (.istore 4, 2) := by decide +kernel
theorem dL_guessed_57 : decode cL_guessed 57 = .ok (.iload_n 2, 1) := by decide +kernel
theorem dL_guessed_58 : decode cL_guessed 58 = .ok (.iload_n 3, 1) := by decide +kernel
theorem dL_guessed_59 : decode cL_guessed 59 = .ok (.ishr, 1) := by decide +kernel
theorem dL_guessed_60 : decode cL_guessed 60 = .ok (.bipush 6, 2) := by decide +kernel
theorem dL_guessed_62 : decode cL_guessed 62 = .ok (.invokestatic 40, 3) := by decide +kernel
theorem dL_guessed_65 : decode cL_guessed 65 = .ok (.istore 5, 2) := by decide +kernel
theorem dL_guessed_67 : decode cL_guessed 67 = .ok (.aload_n 0, 1) := by decide +kernel
theorem dL_guessed_68 : decode cL_guessed 68 = .ok (.invokevirtual 69, 3) := by decide +kernel
theorem dL_guessed_71 : decode cL_guessed 71 = .ok (.ifCond .gt 8, 3) := by decide +kernel
theorem dL_guessed_74 : decode cL_guessed 74 = .ok (.iload 4, 2) := by decide +kernel
theorem dL_guessed_76 : decode cL_guessed 76 = .ok (.ifCond .le 5, 3) := by decide +kernel
theorem dL_guessed_79 : decode cL_guessed 79 = .ok (.iconst 1, 1) := by decide +kernel
theorem dL_guessed_80 : decode cL_guessed 80 = .ok (.ireturn, 1) := by decide +kernel
theorem dL_guessed_81 : decode cL_guessed 81 = .ok (.aload_n 0, 1) := by decide +kernel
theorem dL_guessed_82 : decode cL_guessed 82 = .ok (.iload_n 2, 1) := by decide +kernel
theorem dL_guessed_83 : decode cL_guessed 83 = .ok (.iconst 3, 1) := by decide +kernel
theorem dL_guessed_84 : decode cL_guessed 84 = .ok (.invokestatic 40, 3) := by decide +kernel
theorem dL_guessed_87 : decode cL_guessed 87 = .ok (.iload_n 3, 1) := by decide +kernel
theorem dL_guessed_88 : decode cL_guessed 88 = .ok (.iload 5, 2) := by decide +kernel
theorem dL_guessed_90 : decode cL_guessed 90 = .ok (.invokevirtual 78, 3) := by decide +kernel
theorem dL_guessed_93 : decode cL_guessed 93 = .ok (.istore 6, 2) := by decide +kernel
theorem dL_guessed_95 : decode cL_guessed 95 = .ok (.iload 6, 2) := by decide +kernel
theorem dL_guessed_97 : decode cL_guessed 97 = .ok (.iload 5, 2) := by decide +kernel
theorem dL_guessed_99 : decode cL_guessed 99 = .ok (.aload_n 0, 1) := by decide +kernel
theorem dL_guessed_100 : decode cL_guessed 100 = .ok (.iload_n 3, 1) := by decide +kernel
theorem dL_guessed_101 : decode cL_guessed 101 = .ok (.invokevirtual 8, 3) := by decide +kernel
theorem dL_guessed_104 : decode cL_guessed 104 = .ok (.if_icmp .ne 7, 3) := by decide +kernel
theorem dL_guessed_107 : decode cL_guessed 107 = .ok (.iconst 1, 1) := by decide +kernel
theorem dL_guessed_108 : decode cL_guessed 108 = .ok (.goto 4, 3) := by decide +kernel
theorem dL_guessed_111 : decode cL_guessed 111 = .ok (.iconst 0, 1) := by decide +kernel
theorem dL_guessed_112 : decode cL_guessed 112 = .ok (.if_icmp .ne 40, 3) := by decide +kernel
theorem dL_guessed_115 : decode cL_guessed 115 = .ok (.aload_n 0, 1) := by decide +kernel
theorem dL_guessed_116 : decode cL_guessed 116 = .ok (.iconst 0, 1) := by decide +kernel
theorem dL_guessed_117 : decode cL_guessed 117 = .ok (.invokevirtual 75, 3) := by decide +kernel
theorem dL_guessed_120 : decode cL_guessed 120 = .ok (.aload_n 0, 1) := by decide +kernel
theorem dL_guessed_121 : decode cL_guessed 121 = .ok (.iconst 1, 1) := by decide +kernel
theorem dL_guessed_122 : decode cL_guessed 122 = .ok (.invokevirtual 75, 3) := by decide +kernel
theorem dL_guessed_125 : decode cL_guessed 125 = .ok (.iadd, 1) := by decide +kernel
theorem dL_guessed_126 : decode cL_guessed 126 = .ok (.aload_n 0, 1) := by decide +kernel
theorem dL_guessed_127 : decode cL_guessed 127 = .ok (.iconst 2, 1) := by decide +kernel
theorem dL_guessed_128 : decode cL_guessed 128 = .ok (.invokevirtual 75, 3) := by decide +kernel
theorem dL_guessed_131 : decode cL_guessed 131 = .ok (.iadd, 1) := by decide +kernel
theorem dL_guessed_132 : decode cL_guessed 132 = .ok (.iload 4, 2) := by decide +kernel
theorem dL_guessed_134 : decode cL_guessed 134 = .ok (.iload 6, 2) := by decide +kernel
theorem dL_guessed_136 : decode cL_guessed 136 = .ok (.ifCond .eq 7, 3) := by decide +kernel
theorem dL_guessed_139 : decode cL_guessed 139 = .ok (.iconst 3, 1) := by decide +kernel
theorem dL_guessed_140 : decode cL_guessed 140 = .ok (.goto 4, 3) := by decide +kernel
theorem dL_guessed_143 : decode cL_guessed 143 = .ok (.iconst (-1), 1) := by decide +kernel
theorem dL_guessed_144 : decode cL_guessed 144 = .ok (.iadd, 1) := by decide +kernel
theorem dL_guessed_145 : decode cL_guessed 145 = .ok (.if_icmp .ne 7, 3) := by decide +kernel
theorem dL_guessed_148 : decode cL_guessed 148 = .ok (.iconst 1, 1) := by decide +kernel
theorem dL_guessed_149 : decode cL_guessed 149 = .ok (.goto 4, 3) := by decide +kernel
theorem dL_guessed_152 : decode cL_guessed 152 = .ok (.iconst 0, 1) := by decide +kernel
theorem dL_guessed_153 : decode cL_guessed 153 = .ok (.ireturn, 1) := by decide +kernel
theorem dL_guessed_154 : decode cL_guessed 154 = .ok (.iinc 3 1, 3) := by decide +kernel
theorem dL_guessed_157 : decode cL_guessed 157 = .ok (.goto (-155), 3) := by decide +kernel
theorem dL_guessed_160 : decode cL_guessed 160 = .ok (.iconst 1, 1) := by decide +kernel
theorem dL_guessed_161 : decode cL_guessed 161 = .ok (.ireturn, 1) := by decide +kernel
set_option maxRecDepth 20000 in
theorem ggL_law_X0_init : GoodIn wsL_law wsX0_init := goodIn_r _ [7, 8, 9, 10, 3, 11, 12, 13, 14, 15, 16, 17, 18, 19, 20, 21, 22, 23, 24, 25, 26, 27, 28, 29, 233, 234, 235, 236, 237, 238, 239, 240, 241, 242, 243, 244, 245, 246, 247, 248, 249] (by decide +kernel) (by decide +kernel)
set_option maxRecDepth 20000 in
theorem gL_law_X0_init : GoodIn wsL_law (wsX0_init) := ggL_law_X0_init
set_option maxRecDepth 20000 in
theorem ggL_law_L_cell : GoodIn wsL_law wsL_cell := goodIn_r _ [33, 34] (by decide +kernel) (by decide +kernel)
set_option maxRecDepth 20000 in
theorem gL_law_L_cell : GoodIn wsL_law (va_wsS RL 83 yL_cell wsL_cell) := goodIn_app (goodIn_of _ (by decide +kernel)) ggL_law_L_cell
set_option maxRecDepth 20000 in
theorem gi_cons_act {big a : List Cond} {c : Cond} (hc : GoodIn big [c]) (ha : GoodIn big a) : GoodIn big (c :: a) := goodIn_app (a := [c]) hc ha
theorem gi_act_c : GoodIn wsL_law [.code yL_act cL_act 12 (some .boolean)] := goodIn_r _ [37] (by decide +kernel) (by decide +kernel)
theorem gi_act_r1 : GoodIn wsL_law wsL_act_r1 := goodIn_r _ [38, 39, 32, 40, 41, 42, 43, 2, 44, 11, 45, 46, 47, 48, 49, 50, 51, 52, 53, 54, 55, 56, 14, 57] (by decide +kernel) (by decide +kernel)
theorem gi_act_r2 : GoodIn wsL_law wsL_act_r2 := goodIn_r _ [58, 59, 60, 15, 61, 62, 63, 64, 65, 66, 67, 68, 69, 70, 71, 72, 73, 74, 75, 76, 77, 78, 79, 80] (by decide +kernel) (by decide +kernel)
theorem gi_act_r3 : GoodIn wsL_law wsL_act_r3 := goodIn_r _ [81, 82, 83, 84, 85, 86, 87, 88, 89, 90, 91, 92, 93, 94, 20, 95, 96, 97, 98, 99, 100, 101, 102, 16] (by decide +kernel) (by decide +kernel)
theorem gi_act_r4 : GoodIn wsL_law wsL_act_r4 := goodIn_r _ [17, 18, 19, 103, 104, 105, 106, 107, 108, 109, 110, 111, 112, 113, 114, 115, 116, 117, 118, 119, 120, 121, 122, 123] (by decide +kernel) (by decide +kernel)
theorem gi_act_r5 : GoodIn wsL_law wsL_act_r5 := goodIn_r _ [124, 125, 126, 127, 128, 129, 12, 130, 131, 132, 133, 134, 135, 136, 137, 138, 139, 140, 141, 142, 143, 144, 145, 146] (by decide +kernel) (by decide +kernel)
theorem gi_act_r6 : GoodIn wsL_law wsL_act_r6 := goodIn_r _ [147, 148, 149, 150, 151, 152, 153, 21, 154, 155, 156, 157, 158, 159, 160, 161, 162, 163, 164, 165, 166, 167, 168, 169] (by decide +kernel) (by decide +kernel)
theorem gi_act_r7 : GoodIn wsL_law wsL_act_r7 := goodIn_r _ [170, 171, 172, 173, 174, 175, 176, 24, 177, 178, 179, 180, 181, 182, 183, 184, 185, 186, 187, 188, 189, 190, 191, 192] (by decide +kernel) (by decide +kernel)
theorem gi_act_r8 : GoodIn wsL_law wsL_act_r8 := goodIn_r _ [193, 194, 195, 196, 197, 198, 199, 200, 23] (by decide +kernel) (by decide +kernel)
theorem gi_act_x : GoodIn wsL_law wsX00 := goodIn_r _ [233, 234, 235, 236, 237, 238, 239, 240, 241, 242, 243, 244, 245, 246, 247, 248, 249] (by decide +kernel) (by decide +kernel)
theorem ggL_law_L_act : GoodIn wsL_law wsL_act := goodIn_ca (goodIn_ca (goodIn_ca (gi_cons_act gi_act_c (goodIn_app (goodIn_app gi_act_r1 (goodIn_app gi_act_r2 (goodIn_app gi_act_r3 (goodIn_app gi_act_r4 (goodIn_app gi_act_r5 (goodIn_app gi_act_r6 (goodIn_app gi_act_r7 (gi_act_r8)))))))) gi_act_x)) (goodIn_sub (fun _ h => List.mem_append_left _ (List.mem_append_left _ (List.mem_append_right _ h))) (by decide +kernel))) (goodIn_sub (fun _ h => List.mem_append_left _ (List.mem_append_right _ h)) (by decide +kernel))) (goodIn_sub (fun _ h => List.mem_append_right _ h) (by decide +kernel))
set_option maxRecDepth 20000 in
theorem gL_law_L_act : GoodIn wsL_law (va_wsS RL 88 yL_act wsL_act) := goodIn_app (goodIn_of _ (by decide +kernel)) ggL_law_L_act
set_option maxRecDepth 20000 in
theorem ggL_law_X0_points : GoodIn wsL_law wsX0_points := goodIn_ca (goodIn_r _ [204, 22, 205, 206, 2, 207, 48, 49, 50, 51, 52, 233, 234, 235, 236, 237, 238, 239, 240, 241, 242, 243, 244, 245, 246, 247, 248, 249] (by decide +kernel) (by decide +kernel)) (goodIn_sub (fun _ h => List.mem_append_left _ (List.mem_append_left _ (List.mem_append_right _ h))) (by decide +kernel))
set_option maxRecDepth 20000 in
theorem gL_law_X0_points : GoodIn wsL_law (wsV RL 75 RX0 yX0_points wsX0_points) := goodIn_app (goodIn_of _ (by decide +kernel)) ggL_law_X0_points
set_option maxRecDepth 20000 in
theorem ggL_law_L_guessed : GoodIn wsL_law wsL_guessed := goodIn_ca (goodIn_ca (goodIn_r _ [210, 53, 54, 55, 2, 56, 14, 45, 46, 47, 48, 49, 50, 51, 52, 211, 212, 213, 214, 12, 38, 39, 32, 40, 201, 202, 203, 204, 22, 205, 206, 207, 177, 178, 179, 180, 181, 215, 216, 217, 218, 70, 71, 23, 106, 107, 108, 233, 234, 235, 236, 237, 238, 239, 240, 241, 242, 243, 244, 245, 246, 247, 248, 249] (by decide +kernel) (by decide +kernel)) (goodIn_sub (fun _ h => List.mem_append_left _ (List.mem_append_left _ (List.mem_append_right _ h))) (by decide +kernel))) (goodIn_sub (fun _ h => List.mem_append_right _ h) (by decide +kernel))
set_option maxRecDepth 20000 in
theorem gL_law_L_guessed : GoodIn wsL_law (va_wsS RL 92 yL_guessed wsL_guessed) := goodIn_app (goodIn_of _ (by decide +kernel)) ggL_law_L_guessed
set_option maxRecDepth 20000 in
theorem ggL_law_L_sound : GoodIn wsL_law wsL_sound := goodIn_ca (goodIn_r _ [221, 211, 212, 213, 2, 214, 12, 45, 46, 47, 48, 49, 50, 51, 52, 41, 42, 43, 44, 11, 222, 223, 224, 225, 25, 113, 21, 26, 27, 28, 29, 146, 147, 148, 149, 17, 18, 16, 226, 227, 228, 229, 106, 107, 108, 130, 131, 132, 133, 83, 84, 85, 53, 54, 55, 56, 14, 57, 58, 59, 60, 15, 61, 62, 63, 233, 234, 235, 236, 237, 238, 239, 240, 241, 242, 243, 244, 245, 246, 247, 248, 249] (by decide +kernel) (by decide +kernel)) (goodIn_sub (fun _ h => List.mem_append_left _ (List.mem_append_left _ (List.mem_append_right _ h))) (by decide +kernel))
set_option maxRecDepth 20000 in
theorem gL_law_L_sound : GoodIn wsL_law (va_wsS RL 96 yL_sound wsL_sound) := goodIn_app (goodIn_of _ (by decide +kernel)) ggL_law_L_sound
set_option maxRecDepth 20000 in
theorem ggL_law_L_chained : GoodIn wsL_law wsL_chained := goodIn_ca (goodIn_r _ [232, 86, 87, 88, 2, 89, 90, 91, 92, 93, 94, 20, 95, 96, 97, 98, 48, 49, 50, 51, 52, 165, 166, 167, 168, 118, 119, 120, 121, 122, 123, 124, 125, 19, 126, 127, 128, 129, 17, 18, 16, 14, 11, 12, 130, 131, 132, 133, 83, 84, 85, 134, 135, 136, 137, 233, 234, 235, 236, 237, 238, 239, 240, 241, 242, 243, 244, 245, 246, 247, 248, 249] (by decide +kernel) (by decide +kernel)) (goodIn_sub (fun _ h => List.mem_append_left _ (List.mem_append_left _ (List.mem_append_right _ h))) (by decide +kernel))
set_option maxRecDepth 20000 in
theorem gL_law_L_chained : GoodIn wsL_law (va_wsS RL 100 yL_chained wsL_chained) := goodIn_app (goodIn_of _ (by decide +kernel)) ggL_law_L_chained
theorem dL_law_0 : decode cL_law 0 = .ok (.new 9, 3) := by decide +kernel
theorem dL_law_3 : decode cL_law 3 = .ok (.dup, 1) := by decide +kernel
theorem dL_law_4 : decode cL_law 4 = .ok (.invokespecial 82, 3) := by decide +kernel
theorem dL_law_7 : decode cL_law 7 = .ok (.astore_n 1, 1) := by decide +kernel
theorem dL_law_8 : decode cL_law 8 = .ok (.bipush 24, 2) := by decide +kernel
theorem dL_law_10 : decode cL_law 10 = .ok (.newarray .int, 2) := by decide +kernel
theorem dL_law_12 : decode cL_law 12 = .ok (.astore_n 2, 1) := by decide +kernel
theorem dL_law_13 : decode cL_law 13 = .ok (.iconst 1, 1) := by decide +kernel
theorem dL_law_14 : decode cL_law 14 = .ok (.istore_n 3, 1) := by decide +kernel
theorem dL_law_15 : decode cL_law 15 = .ok (.iconst 0, 1) := by decide +kernel
theorem dL_law_16 : decode cL_law 16 = .ok (.istore 4, 2) := by decide +kernel
theorem dL_law_18 : decode cL_law 18 = .ok (.iload 4, 2) := by decide +kernel
theorem dL_law_20 : decode cL_law 20 = .ok (.bipush 60, 2) := by decide +kernel
theorem dL_law_22 : decode cL_law 22 = .ok (.if_icmp .ge 146, 3) := by decide +kernel
theorem dL_law_25 : decode cL_law 25 = .ok (.aload_n 0, 1) := by decide +kernel
theorem dL_law_26 : decode cL_law 26 = .ok (.iconst 2, 1) := by decide +kernel
theorem dL_law_27 : decode cL_law 27 = .ok (.iload 4, 2) := by decide +kernel
theorem dL_law_29 : decode cL_law 29 = .ok (.imul, 1) := by decide +kernel
theorem dL_law_30 : decode cL_law 30 = .ok (.invokestatic 83, 3) := by decide +kernel
theorem dL_law_33 : decode cL_law 33 = .ok (.ldc 87, 2) := by decide +kernel
theorem dL_law_35 : decode cL_law 35 = .ok (.iand, 1) := by decide +kernel
theorem dL_law_36 : decode cL_law 36 = .ok (.istore 5, 2) := by decide +kernel
theorem dL_law_38 : decode cL_law 38 = .ok (.aload_n 0, 1) := by decide +kernel
theorem dL_law_39 : decode cL_law 39 = .ok (.iconst 2, 1) := by decide +kernel
theorem dL_law_40 : decode cL_law 40 = .ok (.iload 4, 2) := by decide +kernel
theorem dL_law_42 : decode cL_law 42 = .ok (.imul, 1) := by decide +kernel
theorem dL_law_43 : decode cL_law 43 = .ok (.iconst 1, 1) := by decide +kernel
theorem dL_law_44 : decode cL_law 44 = .ok (.iadd, 1) := by decide +kernel
theorem dL_law_45 : decode cL_law 45 = .ok (.invokestatic 83, 3) := by decide +kernel
theorem dL_law_48 : decode cL_law 48 = .ok (.ldc 87, 2) := by decide +kernel
theorem dL_law_50 : decode cL_law 50 = .ok (.iand, 1) := by decide +kernel
theorem dL_law_51 : decode cL_law 51 = .ok (.istore 6, 2) := by decide +kernel
theorem dL_law_53 : decode cL_law 53 = .ok (.aload_n 1, 1) := by decide +kernel
theorem dL_law_54 : decode cL_law 54 = .ok (.iload 5, 2) := by decide +kernel
theorem dL_law_56 : decode cL_law 56 = .ok (.iload 6, 2) := by decide +kernel
theorem dL_law_58 : decode cL_law 58 = .ok (.aload_n 2, 1) := by decide +kernel
theorem dL_law_59 : decode cL_law 59 = .ok (.invokestatic 88, 3) := by decide +kernel
theorem dL_law_62 : decode cL_law 62 = .ok (.ifCond .ne 5, 3) := by decide +kernel
theorem dL_law_65 : decode cL_law 65 = .ok (.iconst 0, 1) := by decide +kernel
theorem dL_law_66 : decode cL_law 66 = .ok (.ireturn, 1) := by decide +kernel
theorem dL_law_67 : decode cL_law 67 = .ok (.aload_n 1, 1) := by decide +kernel
theorem dL_law_68 : decode cL_law 68 = .ok (.iconst 0, 1) := by decide +kernel
theorem dL_law_69 : decode cL_law 69 = .ok (.invokevirtual 75, 3) := by decide +kernel
theorem dL_law_72 : decode cL_law 72 = .ok (.aload_n 1, 1) := by decide +kernel
theorem dL_law_73 : decode cL_law 73 = .ok (.iconst 1, 1) := by decide +kernel
theorem dL_law_74 : decode cL_law 74 = .ok (.invokevirtual 75, 3) := by decide +kernel
theorem dL_law_77 : decode cL_law 77 = .ok (.iadd, 1) := by decide +kernel
theorem dL_law_78 : decode cL_law 78 = .ok (.aload_n 1, 1) := by decide +kernel
theorem dL_law_79 : decode cL_law 79 = .ok (.iconst 2, 1) := by decide +kernel
theorem dL_law_80 : decode cL_law 80 = .ok (.invokevirtual 75, 3) := by decide +kernel
theorem dL_law_83 : decode cL_law 83 = .ok (.iadd, 1) := by decide +kernel
theorem dL_law_84 : decode cL_law 84 = .ok (.istore 7, 2) := by decide +kernel
theorem dL_law_86 : decode cL_law 86 = .ok (.iload_n 3, 1) := by decide +kernel
theorem dL_law_87 : decode cL_law 87 = .ok (.ifCond .eq 20, 3) := by decide +kernel
theorem dL_law_90 : decode cL_law 90 = .ok (.aload_n 1, 1) := by decide +kernel
theorem dL_law_91 : decode cL_law 91 = .ok (.iload 5, 2) := by decide +kernel
theorem dL_law_93 : decode cL_law 93 = .ok (.iconst 4, 1) := by decide +kernel
theorem dL_law_94 : decode cL_law 94 = .ok (.ishr, 1) := by decide +kernel
theorem dL_law_95 : decode cL_law 95 = .ok (.iload 6, 2) := by decide +kernel
theorem dL_law_97 : decode cL_law 97 = .ok (.iconst 2, 1) := by decide +kernel
theorem dL_law_98 : decode cL_law 98 = .ok (.ishr, 1) := by decide +kernel
theorem dL_law_99 : decode cL_law 99 = .ok (.invokestatic 92, 3) := by decide +kernel
theorem dL_law_102 : decode cL_law 102 = .ok (.ifCond .ne 5, 3) := by decide +kernel
theorem dL_law_105 : decode cL_law 105 = .ok (.iconst 0, 1) := by decide +kernel
theorem dL_law_106 : decode cL_law 106 = .ok (.ireturn, 1) := by decide +kernel
theorem dL_law_107 : decode cL_law 107 = .ok (.iload_n 3, 1) := by decide +kernel
theorem dL_law_108 : decode cL_law 108 = .ok (.aload_n 1, 1) := by decide +kernel
theorem dL_law_109 : decode cL_law 109 = .ok (.iconst 0, 1) := by decide +kernel
theorem dL_law_110 : decode cL_law 110 = .ok (.invokevirtual 75, 3) := by decide +kernel
theorem dL_law_113 : decode cL_law 113 = .ok (.aload_n 1, 1) := by decide +kernel
theorem dL_law_114 : decode cL_law 114 = .ok (.iconst 1, 1) := by decide +kernel
theorem dL_law_115 : decode cL_law 115 = .ok (.invokevirtual 75, 3) := by decide +kernel
theorem dL_law_118 : decode cL_law 118 = .ok (.iadd, 1) := by decide +kernel
theorem dL_law_119 : decode cL_law 119 = .ok (.aload_n 1, 1) := by decide +kernel
theorem dL_law_120 : decode cL_law 120 = .ok (.iconst 2, 1) := by decide +kernel
theorem dL_law_121 : decode cL_law 121 = .ok (.invokevirtual 75, 3) := by decide +kernel
theorem dL_law_124 : decode cL_law 124 = .ok (.iadd, 1) := by decide +kernel
theorem dL_law_125 : decode cL_law 125 = .ok (.iload 7, 2) := by decide +kernel
theorem dL_law_127 : decode cL_law 127 = .ok (.if_icmp .ne 7, 3) := by decide +kernel
theorem dL_law_130 : decode cL_law 130 = .ok (.iconst 1, 1) := by decide +kernel
theorem dL_law_131 : decode cL_law 131 = .ok (.goto 4, 3) := by decide +kernel
theorem dL_law_134 : decode cL_law 134 = .ok (.iconst 0, 1) := by decide +kernel
theorem dL_law_135 : decode cL_law 135 = .ok (.iand, 1) := by decide +kernel
theorem dL_law_136 : decode cL_law 136 = .ok (.istore_n 3, 1) := by decide +kernel
theorem dL_law_137 : decode cL_law 137 = .ok (.iload 4, 2) := by decide +kernel
theorem dL_law_139 : decode cL_law 139 = .ok (.iconst 2, 1) := by decide +kernel
theorem dL_law_140 : decode cL_law 140 = .ok (.irem, 1) := by decide +kernel
theorem dL_law_141 : decode cL_law 141 = .ok (.iconst 1, 1) := by decide +kernel
theorem dL_law_142 : decode cL_law 142 = .ok (.if_icmp .ne 20, 3) := by decide +kernel
theorem dL_law_145 : decode cL_law 145 = .ok (.aload_n 1, 1) := by decide +kernel
theorem dL_law_146 : decode cL_law 146 = .ok (.invokestatic 96, 3) := by decide +kernel
theorem dL_law_149 : decode cL_law 149 = .ok (.ifCond .eq 11, 3) := by decide +kernel
theorem dL_law_152 : decode cL_law 152 = .ok (.aload_n 1, 1) := by decide +kernel
theorem dL_law_153 : decode cL_law 153 = .ok (.aload_n 2, 1) := by decide +kernel
theorem dL_law_154 : decode cL_law 154 = .ok (.invokestatic 100, 3) := by decide +kernel
theorem dL_law_157 : decode cL_law 157 = .ok (.ifCond .ne 5, 3) := by decide +kernel
theorem dL_law_160 : decode cL_law 160 = .ok (.iconst 0, 1) := by decide +kernel
theorem dL_law_161 : decode cL_law 161 = .ok (.ireturn, 1) := by decide +kernel
theorem dL_law_162 : decode cL_law 162 = .ok (.iinc 4 1, 3) := by decide +kernel
theorem dL_law_165 : decode cL_law 165 = .ok (.goto (-147), 3) := by decide +kernel
theorem dL_law_168 : decode cL_law 168 = .ok (.iconst 1, 1) := by decide +kernel
theorem dL_law_169 : decode cL_law 169 = .ok (.ireturn, 1) := by decide +kernel
