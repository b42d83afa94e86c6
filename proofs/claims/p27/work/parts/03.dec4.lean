-- decode rows out of the printed list of the task
theorem dL_isStep_318 : decode cL_isStep 318 = .ok (.invokestatic 18, 3) := by decide +kernel
theorem dL_isStep_321 : decode cL_isStep 321 = .ok (.iload_n 3, 1) := by decide +kernel
theorem dL_isStep_322 : decode cL_isStep 322 = .ok (.iconst 5, 1) := by decide +kernel
theorem dL_isStep_323 : decode cL_isStep 323 = .ok (.ishr, 1) := by decide +kernel
theorem dL_isStep_324 : decode cL_isStep 324 = .ok (.bipush 12, 2) := by decide +kernel
theorem dL_isStep_326 : decode cL_isStep 326 = .ok (.invokestatic 18, 3) := by decide +kernel
theorem dL_isStep_329 : decode cL_isStep 329 = .ok (.invokevirtual 52, 3) := by decide +kernel
theorem dL_isStep_332 : decode cL_isStep 332 = .ok (.if_icmp .ne 7, 3) := by decide +kernel
theorem dL_isStep_335 : decode cL_isStep 335 = .ok (.iconst 1, 1) := by decide +kernel
theorem dL_isStep_336 : decode cL_isStep 336 = .ok (.goto 4, 3) := by decide +kernel
theorem dL_isStep_339 : decode cL_isStep 339 = .ok (.iconst 0, 1) := by decide +kernel
theorem dL_isStep_340 : decode cL_isStep 340 = .ok (.ireturn, 1) := by decide +kernel
theorem dL_isStep_341 : decode cL_isStep 341 = .ok (.iload_n 3, 1) := by decide +kernel
theorem dL_isStep_342 : decode cL_isStep 342 = .ok (.iconst 2, 1) := by decide +kernel
theorem dL_isStep_343 : decode cL_isStep 343 = .ok (.invokestatic 18, 3) := by decide +kernel
theorem dL_isStep_346 : decode cL_isStep 346 = .ok (.istore 8, 2) := by decide +kernel
theorem dL_isStep_348 : decode cL_isStep 348 = .ok (.aload_n 0, 1) := by decide +kernel
theorem dL_isStep_349 : decode cL_isStep 349 = .ok (.iload 8, 2) := by decide +kernel
theorem dL_isStep_351 : decode cL_isStep 351 = .ok (.iconst 1, 1) := by decide +kernel
theorem dL_isStep_352 : decode cL_isStep 352 = .ok (.iload_n 3, 1) := by decide +kernel
theorem dL_isStep_353 : decode cL_isStep 353 = .ok (.iconst 3, 1) := by decide +kernel
theorem dL_isStep_354 : decode cL_isStep 354 = .ok (.ishr, 1) := by decide +kernel
theorem dL_isStep_355 : decode cL_isStep 355 = .ok (.bipush 20, 2) := by decide +kernel
theorem dL_isStep_357 : decode cL_isStep 357 = .ok (.invokestatic 18, 3) := by decide +kernel
theorem dL_isStep_360 : decode cL_isStep 360 = .ok (.iadd, 1) := by decide +kernel
theorem dL_isStep_361 : decode cL_isStep 361 = .ok (.invokevirtual 56, 3) := by decide +kernel
theorem dL_isStep_364 : decode cL_isStep 364 = .ok (.aload_n 1, 1) := by decide +kernel
theorem dL_isStep_365 : decode cL_isStep 365 = .ok (.iload 8, 2) := by decide +kernel
theorem dL_isStep_367 : decode cL_isStep 367 = .ok (.iconst 1, 1) := by decide +kernel
theorem dL_isStep_368 : decode cL_isStep 368 = .ok (.iload_n 3, 1) := by decide +kernel
theorem dL_isStep_369 : decode cL_isStep 369 = .ok (.iconst 3, 1) := by decide +kernel
theorem dL_isStep_370 : decode cL_isStep 370 = .ok (.ishr, 1) := by decide +kernel
theorem dL_isStep_371 : decode cL_isStep 371 = .ok (.bipush 20, 2) := by decide +kernel
theorem dL_isStep_373 : decode cL_isStep 373 = .ok (.invokestatic 18, 3) := by decide +kernel
theorem dL_isStep_376 : decode cL_isStep 376 = .ok (.iadd, 1) := by decide +kernel
theorem dL_isStep_377 : decode cL_isStep 377 = .ok (.invokevirtual 56, 3) := by decide +kernel
theorem dL_isStep_380 : decode cL_isStep 380 = .ok (.if_icmp .ne 7, 3) := by decide +kernel
theorem dL_isStep_383 : decode cL_isStep 383 = .ok (.iconst 1, 1) := by decide +kernel
theorem dL_isStep_384 : decode cL_isStep 384 = .ok (.goto 4, 3) := by decide +kernel
theorem dL_isStep_387 : decode cL_isStep 387 = .ok (.iconst 0, 1) := by decide +kernel
theorem dL_isStep_388 : decode cL_isStep 388 = .ok (.ireturn, 1) := by decide +kernel
theorem dL_isStep_389 : decode cL_isStep 389 = .ok (.aload_n 0, 1) := by decide +kernel
theorem dL_isStep_390 : decode cL_isStep 390 = .ok (.aload_n 1, 1) := by decide +kernel
theorem dL_isStep_391 : decode cL_isStep 391 = .ok (.iconst 1, 1) := by decide +kernel
theorem dL_isStep_392 : decode cL_isStep 392 = .ok (.iload_n 3, 1) := by decide +kernel
theorem dL_isStep_393 : decode cL_isStep 393 = .ok (.bipush 6, 2) := by decide +kernel
theorem dL_isStep_395 : decode cL_isStep 395 = .ok (.invokestatic 18, 3) := by decide +kernel
theorem dL_isStep_398 : decode cL_isStep 398 = .ok (.iadd, 1) := by decide +kernel
theorem dL_isStep_399 : decode cL_isStep 399 = .ok (.invokestatic 59, 3) := by decide +kernel
theorem dL_isStep_402 : decode cL_isStep 402 = .ok (.ireturn, 1) := by decide +kernel
theorem dL_areAlike_0 : decode cL_areAlike 0 = .ok (.aload_n 0, 1) := by decide +kernel
theorem dL_areAlike_1 : decode cL_areAlike 1 = .ok (.iconst 0, 1) := by decide +kernel
theorem dL_areAlike_2 : decode cL_areAlike 2 = .ok (.invokevirtual 9, 3) := by decide +kernel
theorem dL_areAlike_5 : decode cL_areAlike 5 = .ok (.istore_n 2, 1) := by decide +kernel
theorem dL_areAlike_6 : decode cL_areAlike 6 = .ok (.aload_n 0, 1) := by decide +kernel
theorem dL_areAlike_7 : decode cL_areAlike 7 = .ok (.invokevirtual 63, 3) := by decide +kernel
theorem dL_areAlike_10 : decode cL_areAlike 10 = .ok (.aload_n 1, 1) := by decide +kernel
theorem dL_areAlike_11 : decode cL_areAlike 11 = .ok (.invokevirtual 63, 3) := by decide +kernel
theorem dL_areAlike_14 : decode cL_areAlike 14 = .ok (.if_icmp .ne 7, 3) := by decide +kernel
theorem dL_areAlike_17 : decode cL_areAlike 17 = .ok (.iconst 1, 1) := by decide +kernel
theorem dL_areAlike_18 : decode cL_areAlike 18 = .ok (.goto 4, 3) := by decide +kernel
theorem dL_areAlike_21 : decode cL_areAlike 21 = .ok (.iconst 0, 1) := by decide +kernel
theorem dL_areAlike_22 : decode cL_areAlike 22 = .ok (.istore_n 3, 1) := by decide +kernel
theorem dL_areAlike_23 : decode cL_areAlike 23 = .ok (.iconst 0, 1) := by decide +kernel
theorem dL_areAlike_24 : decode cL_areAlike 24 = .ok (.istore 4, 2) := by decide +kernel
theorem dL_areAlike_26 : decode cL_areAlike 26 = .ok (.iload 4, 2) := by decide +kernel
theorem dL_areAlike_28 : decode cL_areAlike 28 = .ok (.bipush 6, 2) := by decide +kernel
theorem dL_areAlike_30 : decode cL_areAlike 30 = .ok (.if_icmp .ge 34, 3) := by decide +kernel
theorem dL_areAlike_33 : decode cL_areAlike 33 = .ok (.iload_n 3, 1) := by decide +kernel
theorem dL_areAlike_34 : decode cL_areAlike 34 = .ok (.ifCond .eq 22, 3) := by decide +kernel
theorem dL_areAlike_37 : decode cL_areAlike 37 = .ok (.aload_n 0, 1) := by decide +kernel
theorem dL_areAlike_38 : decode cL_areAlike 38 = .ok (.iload 4, 2) := by decide +kernel
theorem dL_areAlike_40 : decode cL_areAlike 40 = .ok (.invokevirtual 9, 3) := by decide +kernel
theorem dL_areAlike_43 : decode cL_areAlike 43 = .ok (.aload_n 1, 1) := by decide +kernel
theorem dL_areAlike_44 : decode cL_areAlike 44 = .ok (.iload 4, 2) := by decide +kernel
theorem dL_areAlike_46 : decode cL_areAlike 46 = .ok (.invokevirtual 9, 3) := by decide +kernel
theorem dL_areAlike_49 : decode cL_areAlike 49 = .ok (.if_icmp .ne 7, 3) := by decide +kernel
theorem dL_areAlike_52 : decode cL_areAlike 52 = .ok (.iconst 1, 1) := by decide +kernel
theorem dL_areAlike_53 : decode cL_areAlike 53 = .ok (.goto 4, 3) := by decide +kernel
theorem dL_areAlike_56 : decode cL_areAlike 56 = .ok (.iconst 0, 1) := by decide +kernel
theorem dL_areAlike_57 : decode cL_areAlike 57 = .ok (.istore_n 3, 1) := by decide +kernel
theorem dL_areAlike_58 : decode cL_areAlike 58 = .ok (.iinc 4 1, 3) := by decide +kernel
theorem dL_areAlike_61 : decode cL_areAlike 61 = .ok (.goto (-35), 3) := by decide +kernel
theorem dL_areAlike_64 : decode cL_areAlike 64 = .ok (.iconst 0, 1) := by decide +kernel
theorem dL_areAlike_65 : decode cL_areAlike 65 = .ok (.istore 4, 2) := by decide +kernel
theorem dL_areAlike_67 : decode cL_areAlike 67 = .ok (.iconst 0, 1) := by decide +kernel
theorem dL_areAlike_68 : decode cL_areAlike 68 = .ok (.istore 5, 2) := by decide +kernel
theorem dL_areAlike_70 : decode cL_areAlike 70 = .ok (.iload 5, 2) := by decide +kernel
theorem dL_areAlike_72 : decode cL_areAlike 72 = .ok (.iconst 5, 1) := by decide +kernel
theorem dL_areAlike_73 : decode cL_areAlike 73 = .ok (.if_icmp .ge 61, 3) := by decide +kernel
theorem dL_areAlike_76 : decode cL_areAlike 76 = .ok (.iload_n 3, 1) := by decide +kernel
theorem dL_areAlike_77 : decode cL_areAlike 77 = .ok (.ifCond .eq 38, 3) := by decide +kernel
theorem dL_areAlike_80 : decode cL_areAlike 80 = .ok (.aload_n 0, 1) := by decide +kernel
theorem dL_areAlike_81 : decode cL_areAlike 81 = .ok (.iload 5, 2) := by decide +kernel
theorem dL_areAlike_83 : decode cL_areAlike 83 = .ok (.invokevirtual 67, 3) := by decide +kernel
theorem dL_areAlike_86 : decode cL_areAlike 86 = .ok (.aload_n 1, 1) := by decide +kernel
theorem dL_areAlike_87 : decode cL_areAlike 87 = .ok (.iload 5, 2) := by decide +kernel
theorem dL_areAlike_89 : decode cL_areAlike 89 = .ok (.invokevirtual 67, 3) := by decide +kernel
theorem dL_areAlike_92 : decode cL_areAlike 92 = .ok (.iload_n 2, 1) := by decide +kernel
theorem dL_areAlike_93 : decode cL_areAlike 93 = .ok (.invokestatic 31, 3) := by decide +kernel
theorem dL_areAlike_96 : decode cL_areAlike 96 = .ok (.if_icmp .ne 19, 3) := by decide +kernel
theorem dL_areAlike_99 : decode cL_areAlike 99 = .ok (.iload 4, 2) := by decide +kernel
theorem dL_areAlike_101 : decode cL_areAlike 101 = .ok (.aload_n 0, 1) := by decide +kernel
theorem dL_areAlike_102 : decode cL_areAlike 102 = .ok (.iload 5, 2) := by decide +kernel
theorem dL_areAlike_104 : decode cL_areAlike 104 = .ok (.invokevirtual 67, 3) := by decide +kernel
theorem dL_areAlike_107 : decode cL_areAlike 107 = .ok (.iand, 1) := by decide +kernel
theorem dL_areAlike_108 : decode cL_areAlike 108 = .ok (.ifCond .ne 7, 3) := by decide +kernel
theorem dL_areAlike_111 : decode cL_areAlike 111 = .ok (.iconst 1, 1) := by decide +kernel
theorem dL_areAlike_112 : decode cL_areAlike 112 = .ok (.goto 4, 3) := by decide +kernel
theorem dL_areAlike_115 : decode cL_areAlike 115 = .ok (.iconst 0, 1) := by decide +kernel
theorem dL_areAlike_116 : decode cL_areAlike 116 = .ok (.istore_n 3, 1) := by decide +kernel
theorem dL_areAlike_117 : decode cL_areAlike 117 = .ok (.iload 4, 2) := by decide +kernel
theorem dL_areAlike_119 : decode cL_areAlike 119 = .ok (.aload_n 0, 1) := by decide +kernel
theorem dL_areAlike_120 : decode cL_areAlike 120 = .ok (.iload 5, 2) := by decide +kernel
theorem dL_areAlike_122 : decode cL_areAlike 122 = .ok (.invokevirtual 67, 3) := by decide +kernel
theorem dL_areAlike_125 : decode cL_areAlike 125 = .ok (.ior, 1) := by decide +kernel
theorem dL_areAlike_126 : decode cL_areAlike 126 = .ok (.istore 4, 2) := by decide +kernel
theorem dL_areAlike_128 : decode cL_areAlike 128 = .ok (.iinc 5 1, 3) := by decide +kernel
theorem dL_areAlike_131 : decode cL_areAlike 131 = .ok (.goto (-61), 3) := by decide +kernel
theorem dL_areAlike_134 : decode cL_areAlike 134 = .ok (.iload_n 3, 1) := by decide +kernel
theorem dL_areAlike_135 : decode cL_areAlike 135 = .ok (.ifCond .eq 17, 3) := by decide +kernel
theorem dL_areAlike_138 : decode cL_areAlike 138 = .ok (.iload 4, 2) := by decide +kernel
theorem dL_areAlike_140 : decode cL_areAlike 140 = .ok (.iconst 1, 1) := by decide +kernel
theorem dL_areAlike_141 : decode cL_areAlike 141 = .ok (.iload_n 2, 1) := by decide +kernel
theorem dL_areAlike_142 : decode cL_areAlike 142 = .ok (.ishl, 1) := by decide +kernel
theorem dL_areAlike_143 : decode cL_areAlike 143 = .ok (.iconst 1, 1) := by decide +kernel
theorem dL_areAlike_144 : decode cL_areAlike 144 = .ok (.isub, 1) := by decide +kernel
theorem dL_areAlike_145 : decode cL_areAlike 145 = .ok (.if_icmp .ne 7, 3) := by decide +kernel
theorem dL_areAlike_148 : decode cL_areAlike 148 = .ok (.iconst 1, 1) := by decide +kernel
theorem dL_areAlike_149 : decode cL_areAlike 149 = .ok (.goto 4, 3) := by decide +kernel
theorem dL_areAlike_152 : decode cL_areAlike 152 = .ok (.iconst 0, 1) := by decide +kernel
theorem dL_areAlike_153 : decode cL_areAlike 153 = .ok (.istore_n 3, 1) := by decide +kernel
theorem dL_areAlike_154 : decode cL_areAlike 154 = .ok (.iconst 0, 1) := by decide +kernel
theorem dL_areAlike_155 : decode cL_areAlike 155 = .ok (.istore 5, 2) := by decide +kernel
theorem dL_areAlike_157 : decode cL_areAlike 157 = .ok (.iload 5, 2) := by decide +kernel
theorem dL_areAlike_159 : decode cL_areAlike 159 = .ok (.iload_n 2, 1) := by decide +kernel
theorem dL_areAlike_160 : decode cL_areAlike 160 = .ok (.if_icmp .ge 244, 3) := by decide +kernel
theorem dL_areAlike_163 : decode cL_areAlike 163 = .ok (.iconst 0, 1) := by decide +kernel
theorem dL_areAlike_164 : decode cL_areAlike 164 = .ok (.istore 6, 2) := by decide +kernel
theorem dL_areAlike_166 : decode cL_areAlike 166 = .ok (.iload 6, 2) := by decide +kernel
theorem dL_areAlike_168 : decode cL_areAlike 168 = .ok (.bipush 12, 2) := by decide +kernel
theorem dL_areAlike_170 : decode cL_areAlike 170 = .ok (.if_icmp .ge 42, 3) := by decide +kernel
theorem dL_areAlike_173 : decode cL_areAlike 173 = .ok (.iload_n 3, 1) := by decide +kernel
theorem dL_areAlike_174 : decode cL_areAlike 174 = .ok (.ifCond .eq 30, 3) := by decide +kernel
theorem dL_areAlike_177 : decode cL_areAlike 177 = .ok (.aload_n 0, 1) := by decide +kernel
theorem dL_areAlike_178 : decode cL_areAlike 178 = .ok (.iload 5, 2) := by decide +kernel
theorem dL_areAlike_180 : decode cL_areAlike 180 = .ok (.iload 6, 2) := by decide +kernel
theorem dL_areAlike_182 : decode cL_areAlike 182 = .ok (.invokevirtual 70, 3) := by decide +kernel
theorem dL_areAlike_185 : decode cL_areAlike 185 = .ok (.aload_n 1, 1) := by decide +kernel
theorem dL_areAlike_186 : decode cL_areAlike 186 = .ok (.aload_n 0, 1) := by decide +kernel
theorem dL_areAlike_187 : decode cL_areAlike 187 = .ok (.iload 5, 2) := by decide +kernel
theorem dL_areAlike_189 : decode cL_areAlike 189 = .ok (.invokestatic 24, 3) := by decide +kernel
theorem dL_areAlike_192 : decode cL_areAlike 192 = .ok (.iload 6, 2) := by decide +kernel
theorem dL_areAlike_194 : decode cL_areAlike 194 = .ok (.invokevirtual 70, 3) := by decide +kernel
theorem dL_areAlike_197 : decode cL_areAlike 197 = .ok (.if_icmp .ne 7, 3) := by decide +kernel
theorem dL_areAlike_200 : decode cL_areAlike 200 = .ok (.iconst 1, 1) := by decide +kernel
theorem dL_areAlike_201 : decode cL_areAlike 201 = .ok (.goto 4, 3) := by decide +kernel
theorem dL_areAlike_204 : decode cL_areAlike 204 = .ok (.iconst 0, 1) := by decide +kernel
theorem dL_areAlike_205 : decode cL_areAlike 205 = .ok (.istore_n 3, 1) := by decide +kernel
theorem dL_areAlike_206 : decode cL_areAlike 206 = .ok (.iinc 6 1, 3) := by decide +kernel
theorem dL_areAlike_209 : decode cL_areAlike 209 = .ok (.goto (-43), 3) := by decide +kernel
theorem dL_areAlike_212 : decode cL_areAlike 212 = .ok (.aload_n 0, 1) := by decide +kernel
theorem dL_areAlike_213 : decode cL_areAlike 213 = .ok (.iload 5, 2) := by decide +kernel
theorem dL_areAlike_215 : decode cL_areAlike 215 = .ok (.iconst 4, 1) := by decide +kernel
theorem dL_areAlike_216 : decode cL_areAlike 216 = .ok (.invokevirtual 70, 3) := by decide +kernel
theorem dL_areAlike_219 : decode cL_areAlike 219 = .ok (.istore 6, 2) := by decide +kernel
theorem dL_areAlike_221 : decode cL_areAlike 221 = .ok (.aload_n 0, 1) := by decide +kernel
theorem dL_areAlike_222 : decode cL_areAlike 222 = .ok (.iload 5, 2) := by decide +kernel
theorem dL_areAlike_224 : decode cL_areAlike 224 = .ok (.iconst 5, 1) := by decide +kernel
theorem dL_areAlike_225 : decode cL_areAlike 225 = .ok (.invokevirtual 70, 3) := by decide +kernel
theorem dL_areAlike_228 : decode cL_areAlike 228 = .ok (.iconst 1, 1) := by decide +kernel
theorem dL_areAlike_229 : decode cL_areAlike 229 = .ok (.aload_n 0, 1) := by decide +kernel
theorem dL_areAlike_230 : decode cL_areAlike 230 = .ok (.iload 5, 2) := by decide +kernel
theorem dL_areAlike_232 : decode cL_areAlike 232 = .ok (.iconst 3, 1) := by decide +kernel
theorem dL_areAlike_233 : decode cL_areAlike 233 = .ok (.invokevirtual 70, 3) := by decide +kernel
theorem dL_areAlike_236 : decode cL_areAlike 236 = .ok (.ishl, 1) := by decide +kernel
theorem dL_areAlike_237 : decode cL_areAlike 237 = .ok (.iconst 1, 1) := by decide +kernel
theorem dL_areAlike_238 : decode cL_areAlike 238 = .ok (.isub, 1) := by decide +kernel
theorem dL_areAlike_239 : decode cL_areAlike 239 = .ok (.if_icmp .ne 7, 3) := by decide +kernel
theorem dL_areAlike_242 : decode cL_areAlike 242 = .ok (.iconst 1, 1) := by decide +kernel
theorem dL_areAlike_243 : decode cL_areAlike 243 = .ok (.goto 4, 3) := by decide +kernel
theorem dL_areAlike_246 : decode cL_areAlike 246 = .ok (.iconst 0, 1) := by decide +kernel
theorem dL_areAlike_247 : decode cL_areAlike 247 = .ok (.istore 7, 2) := by decide +kernel
theorem dL_areAlike_249 : decode cL_areAlike 249 = .ok (.iload_n 3, 1) := by decide +kernel
theorem dL_areAlike_250 : decode cL_areAlike 250 = .ok (.ifCond .eq 100, 3) := by decide +kernel
theorem dL_areAlike_253 : decode cL_areAlike 253 = .ok (.aload_n 0, 1) := by decide +kernel
theorem dL_areAlike_254 : decode cL_areAlike 254 = .ok (.iload 5, 2) := by decide +kernel
theorem dL_areAlike_256 : decode cL_areAlike 256 = .ok (.iconst 5, 1) := by decide +kernel
theorem dL_areAlike_257 : decode cL_areAlike 257 = .ok (.invokevirtual 70, 3) := by decide +kernel
theorem dL_areAlike_260 : decode cL_areAlike 260 = .ok (.aload_n 0, 1) := by decide +kernel
theorem dL_areAlike_261 : decode cL_areAlike 261 = .ok (.iload 5, 2) := by decide +kernel
theorem dL_areAlike_263 : decode cL_areAlike 263 = .ok (.bipush 6, 2) := by decide +kernel
theorem dL_areAlike_265 : decode cL_areAlike 265 = .ok (.invokevirtual 70, 3) := by decide +kernel
theorem dL_areAlike_268 : decode cL_areAlike 268 = .ok (.iand, 1) := by decide +kernel
theorem dL_areAlike_269 : decode cL_areAlike 269 = .ok (.ifCond .ne 81, 3) := by decide +kernel
theorem dL_areAlike_272 : decode cL_areAlike 272 = .ok (.iload 6, 2) := by decide +kernel
theorem dL_areAlike_274 : decode cL_areAlike 274 = .ok (.iconst 3, 1) := by decide +kernel
theorem dL_areAlike_275 : decode cL_areAlike 275 = .ok (.if_icmp .ne 7, 3) := by decide +kernel
theorem dL_areAlike_278 : decode cL_areAlike 278 = .ok (.iconst 1, 1) := by decide +kernel
theorem dL_areAlike_279 : decode cL_areAlike 279 = .ok (.goto 4, 3) := by decide +kernel
theorem dL_areAlike_282 : decode cL_areAlike 282 = .ok (.iconst 0, 1) := by decide +kernel
theorem dL_areAlike_283 : decode cL_areAlike 283 = .ok (.aload_n 0, 1) := by decide +kernel
theorem dL_areAlike_284 : decode cL_areAlike 284 = .ok (.iload 5, 2) := by decide +kernel
theorem dL_areAlike_286 : decode cL_areAlike 286 = .ok (.bipush 9, 2) := by decide +kernel
theorem dL_areAlike_288 : decode cL_areAlike 288 = .ok (.invokevirtual 70, 3) := by decide +kernel
theorem dL_areAlike_291 : decode cL_areAlike 291 = .ok (.ifCond .lt 7, 3) := by decide +kernel
theorem dL_areAlike_294 : decode cL_areAlike 294 = .ok (.iconst 1, 1) := by decide +kernel
theorem dL_areAlike_295 : decode cL_areAlike 295 = .ok (.goto 4, 3) := by decide +kernel
theorem dL_areAlike_298 : decode cL_areAlike 298 = .ok (.iconst 0, 1) := by decide +kernel
theorem dL_areAlike_299 : decode cL_areAlike 299 = .ok (.if_icmp .ne 51, 3) := by decide +kernel
theorem dL_areAlike_302 : decode cL_areAlike 302 = .ok (.aload_n 0, 1) := by decide +kernel
theorem dL_areAlike_303 : decode cL_areAlike 303 = .ok (.iload 5, 2) := by decide +kernel
theorem dL_areAlike_305 : decode cL_areAlike 305 = .ok (.iload 6, 2) := by decide +kernel
theorem dL_areAlike_307 : decode cL_areAlike 307 = .ok (.invokevirtual 73, 3) := by decide +kernel
theorem dL_areAlike_310 : decode cL_areAlike 310 = .ok (.ifCond .ne 40, 3) := by decide +kernel
theorem dL_areAlike_313 : decode cL_areAlike 313 = .ok (.aload_n 0, 1) := by decide +kernel
theorem dL_areAlike_314 : decode cL_areAlike 314 = .ok (.iload 5, 2) := by decide +kernel
theorem dL_areAlike_316 : decode cL_areAlike 316 = .ok (.iconst 0, 1) := by decide +kernel
theorem dL_areAlike_317 : decode cL_areAlike 317 = .ok (.invokevirtual 70, 3) := by decide +kernel
theorem dL_areAlike_320 : decode cL_areAlike 320 = .ok (.iconst 2, 1) := by decide +kernel
theorem dL_areAlike_321 : decode cL_areAlike 321 = .ok (.if_icmp .eq 25, 3) := by decide +kernel
theorem dL_areAlike_324 : decode cL_areAlike 324 = .ok (.iload 6, 2) := by decide +kernel
theorem dL_areAlike_326 : decode cL_areAlike 326 = .ok (.iconst 4, 1) := by decide +kernel
theorem dL_areAlike_327 : decode cL_areAlike 327 = .ok (.if_icmp .eq 19, 3) := by decide +kernel
theorem dL_areAlike_330 : decode cL_areAlike 330 = .ok (.iload 7, 2) := by decide +kernel
theorem dL_areAlike_332 : decode cL_areAlike 332 = .ok (.iload 6, 2) := by decide +kernel
theorem dL_areAlike_334 : decode cL_areAlike 334 = .ok (.iconst 2, 1) := by decide +kernel
theorem dL_areAlike_335 : decode cL_areAlike 335 = .ok (.if_icmp .ne 7, 3) := by decide +kernel
theorem dL_areAlike_338 : decode cL_areAlike 338 = .ok (.iconst 1, 1) := by decide +kernel
theorem dL_areAlike_339 : decode cL_areAlike 339 = .ok (.goto 4, 3) := by decide +kernel
theorem dL_areAlike_342 : decode cL_areAlike 342 = .ok (.iconst 0, 1) := by decide +kernel
theorem dL_areAlike_343 : decode cL_areAlike 343 = .ok (.if_icmp .ne 7, 3) := by decide +kernel
theorem dL_areAlike_346 : decode cL_areAlike 346 = .ok (.iconst 1, 1) := by decide +kernel
theorem dL_areAlike_347 : decode cL_areAlike 347 = .ok (.goto 4, 3) := by decide +kernel
theorem dL_areAlike_350 : decode cL_areAlike 350 = .ok (.iconst 0, 1) := by decide +kernel
theorem dL_areAlike_351 : decode cL_areAlike 351 = .ok (.istore_n 3, 1) := by decide +kernel
theorem dL_areAlike_352 : decode cL_areAlike 352 = .ok (.iload_n 3, 1) := by decide +kernel
theorem dL_areAlike_353 : decode cL_areAlike 353 = .ok (.ifCond .eq 43, 3) := by decide +kernel
theorem dL_areAlike_356 : decode cL_areAlike 356 = .ok (.aload_n 0, 1) := by decide +kernel
theorem dL_areAlike_357 : decode cL_areAlike 357 = .ok (.iload 5, 2) := by decide +kernel
theorem dL_areAlike_359 : decode cL_areAlike 359 = .ok (.ldc2_w 76, 3) := by decide +kernel
theorem dL_areAlike_362 : decode cL_areAlike 362 = .ok (.invokevirtual 78, 3) := by decide +kernel
theorem dL_areAlike_365 : decode cL_areAlike 365 = .ok (.ldc2_w 76, 3) := by decide +kernel
theorem dL_areAlike_368 : decode cL_areAlike 368 = .ok (.aload_n 0, 1) := by decide +kernel
theorem dL_areAlike_369 : decode cL_areAlike 369 = .ok (.iload 5, 2) := by decide +kernel
theorem dL_areAlike_371 : decode cL_areAlike 371 = .ok (.bipush 11, 2) := by decide +kernel
theorem dL_areAlike_373 : decode cL_areAlike 373 = .ok (.invokevirtual 70, 3) := by decide +kernel
theorem dL_areAlike_376 : decode cL_areAlike 376 = .ok (.i2l, 1) := by decide +kernel
theorem dL_areAlike_377 : decode cL_areAlike 377 = .ok (.lmul, 1) := by decide +kernel
theorem dL_areAlike_378 : decode cL_areAlike 378 = .ok (.aload_n 0, 1) := by decide +kernel
theorem dL_areAlike_379 : decode cL_areAlike 379 = .ok (.iload 5, 2) := by decide +kernel
theorem dL_areAlike_381 : decode cL_areAlike 381 = .ok (.bipush 11, 2) := by decide +kernel
theorem dL_areAlike_383 : decode cL_areAlike 383 = .ok (.invokevirtual 70, 3) := by decide +kernel
theorem dL_areAlike_386 : decode cL_areAlike 386 = .ok (.i2l, 1) := by decide +kernel
theorem dL_areAlike_387 : decode cL_areAlike 387 = .ok (.lmul, 1) := by decide +kernel
theorem dL_areAlike_388 : decode cL_areAlike 388 = .ok (.lcmp, 1) := by decide +kernel
theorem dL_areAlike_389 : decode cL_areAlike 389 = .ok (.ifCond .ne 7, 3) := by decide +kernel
theorem dL_areAlike_392 : decode cL_areAlike 392 = .ok (.iconst 1, 1) := by decide +kernel
theorem dL_areAlike_393 : decode cL_areAlike 393 = .ok (.goto 4, 3) := by decide +kernel
theorem dL_areAlike_396 : decode cL_areAlike 396 = .ok (.iconst 0, 1) := by decide +kernel
theorem dL_areAlike_397 : decode cL_areAlike 397 = .ok (.istore_n 3, 1) := by decide +kernel
theorem dL_areAlike_398 : decode cL_areAlike 398 = .ok (.iinc 5 1, 3) := by decide +kernel
theorem dL_areAlike_401 : decode cL_areAlike 401 = .ok (.goto (-244), 3) := by decide +kernel
theorem dL_areAlike_404 : decode cL_areAlike 404 = .ok (.iload_n 3, 1) := by decide +kernel
theorem dL_areAlike_405 : decode cL_areAlike 405 = .ok (.ireturn, 1) := by decide +kernel
theorem dL_comes_0 : decode cL_comes 0 = .ok (.iload_n 2, 1) := by decide +kernel
theorem dL_comes_1 : decode cL_comes 1 = .ok (.aload_n 0, 1) := by decide +kernel
theorem dL_comes_2 : decode cL_comes 2 = .ok (.iconst 0, 1) := by decide +kernel
theorem dL_comes_3 : decode cL_comes 3 = .ok (.invokevirtual 9, 3) := by decide +kernel
theorem dL_comes_6 : decode cL_comes 6 = .ok (.invokestatic 18, 3) := by decide +kernel
theorem dL_comes_9 : decode cL_comes 9 = .ok (.istore_n 3, 1) := by decide +kernel
theorem dL_comes_10 : decode cL_comes 10 = .ok (.iconst 1, 1) := by decide +kernel
theorem dL_comes_11 : decode cL_comes 11 = .ok (.iload_n 2, 1) := by decide +kernel
theorem dL_comes_12 : decode cL_comes 12 = .ok (.iconst 3, 1) := by decide +kernel
theorem dL_comes_13 : decode cL_comes 13 = .ok (.ishr, 1) := by decide +kernel
theorem dL_comes_14 : decode cL_comes 14 = .ok (.iconst 4, 1) := by decide +kernel
theorem dL_comes_15 : decode cL_comes 15 = .ok (.invokestatic 18, 3) := by decide +kernel
theorem dL_comes_18 : decode cL_comes 18 = .ok (.iadd, 1) := by decide +kernel
theorem dL_comes_19 : decode cL_comes 19 = .ok (.istore 4, 2) := by decide +kernel
theorem dL_comes_21 : decode cL_comes 21 = .ok (.iload_n 2, 1) := by decide +kernel
theorem dL_comes_22 : decode cL_comes 22 = .ok (.iconst 5, 1) := by decide +kernel
theorem dL_comes_23 : decode cL_comes 23 = .ok (.ishr, 1) := by decide +kernel
theorem dL_comes_24 : decode cL_comes 24 = .ok (.iconst 3, 1) := by decide +kernel
theorem dL_comes_25 : decode cL_comes 25 = .ok (.invokestatic 18, 3) := by decide +kernel
theorem dL_comes_28 : decode cL_comes 28 = .ok (.istore 5, 2) := by decide +kernel
theorem dL_comes_30 : decode cL_comes 30 = .ok (.aload_n 0, 1) := by decide +kernel
theorem dL_comes_31 : decode cL_comes 31 = .ok (.iload_n 3, 1) := by decide +kernel
theorem dL_comes_32 : decode cL_comes 32 = .ok (.iload 4, 2) := by decide +kernel
theorem dL_comes_34 : decode cL_comes 34 = .ok (.invokevirtual 73, 3) := by decide +kernel
theorem dL_comes_37 : decode cL_comes 37 = .ok (.istore 6, 2) := by decide +kernel
theorem dL_comes_39 : decode cL_comes 39 = .ok (.aload_n 0, 1) := by decide +kernel
theorem dL_comes_40 : decode cL_comes 40 = .ok (.iload 5, 2) := by decide +kernel
theorem dL_comes_42 : decode cL_comes 42 = .ok (.invokevirtual 82, 3) := by decide +kernel
theorem dL_comes_45 : decode cL_comes 45 = .ok (.istore 7, 2) := by decide +kernel
theorem dL_comes_47 : decode cL_comes 47 = .ok (.iload 6, 2) := by decide +kernel
theorem dL_comes_49 : decode cL_comes 49 = .ok (.aload_n 1, 1) := by decide +kernel
theorem dL_comes_50 : decode cL_comes 50 = .ok (.aload_n 0, 1) := by decide +kernel
theorem dL_comes_51 : decode cL_comes 51 = .ok (.iload_n 3, 1) := by decide +kernel
theorem dL_comes_52 : decode cL_comes 52 = .ok (.invokestatic 24, 3) := by decide +kernel
theorem dL_comes_55 : decode cL_comes 55 = .ok (.iload 4, 2) := by decide +kernel
theorem dL_comes_57 : decode cL_comes 57 = .ok (.invokevirtual 73, 3) := by decide +kernel
theorem dL_comes_60 : decode cL_comes 60 = .ok (.if_icmp .ne 18, 3) := by decide +kernel
theorem dL_comes_63 : decode cL_comes 63 = .ok (.iload 7, 2) := by decide +kernel
theorem dL_comes_65 : decode cL_comes 65 = .ok (.aload_n 1, 1) := by decide +kernel
theorem dL_comes_66 : decode cL_comes 66 = .ok (.iload 5, 2) := by decide +kernel
theorem dL_comes_68 : decode cL_comes 68 = .ok (.invokevirtual 82, 3) := by decide +kernel
theorem dL_comes_71 : decode cL_comes 71 = .ok (.if_icmp .ne 7, 3) := by decide +kernel
theorem dL_comes_74 : decode cL_comes 74 = .ok (.iconst 1, 1) := by decide +kernel
theorem dL_comes_75 : decode cL_comes 75 = .ok (.goto 4, 3) := by decide +kernel
theorem dL_comes_78 : decode cL_comes 78 = .ok (.iconst 0, 1) := by decide +kernel
theorem dL_comes_79 : decode cL_comes 79 = .ok (.istore 8, 2) := by decide +kernel
theorem dL_comes_81 : decode cL_comes 81 = .ok (.iload 6, 2) := by decide +kernel
theorem dL_comes_83 : decode cL_comes 83 = .ok (.ifCond .le 100, 3) := by decide +kernel
theorem dL_comes_86 : decode cL_comes 86 = .ok (.iload 8, 2) := by decide +kernel
theorem dL_comes_88 : decode cL_comes 88 = .ok (.ifCond .eq 53, 3) := by decide +kernel
theorem dL_comes_91 : decode cL_comes 91 = .ok (.iload 6, 2) := by decide +kernel
theorem dL_comes_93 : decode cL_comes 93 = .ok (.iconst 1, 1) := by decide +kernel
theorem dL_comes_94 : decode cL_comes 94 = .ok (.if_icmp .eq 43, 3) := by decide +kernel
theorem dL_comes_97 : decode cL_comes 97 = .ok (.aload_n 0, 1) := by decide +kernel
theorem dL_comes_98 : decode cL_comes 98 = .ok (.iload 6, 2) := by decide +kernel
theorem dL_comes_100 : decode cL_comes 100 = .ok (.iconst 1, 1) := by decide +kernel
theorem dL_comes_101 : decode cL_comes 101 = .ok (.isub, 1) := by decide +kernel
theorem dL_comes_102 : decode cL_comes 102 = .ok (.invokevirtual 15, 3) := by decide +kernel
theorem dL_comes_105 : decode cL_comes 105 = .ok (.ifCond .le 36, 3) := by decide +kernel
theorem dL_comes_108 : decode cL_comes 108 = .ok (.aload_n 0, 1) := by decide +kernel
theorem dL_comes_109 : decode cL_comes 109 = .ok (.iload_n 3, 1) := by decide +kernel
theorem dL_comes_110 : decode cL_comes 110 = .ok (.iconst 4, 1) := by decide +kernel
theorem dL_comes_111 : decode cL_comes 111 = .ok (.invokevirtual 70, 3) := by decide +kernel
theorem dL_comes_114 : decode cL_comes 114 = .ok (.iload 4, 2) := by decide +kernel
theorem dL_comes_116 : decode cL_comes 116 = .ok (.if_icmp .eq 25, 3) := by decide +kernel
theorem dL_comes_119 : decode cL_comes 119 = .ok (.aload_n 0, 1) := by decide +kernel
theorem dL_comes_120 : decode cL_comes 120 = .ok (.iload_n 3, 1) := by decide +kernel
theorem dL_comes_121 : decode cL_comes 121 = .ok (.iload 4, 2) := by decide +kernel
theorem dL_comes_123 : decode cL_comes 123 = .ok (.invokevirtual 73, 3) := by decide +kernel
theorem dL_comes_126 : decode cL_comes 126 = .ok (.iconst 1, 1) := by decide +kernel
theorem dL_comes_127 : decode cL_comes 127 = .ok (.if_icmp .ne 14, 3) := by decide +kernel
theorem dL_comes_130 : decode cL_comes 130 = .ok (.aload_n 0, 1) := by decide +kernel
theorem dL_comes_131 : decode cL_comes 131 = .ok (.invokevirtual 85, 3) := by decide +kernel
theorem dL_comes_134 : decode cL_comes 134 = .ok (.ifCond .lt 7, 3) := by decide +kernel
theorem dL_comes_137 : decode cL_comes 137 = .ok (.iconst 1, 1) := by decide +kernel
theorem dL_comes_138 : decode cL_comes 138 = .ok (.goto 4, 3) := by decide +kernel
theorem dL_comes_141 : decode cL_comes 141 = .ok (.iconst 0, 1) := by decide +kernel
theorem dL_comes_142 : decode cL_comes 142 = .ok (.istore 8, 2) := by decide +kernel
theorem dL_comes_144 : decode cL_comes 144 = .ok (.iload 8, 2) := by decide +kernel
theorem dL_comes_146 : decode cL_comes 146 = .ok (.ifCond .eq 34, 3) := by decide +kernel
theorem dL_comes_149 : decode cL_comes 149 = .ok (.aload_n 0, 1) := by decide +kernel
theorem dL_comes_150 : decode cL_comes 150 = .ok (.iload 6, 2) := by decide +kernel
theorem dL_comes_152 : decode cL_comes 152 = .ok (.invokevirtual 15, 3) := by decide +kernel
theorem dL_comes_155 : decode cL_comes 155 = .ok (.ifCond .le 25, 3) := by decide +kernel
theorem dL_comes_158 : decode cL_comes 158 = .ok (.aload_n 0, 1) := by decide +kernel
theorem dL_comes_159 : decode cL_comes 159 = .ok (.iload_n 3, 1) := by decide +kernel
theorem dL_comes_160 : decode cL_comes 160 = .ok (.iconst 4, 1) := by decide +kernel
theorem dL_comes_161 : decode cL_comes 161 = .ok (.invokevirtual 70, 3) := by decide +kernel
theorem dL_comes_164 : decode cL_comes 164 = .ok (.iload 4, 2) := by decide +kernel
theorem dL_comes_166 : decode cL_comes 166 = .ok (.if_icmp .ne 14, 3) := by decide +kernel
theorem dL_comes_169 : decode cL_comes 169 = .ok (.aload_n 0, 1) := by decide +kernel
theorem dL_comes_170 : decode cL_comes 170 = .ok (.invokevirtual 85, 3) := by decide +kernel
theorem dL_comes_173 : decode cL_comes 173 = .ok (.ifCond .lt 7, 3) := by decide +kernel
theorem dL_comes_176 : decode cL_comes 176 = .ok (.iconst 1, 1) := by decide +kernel
theorem dL_comes_177 : decode cL_comes 177 = .ok (.goto 4, 3) := by decide +kernel
theorem dL_comes_180 : decode cL_comes 180 = .ok (.iconst 0, 1) := by decide +kernel
theorem dL_comes_181 : decode cL_comes 181 = .ok (.istore 8, 2) := by decide +kernel
theorem dL_comes_183 : decode cL_comes 183 = .ok (.iload 7, 2) := by decide +kernel
theorem dL_comes_185 : decode cL_comes 185 = .ok (.ifCond .lt 55, 3) := by decide +kernel
theorem dL_comes_188 : decode cL_comes 188 = .ok (.iload 8, 2) := by decide +kernel
theorem dL_comes_190 : decode cL_comes 190 = .ok (.ifCond .eq 47, 3) := by decide +kernel
theorem dL_comes_193 : decode cL_comes 193 = .ok (.iload 7, 2) := by decide +kernel
theorem dL_comes_195 : decode cL_comes 195 = .ok (.ifCond .eq 12, 3) := by decide +kernel
theorem dL_comes_198 : decode cL_comes 198 = .ok (.aload_n 0, 1) := by decide +kernel
theorem dL_comes_199 : decode cL_comes 199 = .ok (.iload 7, 2) := by decide +kernel
theorem dL_comes_201 : decode cL_comes 201 = .ok (.invokevirtual 15, 3) := by decide +kernel
theorem dL_comes_204 : decode cL_comes 204 = .ok (.ifCond .le 33, 3) := by decide +kernel
theorem dL_comes_207 : decode cL_comes 207 = .ok (.aload_n 0, 1) := by decide +kernel
theorem dL_comes_208 : decode cL_comes 208 = .ok (.iload 5, 2) := by decide +kernel
theorem dL_comes_210 : decode cL_comes 210 = .ok (.iconst 3, 1) := by decide +kernel
theorem dL_comes_211 : decode cL_comes 211 = .ok (.invokevirtual 88, 3) := by decide +kernel
theorem dL_comes_214 : decode cL_comes 214 = .ok (.ifCond .ne 23, 3) := by decide +kernel
theorem dL_comes_217 : decode cL_comes 217 = .ok (.aload_n 0, 1) := by decide +kernel
theorem dL_comes_218 : decode cL_comes 218 = .ok (.iload 5, 2) := by decide +kernel
theorem dL_comes_220 : decode cL_comes 220 = .ok (.invokevirtual 28, 3) := by decide +kernel
theorem dL_comes_223 : decode cL_comes 223 = .ok (.ifCond .ne 14, 3) := by decide +kernel
theorem dL_comes_226 : decode cL_comes 226 = .ok (.aload_n 0, 1) := by decide +kernel
theorem dL_comes_227 : decode cL_comes 227 = .ok (.invokevirtual 85, 3) := by decide +kernel
theorem dL_comes_230 : decode cL_comes 230 = .ok (.ifCond .lt 7, 3) := by decide +kernel
theorem dL_comes_233 : decode cL_comes 233 = .ok (.iconst 1, 1) := by decide +kernel
theorem dL_comes_234 : decode cL_comes 234 = .ok (.goto 4, 3) := by decide +kernel
theorem dL_comes_237 : decode cL_comes 237 = .ok (.iconst 0, 1) := by decide +kernel
theorem dL_comes_238 : decode cL_comes 238 = .ok (.istore 8, 2) := by decide +kernel
theorem dL_comes_240 : decode cL_comes 240 = .ok (.iload 8, 2) := by decide +kernel
theorem dL_comes_242 : decode cL_comes 242 = .ok (.ireturn, 1) := by decide +kernel
theorem dL_law_0 : decode cL_law 0 = .ok (.new 10, 3) := by decide +kernel
theorem dL_law_3 : decode cL_law 3 = .ok (.dup, 1) := by decide +kernel
theorem dL_law_4 : decode cL_law 4 = .ok (.invokespecial 91, 3) := by decide +kernel
theorem dL_law_7 : decode cL_law 7 = .ok (.astore_n 1, 1) := by decide +kernel
theorem dL_law_8 : decode cL_law 8 = .ok (.new 10, 3) := by decide +kernel
theorem dL_law_11 : decode cL_law 11 = .ok (.dup, 1) := by decide +kernel
theorem dL_law_12 : decode cL_law 12 = .ok (.invokespecial 91, 3) := by decide +kernel
theorem dL_law_15 : decode cL_law 15 = .ok (.astore_n 2, 1) := by decide +kernel
theorem dL_law_16 : decode cL_law 16 = .ok (.iconst 1, 1) := by decide +kernel
theorem dL_law_17 : decode cL_law 17 = .ok (.istore_n 3, 1) := by decide +kernel
theorem dL_law_18 : decode cL_law 18 = .ok (.iconst 0, 1) := by decide +kernel
theorem dL_law_19 : decode cL_law 19 = .ok (.istore 4, 2) := by decide +kernel
theorem dL_law_21 : decode cL_law 21 = .ok (.iload 4, 2) := by decide +kernel
theorem dL_law_23 : decode cL_law 23 = .ok (.iconst 5, 1) := by decide +kernel
theorem dL_law_24 : decode cL_law 24 = .ok (.if_icmp .ge 129, 3) := by decide +kernel
theorem dL_law_27 : decode cL_law 27 = .ok (.aload_n 0, 1) := by decide +kernel
theorem dL_law_28 : decode cL_law 28 = .ok (.iload 4, 2) := by decide +kernel
theorem dL_law_30 : decode cL_law 30 = .ok (.invokestatic 92, 3) := by decide +kernel
theorem dL_law_33 : decode cL_law 33 = .ok (.istore 5, 2) := by decide +kernel
theorem dL_law_35 : decode cL_law 35 = .ok (.aload_n 0, 1) := by decide +kernel
theorem dL_law_36 : decode cL_law 36 = .ok (.iconst 4, 1) := by decide +kernel
theorem dL_law_37 : decode cL_law 37 = .ok (.iload 4, 2) := by decide +kernel
theorem dL_law_39 : decode cL_law 39 = .ok (.isub, 1) := by decide +kernel
theorem dL_law_40 : decode cL_law 40 = .ok (.invokestatic 92, 3) := by decide +kernel
theorem dL_law_43 : decode cL_law 43 = .ok (.istore 6, 2) := by decide +kernel
theorem dL_law_45 : decode cL_law 45 = .ok (.iload_n 3, 1) := by decide +kernel
theorem dL_law_46 : decode cL_law 46 = .ok (.ifCond .eq 99, 3) := by decide +kernel
theorem dL_law_49 : decode cL_law 49 = .ok (.aload_n 1, 1) := by decide +kernel
theorem dL_law_50 : decode cL_law 50 = .ok (.iload 5, 2) := by decide +kernel
theorem dL_law_52 : decode cL_law 52 = .ok (.iconst 3, 1) := by decide +kernel
theorem dL_law_53 : decode cL_law 53 = .ok (.invokestatic 18, 3) := by decide +kernel
theorem dL_law_56 : decode cL_law 56 = .ok (.iload 5, 2) := by decide +kernel
theorem dL_law_58 : decode cL_law 58 = .ok (.iconst 3, 1) := by decide +kernel
theorem dL_law_59 : decode cL_law 59 = .ok (.ishr, 1) := by decide +kernel
theorem dL_law_60 : decode cL_law 60 = .ok (.iconst 3, 1) := by decide +kernel
theorem dL_law_61 : decode cL_law 61 = .ok (.invokestatic 18, 3) := by decide +kernel
theorem dL_law_64 : decode cL_law 64 = .ok (.iconst 1, 1) := by decide +kernel
theorem dL_law_65 : decode cL_law 65 = .ok (.iload 5, 2) := by decide +kernel
theorem dL_law_67 : decode cL_law 67 = .ok (.bipush 6, 2) := by decide +kernel
theorem dL_law_69 : decode cL_law 69 = .ok (.ishr, 1) := by decide +kernel
theorem dL_law_70 : decode cL_law 70 = .ok (.bipush 12, 2) := by decide +kernel
theorem dL_law_72 : decode cL_law 72 = .ok (.invokestatic 18, 3) := by decide +kernel
theorem dL_law_75 : decode cL_law 75 = .ok (.iadd, 1) := by decide +kernel
theorem dL_law_76 : decode cL_law 76 = .ok (.iconst 1, 1) := by decide +kernel
theorem dL_law_77 : decode cL_law 77 = .ok (.iload 5, 2) := by decide +kernel
theorem dL_law_79 : decode cL_law 79 = .ok (.bipush 12, 2) := by decide +kernel
theorem dL_law_81 : decode cL_law 81 = .ok (.ishr, 1) := by decide +kernel
theorem dL_law_82 : decode cL_law 82 = .ok (.iconst 3, 1) := by decide +kernel
theorem dL_law_83 : decode cL_law 83 = .ok (.invokestatic 18, 3) := by decide +kernel
theorem dL_law_86 : decode cL_law 86 = .ok (.iadd, 1) := by decide +kernel
theorem dL_law_87 : decode cL_law 87 = .ok (.invokevirtual 96, 3) := by decide +kernel
theorem dL_law_90 : decode cL_law 90 = .ok (.iload 4, 2) := by decide +kernel
theorem dL_law_92 : decode cL_law 92 = .ok (.if_icmp .ne 53, 3) := by decide +kernel
theorem dL_law_95 : decode cL_law 95 = .ok (.aload_n 2, 1) := by decide +kernel
theorem dL_law_96 : decode cL_law 96 = .ok (.iload 6, 2) := by decide +kernel
theorem dL_law_98 : decode cL_law 98 = .ok (.iconst 3, 1) := by decide +kernel
theorem dL_law_99 : decode cL_law 99 = .ok (.invokestatic 18, 3) := by decide +kernel
theorem dL_law_102 : decode cL_law 102 = .ok (.iload 6, 2) := by decide +kernel
theorem dL_law_104 : decode cL_law 104 = .ok (.iconst 3, 1) := by decide +kernel
theorem dL_law_105 : decode cL_law 105 = .ok (.ishr, 1) := by decide +kernel
theorem dL_law_106 : decode cL_law 106 = .ok (.iconst 3, 1) := by decide +kernel
theorem dL_law_107 : decode cL_law 107 = .ok (.invokestatic 18, 3) := by decide +kernel
theorem dL_law_110 : decode cL_law 110 = .ok (.iconst 1, 1) := by decide +kernel
theorem dL_law_111 : decode cL_law 111 = .ok (.iload 6, 2) := by decide +kernel
theorem dL_law_113 : decode cL_law 113 = .ok (.bipush 6, 2) := by decide +kernel
theorem dL_law_115 : decode cL_law 115 = .ok (.ishr, 1) := by decide +kernel
theorem dL_law_116 : decode cL_law 116 = .ok (.bipush 12, 2) := by decide +kernel
theorem dL_law_118 : decode cL_law 118 = .ok (.invokestatic 18, 3) := by decide +kernel
theorem dL_law_121 : decode cL_law 121 = .ok (.iadd, 1) := by decide +kernel
theorem dL_law_122 : decode cL_law 122 = .ok (.iconst 1, 1) := by decide +kernel
theorem dL_law_123 : decode cL_law 123 = .ok (.iload 6, 2) := by decide +kernel
theorem dL_law_125 : decode cL_law 125 = .ok (.bipush 12, 2) := by decide +kernel
theorem dL_law_127 : decode cL_law 127 = .ok (.ishr, 1) := by decide +kernel
theorem dL_law_128 : decode cL_law 128 = .ok (.iconst 3, 1) := by decide +kernel
theorem dL_law_129 : decode cL_law 129 = .ok (.invokestatic 18, 3) := by decide +kernel
theorem dL_law_132 : decode cL_law 132 = .ok (.iadd, 1) := by decide +kernel
theorem dL_law_133 : decode cL_law 133 = .ok (.invokevirtual 96, 3) := by decide +kernel
theorem dL_law_136 : decode cL_law 136 = .ok (.iload 4, 2) := by decide +kernel
theorem dL_law_138 : decode cL_law 138 = .ok (.if_icmp .ne 7, 3) := by decide +kernel
theorem dL_law_141 : decode cL_law 141 = .ok (.iconst 1, 1) := by decide +kernel
theorem dL_law_142 : decode cL_law 142 = .ok (.goto 4, 3) := by decide +kernel
theorem dL_law_145 : decode cL_law 145 = .ok (.iconst 0, 1) := by decide +kernel
theorem dL_law_146 : decode cL_law 146 = .ok (.istore_n 3, 1) := by decide +kernel
theorem dL_law_147 : decode cL_law 147 = .ok (.iinc 4 1, 3) := by decide +kernel
theorem dL_law_150 : decode cL_law 150 = .ok (.goto (-129), 3) := by decide +kernel
theorem dL_law_153 : decode cL_law 153 = .ok (.iload_n 3, 1) := by decide +kernel
theorem dL_law_154 : decode cL_law 154 = .ok (.ifCond .eq 55, 3) := by decide +kernel
theorem dL_law_157 : decode cL_law 157 = .ok (.aload_n 1, 1) := by decide +kernel
theorem dL_law_158 : decode cL_law 158 = .ok (.iconst 0, 1) := by decide +kernel
theorem dL_law_159 : decode cL_law 159 = .ok (.bipush 6, 2) := by decide +kernel
theorem dL_law_161 : decode cL_law 161 = .ok (.invokevirtual 56, 3) := by decide +kernel
theorem dL_law_164 : decode cL_law 164 = .ok (.bipush 56, 2) := by decide +kernel
theorem dL_law_166 : decode cL_law 166 = .ok (.if_icmp .ne 43, 3) := by decide +kernel
theorem dL_law_169 : decode cL_law 169 = .ok (.aload_n 2, 1) := by decide +kernel
theorem dL_law_170 : decode cL_law 170 = .ok (.iconst 0, 1) := by decide +kernel
theorem dL_law_171 : decode cL_law 171 = .ok (.bipush 6, 2) := by decide +kernel
theorem dL_law_173 : decode cL_law 173 = .ok (.invokevirtual 56, 3) := by decide +kernel
theorem dL_law_176 : decode cL_law 176 = .ok (.bipush 56, 2) := by decide +kernel
theorem dL_law_178 : decode cL_law 178 = .ok (.if_icmp .ne 31, 3) := by decide +kernel
theorem dL_law_181 : decode cL_law 181 = .ok (.aload_n 1, 1) := by decide +kernel
theorem dL_law_182 : decode cL_law 182 = .ok (.iconst 1, 1) := by decide +kernel
theorem dL_law_183 : decode cL_law 183 = .ok (.bipush 9, 2) := by decide +kernel
theorem dL_law_185 : decode cL_law 185 = .ok (.invokevirtual 56, 3) := by decide +kernel
theorem dL_law_188 : decode cL_law 188 = .ok (.bipush 100, 2) := by decide +kernel
theorem dL_law_190 : decode cL_law 190 = .ok (.if_icmp .ne 19, 3) := by decide +kernel
theorem dL_law_193 : decode cL_law 193 = .ok (.aload_n 2, 1) := by decide +kernel
theorem dL_law_194 : decode cL_law 194 = .ok (.iconst 1, 1) := by decide +kernel
theorem dL_law_195 : decode cL_law 195 = .ok (.bipush 9, 2) := by decide +kernel
theorem dL_law_197 : decode cL_law 197 = .ok (.invokevirtual 56, 3) := by decide +kernel
theorem dL_law_200 : decode cL_law 200 = .ok (.bipush 100, 2) := by decide +kernel
theorem dL_law_202 : decode cL_law 202 = .ok (.if_icmp .ne 7, 3) := by decide +kernel
theorem dL_law_205 : decode cL_law 205 = .ok (.iconst 1, 1) := by decide +kernel
theorem dL_law_206 : decode cL_law 206 = .ok (.goto 4, 3) := by decide +kernel
theorem dL_law_209 : decode cL_law 209 = .ok (.iconst 0, 1) := by decide +kernel
theorem dL_law_210 : decode cL_law 210 = .ok (.istore_n 3, 1) := by decide +kernel
theorem dL_law_211 : decode cL_law 211 = .ok (.iconst 5, 1) := by decide +kernel
theorem dL_law_212 : decode cL_law 212 = .ok (.istore 4, 2) := by decide +kernel
theorem dL_law_214 : decode cL_law 214 = .ok (.iload 4, 2) := by decide +kernel
theorem dL_law_216 : decode cL_law 216 = .ok (.bipush 50, 2) := by decide +kernel
theorem dL_law_218 : decode cL_law 218 = .ok (.if_icmp .ge 41, 3) := by decide +kernel
theorem dL_law_221 : decode cL_law 221 = .ok (.iload_n 3, 1) := by decide +kernel
theorem dL_law_222 : decode cL_law 222 = .ok (.ifCond .eq 37, 3) := by decide +kernel
theorem dL_law_225 : decode cL_law 225 = .ok (.aload_n 1, 1) := by decide +kernel
theorem dL_law_226 : decode cL_law 226 = .ok (.aload_n 2, 1) := by decide +kernel
theorem dL_law_227 : decode cL_law 227 = .ok (.aload_n 0, 1) := by decide +kernel
theorem dL_law_228 : decode cL_law 228 = .ok (.iload 4, 2) := by decide +kernel
theorem dL_law_230 : decode cL_law 230 = .ok (.invokestatic 92, 3) := by decide +kernel
theorem dL_law_233 : decode cL_law 233 = .ok (.invokestatic 100, 3) := by decide +kernel
theorem dL_law_236 : decode cL_law 236 = .ok (.ifCond .eq 15, 3) := by decide +kernel
theorem dL_law_239 : decode cL_law 239 = .ok (.aload_n 1, 1) := by decide +kernel
theorem dL_law_240 : decode cL_law 240 = .ok (.aload_n 2, 1) := by decide +kernel
theorem dL_law_241 : decode cL_law 241 = .ok (.invokestatic 103, 3) := by decide +kernel
theorem dL_law_244 : decode cL_law 244 = .ok (.ifCond .eq 7, 3) := by decide +kernel
theorem dL_law_247 : decode cL_law 247 = .ok (.iconst 1, 1) := by decide +kernel
theorem dL_law_248 : decode cL_law 248 = .ok (.goto 4, 3) := by decide +kernel
theorem dL_law_251 : decode cL_law 251 = .ok (.iconst 0, 1) := by decide +kernel
theorem dL_law_252 : decode cL_law 252 = .ok (.istore_n 3, 1) := by decide +kernel
theorem dL_law_253 : decode cL_law 253 = .ok (.iinc 4 1, 3) := by decide +kernel
theorem dL_law_256 : decode cL_law 256 = .ok (.goto (-42), 3) := by decide +kernel
theorem dL_law_259 : decode cL_law 259 = .ok (.iload_n 3, 1) := by decide +kernel
theorem dL_law_260 : decode cL_law 260 = .ok (.ifCond .eq 21, 3) := by decide +kernel
theorem dL_law_263 : decode cL_law 263 = .ok (.aload_n 1, 1) := by decide +kernel
theorem dL_law_264 : decode cL_law 264 = .ok (.aload_n 2, 1) := by decide +kernel
theorem dL_law_265 : decode cL_law 265 = .ok (.aload_n 0, 1) := by decide +kernel
theorem dL_law_266 : decode cL_law 266 = .ok (.bipush 50, 2) := by decide +kernel
theorem dL_law_268 : decode cL_law 268 = .ok (.invokestatic 92, 3) := by decide +kernel
theorem dL_law_271 : decode cL_law 271 = .ok (.invokestatic 107, 3) := by decide +kernel
theorem dL_law_274 : decode cL_law 274 = .ok (.ifCond .eq 7, 3) := by decide +kernel
theorem dL_law_277 : decode cL_law 277 = .ok (.iconst 1, 1) := by decide +kernel
theorem dL_law_278 : decode cL_law 278 = .ok (.goto 4, 3) := by decide +kernel
theorem dL_law_281 : decode cL_law 281 = .ok (.iconst 0, 1) := by decide +kernel
theorem dL_law_282 : decode cL_law 282 = .ok (.ireturn, 1) := by decide +kernel
