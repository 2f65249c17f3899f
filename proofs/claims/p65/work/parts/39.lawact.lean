/-! written by program from the bytecode: what each method computes, and its contract -/

theorem dL_act_0 : decode cL_act 0 = .ok (.iload_n 1, 1) := by decide +kernel
theorem dL_act_1 : decode cL_act 1 = .ok (.iconst 5, 1) := by decide +kernel
theorem dL_act_2 : decode cL_act 2 = .ok (.ishr, 1) := by decide +kernel
theorem dL_act_3 : decode cL_act 3 = .ok (.istore_n 3, 1) := by decide +kernel
theorem dL_act_4 : decode cL_act 4 = .ok (.iload_n 1, 1) := by decide +kernel
theorem dL_act_5 : decode cL_act 5 = .ok (.bipush 22, 2) := by decide +kernel
theorem dL_act_7 : decode cL_act 7 = .ok (.ishr, 1) := by decide +kernel
theorem dL_act_8 : decode cL_act 8 = .ok (.bipush 9, 2) := by decide +kernel
theorem dL_act_10 : decode cL_act 10 = .ok (.invokestatic 68, 3) := by decide +kernel
theorem dL_act_13 : decode cL_act 13 = .ok (.ifCond .le 7, 3) := by decide +kernel
theorem dL_act_16 : decode cL_act 16 = .ok (.iconst 1, 1) := by decide +kernel
theorem dL_act_17 : decode cL_act 17 = .ok (.goto 4, 3) := by decide +kernel
theorem dL_act_20 : decode cL_act 20 = .ok (.iconst 0, 1) := by decide +kernel
theorem dL_act_21 : decode cL_act 21 = .ok (.istore 4, 2) := by decide +kernel
theorem dL_act_23 : decode cL_act 23 = .ok (.iload_n 1, 1) := by decide +kernel
theorem dL_act_24 : decode cL_act 24 = .ok (.bipush 24, 2) := by decide +kernel
theorem dL_act_26 : decode cL_act 26 = .ok (.invokestatic 68, 3) := by decide +kernel
theorem dL_act_29 : decode cL_act 29 = .ok (.istore 5, 2) := by decide +kernel
theorem dL_act_31 : decode cL_act 31 = .ok (.iload 5, 2) := by decide +kernel
theorem dL_act_33 : decode cL_act 33 = .ok (.bipush 17, 2) := by decide +kernel
theorem dL_act_35 : decode cL_act 35 = .ok (.if_icmp .ge 313, 3) := by decide +kernel
theorem dL_act_38 : decode cL_act 38 = .ok (.aload_n 0, 1) := by decide +kernel
theorem dL_act_39 : decode cL_act 39 = .ok (.invokevirtual 74, 3) := by decide +kernel
theorem dL_act_42 : decode cL_act 42 = .ok (.ifCond .eq 27, 3) := by decide +kernel
theorem dL_act_45 : decode cL_act 45 = .ok (.aload_n 0, 1) := by decide +kernel
theorem dL_act_46 : decode cL_act 46 = .ok (.invokevirtual 77, 3) := by decide +kernel
theorem dL_act_49 : decode cL_act 49 = .ok (.iconst 2, 1) := by decide +kernel
theorem dL_act_50 : decode cL_act 50 = .ok (.aload_n 0, 1) := by decide +kernel
theorem dL_act_51 : decode cL_act 51 = .ok (.invokevirtual 80, 3) := by decide +kernel
theorem dL_act_54 : decode cL_act 54 = .ok (.imul, 1) := by decide +kernel
theorem dL_act_55 : decode cL_act 55 = .ok (.if_icmp .eq 10, 3) := by decide +kernel
theorem dL_act_58 : decode cL_act 58 = .ok (.aload_n 0, 1) := by decide +kernel
theorem dL_act_59 : decode cL_act 59 = .ok (.invokevirtual 83, 3) := by decide +kernel
theorem dL_act_62 : decode cL_act 62 = .ok (.ifCond .eq 7, 3) := by decide +kernel
theorem dL_act_65 : decode cL_act 65 = .ok (.iconst 1, 1) := by decide +kernel
theorem dL_act_66 : decode cL_act 66 = .ok (.goto 4, 3) := by decide +kernel
theorem dL_act_69 : decode cL_act 69 = .ok (.iconst 0, 1) := by decide +kernel
theorem dL_act_70 : decode cL_act 70 = .ok (.istore 6, 2) := by decide +kernel
theorem dL_act_72 : decode cL_act 72 = .ok (.aload_n 0, 1) := by decide +kernel
theorem dL_act_73 : decode cL_act 73 = .ok (.invokevirtual 74, 3) := by decide +kernel
theorem dL_act_76 : decode cL_act 76 = .ok (.ifCond .ne 58, 3) := by decide +kernel
theorem dL_act_79 : decode cL_act 79 = .ok (.iload 4, 2) := by decide +kernel
theorem dL_act_81 : decode cL_act 81 = .ok (.ifCond .eq 53, 3) := by decide +kernel
theorem dL_act_84 : decode cL_act 84 = .ok (.aload_n 0, 1) := by decide +kernel
theorem dL_act_85 : decode cL_act 85 = .ok (.invokevirtual 86, 3) := by decide +kernel
theorem dL_act_88 : decode cL_act 88 = .ok (.ifCond .eq 28, 3) := by decide +kernel
theorem dL_act_91 : decode cL_act 91 = .ok (.iload_n 3, 1) := by decide +kernel
theorem dL_act_92 : decode cL_act 92 = .ok (.iconst 1, 1) := by decide +kernel
theorem dL_act_93 : decode cL_act 93 = .ok (.iand, 1) := by decide +kernel
theorem dL_act_94 : decode cL_act 94 = .ok (.ifCond .ne 22, 3) := by decide +kernel
theorem dL_act_97 : decode cL_act 97 = .ok (.aload_n 0, 1) := by decide +kernel
theorem dL_act_98 : decode cL_act 98 = .ok (.iconst 3, 1) := by decide +kernel
theorem dL_act_99 : decode cL_act 99 = .ok (.iconst 1, 1) := by decide +kernel
theorem dL_act_100 : decode cL_act 100 = .ok (.iload_n 3, 1) := by decide +kernel
theorem dL_act_101 : decode cL_act 101 = .ok (.bipush 40, 2) := by decide +kernel
theorem dL_act_103 : decode cL_act 103 = .ok (.invokestatic 68, 3) := by decide +kernel
theorem dL_act_106 : decode cL_act 106 = .ok (.iadd, 1) := by decide +kernel
theorem dL_act_107 : decode cL_act 107 = .ok (.iconst 0, 1) := by decide +kernel
theorem dL_act_108 : decode cL_act 108 = .ok (.iconst 0, 1) := by decide +kernel
theorem dL_act_109 : decode cL_act 109 = .ok (.aload_n 2, 1) := by decide +kernel
theorem dL_act_110 : decode cL_act 110 = .ok (.invokestatic 89, 3) := by decide +kernel
theorem dL_act_113 : decode cL_act 113 = .ok (.goto 20, 3) := by decide +kernel
theorem dL_act_116 : decode cL_act 116 = .ok (.aload_n 0, 1) := by decide +kernel
theorem dL_act_117 : decode cL_act 117 = .ok (.iconst 0, 1) := by decide +kernel
theorem dL_act_118 : decode cL_act 118 = .ok (.bipush 20, 2) := by decide +kernel
theorem dL_act_120 : decode cL_act 120 = .ok (.iload_n 3, 1) := by decide +kernel
theorem dL_act_121 : decode cL_act 121 = .ok (.bipush 31, 2) := by decide +kernel
theorem dL_act_123 : decode cL_act 123 = .ok (.invokestatic 68, 3) := by decide +kernel
theorem dL_act_126 : decode cL_act 126 = .ok (.iadd, 1) := by decide +kernel
theorem dL_act_127 : decode cL_act 127 = .ok (.iconst 0, 1) := by decide +kernel
theorem dL_act_128 : decode cL_act 128 = .ok (.iconst 0, 1) := by decide +kernel
theorem dL_act_129 : decode cL_act 129 = .ok (.aload_n 2, 1) := by decide +kernel
theorem dL_act_130 : decode cL_act 130 = .ok (.invokestatic 89, 3) := by decide +kernel
theorem dL_act_133 : decode cL_act 133 = .ok (.ireturn, 1) := by decide +kernel
theorem dL_act_134 : decode cL_act 134 = .ok (.aload_n 0, 1) := by decide +kernel
theorem dL_act_135 : decode cL_act 135 = .ok (.iconst 5, 1) := by decide +kernel
theorem dL_act_136 : decode cL_act 136 = .ok (.iconst 0, 1) := by decide +kernel
theorem dL_act_137 : decode cL_act 137 = .ok (.invokestatic 93, 3) := by decide +kernel
theorem dL_act_140 : decode cL_act 140 = .ok (.bipush (-9), 2) := by decide +kernel
theorem dL_act_142 : decode cL_act 142 = .ok (.if_icmp .ne 8, 3) := by decide +kernel
theorem dL_act_145 : decode cL_act 145 = .ok (.bipush 30, 2) := by decide +kernel
theorem dL_act_147 : decode cL_act 147 = .ok (.goto 9, 3) := by decide +kernel
theorem dL_act_150 : decode cL_act 150 = .ok (.aload_n 0, 1) := by decide +kernel
theorem dL_act_151 : decode cL_act 151 = .ok (.iconst 5, 1) := by decide +kernel
theorem dL_act_152 : decode cL_act 152 = .ok (.iconst 0, 1) := by decide +kernel
theorem dL_act_153 : decode cL_act 153 = .ok (.invokestatic 93, 3) := by decide +kernel
theorem dL_act_156 : decode cL_act 156 = .ok (.istore 7, 2) := by decide +kernel
theorem dL_act_158 : decode cL_act 158 = .ok (.iload_n 3, 1) := by decide +kernel
theorem dL_act_159 : decode cL_act 159 = .ok (.bipush 11, 2) := by decide +kernel
theorem dL_act_161 : decode cL_act 161 = .ok (.ishr, 1) := by decide +kernel
theorem dL_act_162 : decode cL_act 162 = .ok (.iconst 3, 1) := by decide +kernel
theorem dL_act_163 : decode cL_act 163 = .ok (.iand, 1) := by decide +kernel
theorem dL_act_164 : decode cL_act 164 = .ok (.iconst 2, 1) := by decide +kernel
theorem dL_act_165 : decode cL_act 165 = .ok (.if_icmp .ge 19, 3) := by decide +kernel
theorem dL_act_168 : decode cL_act 168 = .ok (.iload 7, 2) := by decide +kernel
theorem dL_act_170 : decode cL_act 170 = .ok (.iconst 2, 1) := by decide +kernel
theorem dL_act_171 : decode cL_act 171 = .ok (.isub, 1) := by decide +kernel
theorem dL_act_172 : decode cL_act 172 = .ok (.iload_n 3, 1) := by decide +kernel
theorem dL_act_173 : decode cL_act 173 = .ok (.iconst 4, 1) := by decide +kernel
theorem dL_act_174 : decode cL_act 174 = .ok (.ishr, 1) := by decide +kernel
theorem dL_act_175 : decode cL_act 175 = .ok (.bipush 20, 2) := by decide +kernel
theorem dL_act_177 : decode cL_act 177 = .ok (.invokestatic 68, 3) := by decide +kernel
theorem dL_act_180 : decode cL_act 180 = .ok (.iadd, 1) := by decide +kernel
theorem dL_act_181 : decode cL_act 181 = .ok (.goto 24, 3) := by decide +kernel
theorem dL_act_184 : decode cL_act 184 = .ok (.bipush 15, 2) := by decide +kernel
theorem dL_act_186 : decode cL_act 186 = .ok (.iload_n 3, 1) := by decide +kernel
theorem dL_act_187 : decode cL_act 187 = .ok (.iconst 4, 1) := by decide +kernel
theorem dL_act_188 : decode cL_act 188 = .ok (.ishr, 1) := by decide +kernel
theorem dL_act_189 : decode cL_act 189 = .ok (.iload 4, 2) := by decide +kernel
theorem dL_act_191 : decode cL_act 191 = .ok (.ifCond .eq 8, 3) := by decide +kernel
theorem dL_act_194 : decode cL_act 194 = .ok (.bipush 56, 2) := by decide +kernel
theorem dL_act_196 : decode cL_act 196 = .ok (.goto 5, 3) := by decide +kernel
theorem dL_act_199 : decode cL_act 199 = .ok (.bipush 60, 2) := by decide +kernel
theorem dL_act_201 : decode cL_act 201 = .ok (.invokestatic 68, 3) := by decide +kernel
theorem dL_act_204 : decode cL_act 204 = .ok (.iadd, 1) := by decide +kernel
theorem dL_act_205 : decode cL_act 205 = .ok (.istore 8, 2) := by decide +kernel
theorem dL_act_207 : decode cL_act 207 = .ok (.iload 4, 2) := by decide +kernel
theorem dL_act_209 : decode cL_act 209 = .ok (.ifCond .ne 8, 3) := by decide +kernel
theorem dL_act_212 : decode cL_act 212 = .ok (.iload 8, 2) := by decide +kernel
theorem dL_act_214 : decode cL_act 214 = .ok (.goto 29, 3) := by decide +kernel
theorem dL_act_217 : decode cL_act 217 = .ok (.iload 8, 2) := by decide +kernel
theorem dL_act_219 : decode cL_act 219 = .ok (.bipush 15, 2) := by decide +kernel
theorem dL_act_221 : decode cL_act 221 = .ok (.if_icmp .ge 8, 3) := by decide +kernel
theorem dL_act_224 : decode cL_act 224 = .ok (.bipush 15, 2) := by decide +kernel
theorem dL_act_226 : decode cL_act 226 = .ok (.goto 17, 3) := by decide +kernel
theorem dL_act_229 : decode cL_act 229 = .ok (.iload 8, 2) := by decide +kernel
theorem dL_act_231 : decode cL_act 231 = .ok (.bipush 70, 2) := by decide +kernel
theorem dL_act_233 : decode cL_act 233 = .ok (.if_icmp .le 8, 3) := by decide +kernel
theorem dL_act_236 : decode cL_act 236 = .ok (.bipush 70, 2) := by decide +kernel
theorem dL_act_238 : decode cL_act 238 = .ok (.goto 5, 3) := by decide +kernel
theorem dL_act_241 : decode cL_act 241 = .ok (.iload 8, 2) := by decide +kernel
theorem dL_act_243 : decode cL_act 243 = .ok (.istore 8, 2) := by decide +kernel
theorem dL_act_245 : decode cL_act 245 = .ok (.iload 6, 2) := by decide +kernel
theorem dL_act_247 : decode cL_act 247 = .ok (.ifCond .eq 20, 3) := by decide +kernel
theorem dL_act_250 : decode cL_act 250 = .ok (.iload 4, 2) := by decide +kernel
theorem dL_act_252 : decode cL_act 252 = .ok (.ifCond .eq 15, 3) := by decide +kernel
theorem dL_act_255 : decode cL_act 255 = .ok (.aload_n 0, 1) := by decide +kernel
theorem dL_act_256 : decode cL_act 256 = .ok (.iconst 2, 1) := by decide +kernel
theorem dL_act_257 : decode cL_act 257 = .ok (.iconst 0, 1) := by decide +kernel
theorem dL_act_258 : decode cL_act 258 = .ok (.iconst 0, 1) := by decide +kernel
theorem dL_act_259 : decode cL_act 259 = .ok (.iconst 0, 1) := by decide +kernel
theorem dL_act_260 : decode cL_act 260 = .ok (.aload_n 2, 1) := by decide +kernel
theorem dL_act_261 : decode cL_act 261 = .ok (.invokestatic 89, 3) := by decide +kernel
theorem dL_act_264 : decode cL_act 264 = .ok (.goto 83, 3) := by decide +kernel
theorem dL_act_267 : decode cL_act 267 = .ok (.aload_n 0, 1) := by decide +kernel
theorem dL_act_268 : decode cL_act 268 = .ok (.iconst 1, 1) := by decide +kernel
theorem dL_act_269 : decode cL_act 269 = .ok (.iload_n 3, 1) := by decide +kernel
theorem dL_act_270 : decode cL_act 270 = .ok (.bipush 13, 2) := by decide +kernel
theorem dL_act_272 : decode cL_act 272 = .ok (.ishr, 1) := by decide +kernel
theorem dL_act_273 : decode cL_act 273 = .ok (.iconst 1, 1) := by decide +kernel
theorem dL_act_274 : decode cL_act 274 = .ok (.iand, 1) := by decide +kernel
theorem dL_act_275 : decode cL_act 275 = .ok (.ifCond .ne 13, 3) := by decide +kernel
theorem dL_act_278 : decode cL_act 278 = .ok (.iload_n 3, 1) := by decide +kernel
theorem dL_act_279 : decode cL_act 279 = .ok (.iconst 3, 1) := by decide +kernel
theorem dL_act_280 : decode cL_act 280 = .ok (.invokestatic 68, 3) := by decide +kernel
theorem dL_act_283 : decode cL_act 283 = .ok (.iconst 1, 1) := by decide +kernel
theorem dL_act_284 : decode cL_act 284 = .ok (.isub, 1) := by decide +kernel
theorem dL_act_285 : decode cL_act 285 = .ok (.goto 22, 3) := by decide +kernel
theorem dL_act_288 : decode cL_act 288 = .ok (.iload_n 3, 1) := by decide +kernel
theorem dL_act_289 : decode cL_act 289 = .ok (.iload 4, 2) := by decide +kernel
theorem dL_act_291 : decode cL_act 291 = .ok (.ifCond .eq 8, 3) := by decide +kernel
theorem dL_act_294 : decode cL_act 294 = .ok (.bipush 19, 2) := by decide +kernel
theorem dL_act_296 : decode cL_act 296 = .ok (.goto 5, 3) := by decide +kernel
theorem dL_act_299 : decode cL_act 299 = .ok (.bipush 22, 2) := by decide +kernel
theorem dL_act_301 : decode cL_act 301 = .ok (.invokestatic 68, 3) := by decide +kernel
theorem dL_act_304 : decode cL_act 304 = .ok (.bipush 9, 2) := by decide +kernel
theorem dL_act_306 : decode cL_act 306 = .ok (.isub, 1) := by decide +kernel
theorem dL_act_307 : decode cL_act 307 = .ok (.iload 8, 2) := by decide +kernel
theorem dL_act_309 : decode cL_act 309 = .ok (.iload_n 3, 1) := by decide +kernel
theorem dL_act_310 : decode cL_act 310 = .ok (.bipush 14, 2) := by decide +kernel
theorem dL_act_312 : decode cL_act 312 = .ok (.ishr, 1) := by decide +kernel
theorem dL_act_313 : decode cL_act 313 = .ok (.iconst 1, 1) := by decide +kernel
theorem dL_act_314 : decode cL_act 314 = .ok (.iand, 1) := by decide +kernel
theorem dL_act_315 : decode cL_act 315 = .ok (.ifCond .ne 7, 3) := by decide +kernel
theorem dL_act_318 : decode cL_act 318 = .ok (.iconst 0, 1) := by decide +kernel
theorem dL_act_319 : decode cL_act 319 = .ok (.goto 24, 3) := by decide +kernel
theorem dL_act_322 : decode cL_act 322 = .ok (.iload_n 3, 1) := by decide +kernel
theorem dL_act_323 : decode cL_act 323 = .ok (.bipush 7, 2) := by decide +kernel
theorem dL_act_325 : decode cL_act 325 = .ok (.ishr, 1) := by decide +kernel
theorem dL_act_326 : decode cL_act 326 = .ok (.iload 4, 2) := by decide +kernel
theorem dL_act_328 : decode cL_act 328 = .ok (.ifCond .eq 8, 3) := by decide +kernel
theorem dL_act_331 : decode cL_act 331 = .ok (.bipush 7, 2) := by decide +kernel
theorem dL_act_333 : decode cL_act 333 = .ok (.goto 5, 3) := by decide +kernel
theorem dL_act_336 : decode cL_act 336 = .ok (.bipush 9, 2) := by decide +kernel
theorem dL_act_338 : decode cL_act 338 = .ok (.invokestatic 68, 3) := by decide +kernel
theorem dL_act_341 : decode cL_act 341 = .ok (.iconst 3, 1) := by decide +kernel
theorem dL_act_342 : decode cL_act 342 = .ok (.isub, 1) := by decide +kernel
theorem dL_act_343 : decode cL_act 343 = .ok (.aload_n 2, 1) := by decide +kernel
theorem dL_act_344 : decode cL_act 344 = .ok (.invokestatic 89, 3) := by decide +kernel
theorem dL_act_347 : decode cL_act 347 = .ok (.ireturn, 1) := by decide +kernel
theorem dL_act_348 : decode cL_act 348 = .ok (.iload 5, 2) := by decide +kernel
theorem dL_act_350 : decode cL_act 350 = .ok (.bipush 19, 2) := by decide +kernel
theorem dL_act_352 : decode cL_act 352 = .ok (.if_icmp .ge 32, 3) := by decide +kernel
theorem dL_act_355 : decode cL_act 355 = .ok (.aload_n 0, 1) := by decide +kernel
theorem dL_act_356 : decode cL_act 356 = .ok (.iconst 5, 1) := by decide +kernel
theorem dL_act_357 : decode cL_act 357 = .ok (.iload_n 3, 1) := by decide +kernel
theorem dL_act_358 : decode cL_act 358 = .ok (.iload 4, 2) := by decide +kernel
theorem dL_act_360 : decode cL_act 360 = .ok (.ifCond .eq 8, 3) := by decide +kernel
theorem dL_act_363 : decode cL_act 363 = .ok (.bipush 11, 2) := by decide +kernel
theorem dL_act_365 : decode cL_act 365 = .ok (.goto 5, 3) := by decide +kernel
theorem dL_act_368 : decode cL_act 368 = .ok (.bipush 14, 2) := by decide +kernel
theorem dL_act_370 : decode cL_act 370 = .ok (.invokestatic 68, 3) := by decide +kernel
theorem dL_act_373 : decode cL_act 373 = .ok (.iconst 5, 1) := by decide +kernel
theorem dL_act_374 : decode cL_act 374 = .ok (.isub, 1) := by decide +kernel
theorem dL_act_375 : decode cL_act 375 = .ok (.iconst 0, 1) := by decide +kernel
theorem dL_act_376 : decode cL_act 376 = .ok (.iconst 0, 1) := by decide +kernel
theorem dL_act_377 : decode cL_act 377 = .ok (.aload_n 2, 1) := by decide +kernel
theorem dL_act_378 : decode cL_act 378 = .ok (.invokestatic 89, 3) := by decide +kernel
theorem dL_act_381 : decode cL_act 381 = .ok (.goto 135, 3) := by decide +kernel
theorem dL_act_384 : decode cL_act 384 = .ok (.iload 5, 2) := by decide +kernel
theorem dL_act_386 : decode cL_act 386 = .ok (.bipush 19, 2) := by decide +kernel
theorem dL_act_388 : decode cL_act 388 = .ok (.if_icmp .ne 15, 3) := by decide +kernel
theorem dL_act_391 : decode cL_act 391 = .ok (.aload_n 0, 1) := by decide +kernel
theorem dL_act_392 : decode cL_act 392 = .ok (.iconst 2, 1) := by decide +kernel
theorem dL_act_393 : decode cL_act 393 = .ok (.iconst 0, 1) := by decide +kernel
theorem dL_act_394 : decode cL_act 394 = .ok (.iconst 0, 1) := by decide +kernel
theorem dL_act_395 : decode cL_act 395 = .ok (.iconst 0, 1) := by decide +kernel
theorem dL_act_396 : decode cL_act 396 = .ok (.aload_n 2, 1) := by decide +kernel
theorem dL_act_397 : decode cL_act 397 = .ok (.invokestatic 89, 3) := by decide +kernel
theorem dL_act_400 : decode cL_act 400 = .ok (.goto 116, 3) := by decide +kernel
theorem dL_act_403 : decode cL_act 403 = .ok (.iload 5, 2) := by decide +kernel
theorem dL_act_405 : decode cL_act 405 = .ok (.bipush 20, 2) := by decide +kernel
theorem dL_act_407 : decode cL_act 407 = .ok (.if_icmp .ne 30, 3) := by decide +kernel
theorem dL_act_410 : decode cL_act 410 = .ok (.aload_n 0, 1) := by decide +kernel
theorem dL_act_411 : decode cL_act 411 = .ok (.iconst 4, 1) := by decide +kernel
theorem dL_act_412 : decode cL_act 412 = .ok (.iload_n 3, 1) := by decide +kernel
theorem dL_act_413 : decode cL_act 413 = .ok (.iconst 5, 1) := by decide +kernel
theorem dL_act_414 : decode cL_act 414 = .ok (.invokestatic 68, 3) := by decide +kernel
theorem dL_act_417 : decode cL_act 417 = .ok (.iload 4, 2) := by decide +kernel
theorem dL_act_419 : decode cL_act 419 = .ok (.ifCond .eq 7, 3) := by decide +kernel
theorem dL_act_422 : decode cL_act 422 = .ok (.iconst 1, 1) := by decide +kernel
theorem dL_act_423 : decode cL_act 423 = .ok (.goto 4, 3) := by decide +kernel
theorem dL_act_426 : decode cL_act 426 = .ok (.iconst 0, 1) := by decide +kernel
theorem dL_act_427 : decode cL_act 427 = .ok (.iadd, 1) := by decide +kernel
theorem dL_act_428 : decode cL_act 428 = .ok (.iconst 0, 1) := by decide +kernel
theorem dL_act_429 : decode cL_act 429 = .ok (.iconst 0, 1) := by decide +kernel
theorem dL_act_430 : decode cL_act 430 = .ok (.aload_n 2, 1) := by decide +kernel
theorem dL_act_431 : decode cL_act 431 = .ok (.invokestatic 89, 3) := by decide +kernel
theorem dL_act_434 : decode cL_act 434 = .ok (.goto 82, 3) := by decide +kernel
theorem dL_act_437 : decode cL_act 437 = .ok (.iload 5, 2) := by decide +kernel
theorem dL_act_439 : decode cL_act 439 = .ok (.bipush 21, 2) := by decide +kernel
theorem dL_act_441 : decode cL_act 441 = .ok (.if_icmp .ne 16, 3) := by decide +kernel
theorem dL_act_444 : decode cL_act 444 = .ok (.aload_n 0, 1) := by decide +kernel
theorem dL_act_445 : decode cL_act 445 = .ok (.bipush 6, 2) := by decide +kernel
theorem dL_act_447 : decode cL_act 447 = .ok (.iconst 0, 1) := by decide +kernel
theorem dL_act_448 : decode cL_act 448 = .ok (.iconst 0, 1) := by decide +kernel
theorem dL_act_449 : decode cL_act 449 = .ok (.iconst 0, 1) := by decide +kernel
theorem dL_act_450 : decode cL_act 450 = .ok (.aload_n 2, 1) := by decide +kernel
theorem dL_act_451 : decode cL_act 451 = .ok (.invokestatic 89, 3) := by decide +kernel
theorem dL_act_454 : decode cL_act 454 = .ok (.goto 62, 3) := by decide +kernel
theorem dL_act_457 : decode cL_act 457 = .ok (.iload 5, 2) := by decide +kernel
theorem dL_act_459 : decode cL_act 459 = .ok (.bipush 22, 2) := by decide +kernel
theorem dL_act_461 : decode cL_act 461 = .ok (.if_icmp .ne 16, 3) := by decide +kernel
theorem dL_act_464 : decode cL_act 464 = .ok (.aload_n 0, 1) := by decide +kernel
theorem dL_act_465 : decode cL_act 465 = .ok (.bipush 7, 2) := by decide +kernel
theorem dL_act_467 : decode cL_act 467 = .ok (.iconst 0, 1) := by decide +kernel
theorem dL_act_468 : decode cL_act 468 = .ok (.iconst 0, 1) := by decide +kernel
theorem dL_act_469 : decode cL_act 469 = .ok (.iconst 0, 1) := by decide +kernel
theorem dL_act_470 : decode cL_act 470 = .ok (.aload_n 2, 1) := by decide +kernel
theorem dL_act_471 : decode cL_act 471 = .ok (.invokestatic 89, 3) := by decide +kernel
theorem dL_act_474 : decode cL_act 474 = .ok (.goto 42, 3) := by decide +kernel
theorem dL_act_477 : decode cL_act 477 = .ok (.iload_n 3, 1) := by decide +kernel
theorem dL_act_478 : decode cL_act 478 = .ok (.iconst 3, 1) := by decide +kernel
theorem dL_act_479 : decode cL_act 479 = .ok (.iand, 1) := by decide +kernel
theorem dL_act_480 : decode cL_act 480 = .ok (.ifCond .ne 22, 3) := by decide +kernel
theorem dL_act_483 : decode cL_act 483 = .ok (.aload_n 0, 1) := by decide +kernel
theorem dL_act_484 : decode cL_act 484 = .ok (.iconst 3, 1) := by decide +kernel
theorem dL_act_485 : decode cL_act 485 = .ok (.iload_n 3, 1) := by decide +kernel
theorem dL_act_486 : decode cL_act 486 = .ok (.iconst 2, 1) := by decide +kernel
theorem dL_act_487 : decode cL_act 487 = .ok (.ishr, 1) := by decide +kernel
theorem dL_act_488 : decode cL_act 488 = .ok (.bipush 52, 2) := by decide +kernel
theorem dL_act_490 : decode cL_act 490 = .ok (.invokestatic 68, 3) := by decide +kernel
theorem dL_act_493 : decode cL_act 493 = .ok (.iconst 0, 1) := by decide +kernel
theorem dL_act_494 : decode cL_act 494 = .ok (.iconst 0, 1) := by decide +kernel
theorem dL_act_495 : decode cL_act 495 = .ok (.aload_n 2, 1) := by decide +kernel
theorem dL_act_496 : decode cL_act 496 = .ok (.invokestatic 89, 3) := by decide +kernel
theorem dL_act_499 : decode cL_act 499 = .ok (.goto 17, 3) := by decide +kernel
theorem dL_act_502 : decode cL_act 502 = .ok (.aload_n 0, 1) := by decide +kernel
theorem dL_act_503 : decode cL_act 503 = .ok (.iconst 0, 1) := by decide +kernel
theorem dL_act_504 : decode cL_act 504 = .ok (.iload_n 3, 1) := by decide +kernel
theorem dL_act_505 : decode cL_act 505 = .ok (.bipush 70, 2) := by decide +kernel
theorem dL_act_507 : decode cL_act 507 = .ok (.invokestatic 68, 3) := by decide +kernel
theorem dL_act_510 : decode cL_act 510 = .ok (.iconst 0, 1) := by decide +kernel
theorem dL_act_511 : decode cL_act 511 = .ok (.iconst 0, 1) := by decide +kernel
theorem dL_act_512 : decode cL_act 512 = .ok (.aload_n 2, 1) := by decide +kernel
theorem dL_act_513 : decode cL_act 513 = .ok (.invokestatic 89, 3) := by decide +kernel
theorem dL_act_516 : decode cL_act 516 = .ok (.ireturn, 1) := by decide +kernel
def f_L_act (N : Nat) (fo : (Nat → Int32)) (xv : XV) (nv : SV) (v0 : SV) (v1 : SV) (v2 : SV) (v3 : SV) (v4 : SV) (v5 : SV) (p2 : Int32) : Option (Int32 × ((Nat → Int32) × XV × SV × SV × SV × SV × SV × SV × SV)) :=
  (f_L_low N (p2 >>> ((22 : Int32) &&& 31)) (9 : Int32)).bind (fun o1 => jn (fun (s21 : Int32) => (f_L_low N p2 (24 : Int32)).bind (fun o3 => (if (17 : Int32) ≤ o3 then jn (fun (s516 : Int32 × (Nat → Int32) × XV × SV × SV × SV × SV × SV × SV × SV) => some (s516.1, (s516.2.1, s516.2.2.1, s516.2.2.2.1, s516.2.2.2.2.1, s516.2.2.2.2.2.1, s516.2.2.2.2.2.2.1, s516.2.2.2.2.2.2.2.1, s516.2.2.2.2.2.2.2.2.1, s516.2.2.2.2.2.2.2.2.2))) (fun (j516 : (Int32 × (Nat → Int32) × XV × SV × SV × SV × SV × SV × SV × SV) → Option (Int32 × ((Nat → Int32) × XV × SV × SV × SV × SV × SV × SV × SV))) => (if (19 : Int32) ≤ o3 then (if o3 = (19 : Int32) then (f_L_changes N fo xv nv v0 v1 v2 v3 v4 v5 (2 : Int32) (0 : Int32) (0 : Int32) (0 : Int32)).bind (fun o29 => j516 (o29.1, o29.2.1, o29.2.2.1, o29.2.2.2.1, o29.2.2.2.2.1, o29.2.2.2.2.2.1, o29.2.2.2.2.2.2.1, o29.2.2.2.2.2.2.2.1, o29.2.2.2.2.2.2.2.2.1, o29.2.2.2.2.2.2.2.2.2)) else (if o3 = (20 : Int32) then (f_L_low N (p2 >>> ((5 : Int32) &&& 31)) (5 : Int32)).bind (fun o24 => jn (fun (s427 : Int32) => (f_L_changes N fo xv nv v0 v1 v2 v3 v4 v5 (4 : Int32) (o24 + s427) (0 : Int32) (0 : Int32)).bind (fun o26 => j516 (o26.1, o26.2.1, o26.2.2.1, o26.2.2.2.1, o26.2.2.2.2.1, o26.2.2.2.2.2.1, o26.2.2.2.2.2.2.1, o26.2.2.2.2.2.2.2.1, o26.2.2.2.2.2.2.2.2.1, o26.2.2.2.2.2.2.2.2.2))) (fun (j427 : (Int32) → Option (Int32 × ((Nat → Int32) × XV × SV × SV × SV × SV × SV × SV × SV))) => (if s21 = 0 then j427 (0 : Int32) else j427 (1 : Int32)))) else (if o3 = (21 : Int32) then (f_L_changes N fo xv nv v0 v1 v2 v3 v4 v5 (6 : Int32) (0 : Int32) (0 : Int32) (0 : Int32)).bind (fun o22 => j516 (o22.1, o22.2.1, o22.2.2.1, o22.2.2.2.1, o22.2.2.2.2.1, o22.2.2.2.2.2.1, o22.2.2.2.2.2.2.1, o22.2.2.2.2.2.2.2.1, o22.2.2.2.2.2.2.2.2.1, o22.2.2.2.2.2.2.2.2.2)) else (if o3 = (22 : Int32) then (f_L_changes N fo xv nv v0 v1 v2 v3 v4 v5 (7 : Int32) (0 : Int32) (0 : Int32) (0 : Int32)).bind (fun o20 => j516 (o20.1, o20.2.1, o20.2.2.1, o20.2.2.2.1, o20.2.2.2.2.1, o20.2.2.2.2.2.1, o20.2.2.2.2.2.2.1, o20.2.2.2.2.2.2.2.1, o20.2.2.2.2.2.2.2.2.1, o20.2.2.2.2.2.2.2.2.2)) else (if ((p2 >>> ((5 : Int32) &&& 31)) &&& (3 : Int32)) = 0 then (f_L_low N ((p2 >>> ((5 : Int32) &&& 31)) >>> ((2 : Int32) &&& 31)) (52 : Int32)).bind (fun o16 => (f_L_changes N fo xv nv v0 v1 v2 v3 v4 v5 (3 : Int32) o16 (0 : Int32) (0 : Int32)).bind (fun o18 => j516 (o18.1, o18.2.1, o18.2.2.1, o18.2.2.2.1, o18.2.2.2.2.1, o18.2.2.2.2.2.1, o18.2.2.2.2.2.2.1, o18.2.2.2.2.2.2.2.1, o18.2.2.2.2.2.2.2.2.1, o18.2.2.2.2.2.2.2.2.2))) else (f_L_low N (p2 >>> ((5 : Int32) &&& 31)) (70 : Int32)).bind (fun o12 => (f_L_changes N fo xv nv v0 v1 v2 v3 v4 v5 (0 : Int32) o12 (0 : Int32) (0 : Int32)).bind (fun o14 => j516 (o14.1, o14.2.1, o14.2.2.1, o14.2.2.2.1, o14.2.2.2.2.1, o14.2.2.2.2.2.1, o14.2.2.2.2.2.2.1, o14.2.2.2.2.2.2.2.1, o14.2.2.2.2.2.2.2.2.1, o14.2.2.2.2.2.2.2.2.2)))))))) else jn (fun (s370 : Int32) => (f_L_low N (p2 >>> ((5 : Int32) &&& 31)) s370).bind (fun o31 => (f_L_changes N fo xv nv v0 v1 v2 v3 v4 v5 (5 : Int32) (o31 - (5 : Int32)) (0 : Int32) (0 : Int32)).bind (fun o33 => j516 (o33.1, o33.2.1, o33.2.2.1, o33.2.2.2.1, o33.2.2.2.2.1, o33.2.2.2.2.2.1, o33.2.2.2.2.2.2.1, o33.2.2.2.2.2.2.2.1, o33.2.2.2.2.2.2.2.2.1, o33.2.2.2.2.2.2.2.2.2)))) (fun (j370 : (Int32) → Option (Int32 × ((Nat → Int32) × XV × SV × SV × SV × SV × SV × SV × SV))) => (if s21 = 0 then j370 (14 : Int32) else j370 (11 : Int32))))) else (f_X5_isJackThere N xv nv).bind (fun o36 => jn (fun (s70 : Int32) => (f_X5_isJackThere N xv nv).bind (fun o39 => jn (fun (s134 : Unit) => (f_L_looks N xv nv (5 : Int32) (0 : Int32)).bind (fun o42 => jn (fun (s156 : Int32 × (Nat → Int32) × XV × SV × SV × SV × SV × SV × SV × SV) => jn (fun (s205 : Int32) => jn (fun (s243 : Int32) => jn (fun (s347 : Int32 × (Nat → Int32) × XV × SV × SV × SV × SV × SV × SV × SV) => some (s347.1, (s347.2.1, s347.2.2.1, s347.2.2.2.1, s347.2.2.2.2.1, s347.2.2.2.2.2.1, s347.2.2.2.2.2.2.1, s347.2.2.2.2.2.2.2.1, s347.2.2.2.2.2.2.2.2.1, s347.2.2.2.2.2.2.2.2.2))) (fun (j347 : (Int32 × (Nat → Int32) × XV × SV × SV × SV × SV × SV × SV × SV) → Option (Int32 × ((Nat → Int32) × XV × SV × SV × SV × SV × SV × SV × SV))) => jn (fun (s267 : Unit) => jn (fun (s307 : Int32) => jn (fun (s343 : Int32) => (f_L_changes N s156.2.1 s156.2.2.1 s156.2.2.2.1 s156.2.2.2.2.1 s156.2.2.2.2.2.1 s156.2.2.2.2.2.2.1 s156.2.2.2.2.2.2.2.1 s156.2.2.2.2.2.2.2.2.1 s156.2.2.2.2.2.2.2.2.2 (1 : Int32) s307 s243 s343).bind (fun o44 => j347 (o44.1, o44.2.1, o44.2.2.1, o44.2.2.2.1, o44.2.2.2.2.1, o44.2.2.2.2.2.1, o44.2.2.2.2.2.2.1, o44.2.2.2.2.2.2.2.1, o44.2.2.2.2.2.2.2.2.1, o44.2.2.2.2.2.2.2.2.2))) (fun (j343 : (Int32) → Option (Int32 × ((Nat → Int32) × XV × SV × SV × SV × SV × SV × SV × SV))) => (if (((p2 >>> ((5 : Int32) &&& 31)) >>> ((14 : Int32) &&& 31)) &&& (1 : Int32)) = 0 then j343 (0 : Int32) else jn (fun (s338 : Int32) => (f_L_low N ((p2 >>> ((5 : Int32) &&& 31)) >>> ((7 : Int32) &&& 31)) s338).bind (fun o47 => j343 (o47 - (3 : Int32)))) (fun (j338 : (Int32) → Option (Int32 × ((Nat → Int32) × XV × SV × SV × SV × SV × SV × SV × SV))) => (if s21 = 0 then j338 (9 : Int32) else j338 (7 : Int32)))))) (fun (j307 : (Int32) → Option (Int32 × ((Nat → Int32) × XV × SV × SV × SV × SV × SV × SV × SV))) => (if (((p2 >>> ((5 : Int32) &&& 31)) >>> ((13 : Int32) &&& 31)) &&& (1 : Int32)) = 0 then (f_L_low N (p2 >>> ((5 : Int32) &&& 31)) (3 : Int32)).bind (fun o54 => j307 (o54 - (1 : Int32))) else jn (fun (s301 : Int32) => (f_L_low N (p2 >>> ((5 : Int32) &&& 31)) s301).bind (fun o51 => j307 (o51 - (9 : Int32)))) (fun (j301 : (Int32) → Option (Int32 × ((Nat → Int32) × XV × SV × SV × SV × SV × SV × SV × SV))) => (if s21 = 0 then j301 (22 : Int32) else j301 (19 : Int32)))))) (fun (j267 : (Unit) → Option (Int32 × ((Nat → Int32) × XV × SV × SV × SV × SV × SV × SV × SV))) => (if s70 = 0 then j267 () else (if s21 = 0 then j267 () else (f_L_changes N s156.2.1 s156.2.2.1 s156.2.2.2.1 s156.2.2.2.2.1 s156.2.2.2.2.2.1 s156.2.2.2.2.2.2.1 s156.2.2.2.2.2.2.2.1 s156.2.2.2.2.2.2.2.2.1 s156.2.2.2.2.2.2.2.2.2 (2 : Int32) (0 : Int32) (0 : Int32) (0 : Int32)).bind (fun o58 => j347 (o58.1, o58.2.1, o58.2.2.1, o58.2.2.2.1, o58.2.2.2.2.1, o58.2.2.2.2.2.1, o58.2.2.2.2.2.2.1, o58.2.2.2.2.2.2.2.1, o58.2.2.2.2.2.2.2.2.1, o58.2.2.2.2.2.2.2.2.2))))))) (fun (j243 : (Int32) → Option (Int32 × ((Nat → Int32) × XV × SV × SV × SV × SV × SV × SV × SV))) => (if s21 = 0 then j243 s205 else (if (15 : Int32) ≤ s205 then (if s205 ≤ (70 : Int32) then j243 s205 else j243 (70 : Int32)) else j243 (15 : Int32))))) (fun (j205 : (Int32) → Option (Int32 × ((Nat → Int32) × XV × SV × SV × SV × SV × SV × SV × SV))) => (if (2 : Int32) ≤ (((p2 >>> ((5 : Int32) &&& 31)) >>> ((11 : Int32) &&& 31)) &&& (3 : Int32)) then jn (fun (s201 : Int32) => (f_L_low N ((p2 >>> ((5 : Int32) &&& 31)) >>> ((4 : Int32) &&& 31)) s201).bind (fun o64 => j205 ((15 : Int32) + o64))) (fun (j201 : (Int32) → Option (Int32 × ((Nat → Int32) × XV × SV × SV × SV × SV × SV × SV × SV))) => (if s21 = 0 then j201 (60 : Int32) else j201 (56 : Int32))) else (f_L_low N ((p2 >>> ((5 : Int32) &&& 31)) >>> ((4 : Int32) &&& 31)) (20 : Int32)).bind (fun o67 => j205 ((s156.1 - (2 : Int32)) + o67))))) (fun (j156 : (Int32 × (Nat → Int32) × XV × SV × SV × SV × SV × SV × SV × SV) → Option (Int32 × ((Nat → Int32) × XV × SV × SV × SV × SV × SV × SV × SV))) => (if o42.1 = (-9 : Int32) then j156 ((30 : Int32), fo, o42.2.1, o42.2.2, v0, v1, v2, v3, v4, v5) else (f_L_looks N o42.2.1 o42.2.2 (5 : Int32) (0 : Int32)).bind (fun o70 => j156 (o70.1, fo, o70.2.1, o70.2.2, v0, v1, v2, v3, v4, v5)))))) (fun (j134 : (Unit) → Option (Int32 × ((Nat → Int32) × XV × SV × SV × SV × SV × SV × SV × SV))) => (if o39 = 0 then (if s21 = 0 then j134 () else (f_X5_isOver N xv nv).bind (fun o74 => jn (fun (s133 : Int32 × (Nat → Int32) × XV × SV × SV × SV × SV × SV × SV × SV) => some (s133.1, (s133.2.1, s133.2.2.1, s133.2.2.2.1, s133.2.2.2.2.1, s133.2.2.2.2.2.1, s133.2.2.2.2.2.2.1, s133.2.2.2.2.2.2.2.1, s133.2.2.2.2.2.2.2.2.1, s133.2.2.2.2.2.2.2.2.2))) (fun (j133 : (Int32 × (Nat → Int32) × XV × SV × SV × SV × SV × SV × SV × SV) → Option (Int32 × ((Nat → Int32) × XV × SV × SV × SV × SV × SV × SV × SV))) => jn (fun (s116 : Unit) => (f_L_low N (p2 >>> ((5 : Int32) &&& 31)) (31 : Int32)).bind (fun o77 => (f_L_changes N fo xv nv v0 v1 v2 v3 v4 v5 (0 : Int32) ((20 : Int32) + o77) (0 : Int32) (0 : Int32)).bind (fun o79 => j133 (o79.1, o79.2.1, o79.2.2.1, o79.2.2.2.1, o79.2.2.2.2.1, o79.2.2.2.2.2.1, o79.2.2.2.2.2.2.1, o79.2.2.2.2.2.2.2.1, o79.2.2.2.2.2.2.2.2.1, o79.2.2.2.2.2.2.2.2.2)))) (fun (j116 : (Unit) → Option (Int32 × ((Nat → Int32) × XV × SV × SV × SV × SV × SV × SV × SV))) => (if o74 = 0 then j116 () else (if ((p2 >>> ((5 : Int32) &&& 31)) &&& (1 : Int32)) = 0 then (f_L_low N (p2 >>> ((5 : Int32) &&& 31)) (40 : Int32)).bind (fun o83 => (f_L_changes N fo xv nv v0 v1 v2 v3 v4 v5 (3 : Int32) ((1 : Int32) + o83) (0 : Int32) (0 : Int32)).bind (fun o85 => j133 (o85.1, o85.2.1, o85.2.2.1, o85.2.2.2.1, o85.2.2.2.2.1, o85.2.2.2.2.2.1, o85.2.2.2.2.2.2.1, o85.2.2.2.2.2.2.2.1, o85.2.2.2.2.2.2.2.2.1, o85.2.2.2.2.2.2.2.2.2))) else j116 ())))))) else j134 ())))) (fun (j70 : (Int32) → Option (Int32 × ((Nat → Int32) × XV × SV × SV × SV × SV × SV × SV × SV))) => jn (fun (s69 : Unit) => j70 (0 : Int32)) (fun (j69 : (Unit) → Option (Int32 × ((Nat → Int32) × XV × SV × SV × SV × SV × SV × SV × SV))) => (if o36 = 0 then j69 () else (f_X5_bowls N xv nv).bind (fun o88 => (f_X5_bowlsOfSide N xv nv).bind (fun o90 => jn (fun (s65 : Unit) => j70 (1 : Int32)) (fun (j65 : (Unit) → Option (Int32 × ((Nat → Int32) × XV × SV × SV × SV × SV × SV × SV × SV))) => (if o88 = ((2 : Int32) * o90) then j65 () else (f_X5_isBurnt N xv nv).bind (fun o93 => (if o93 = 0 then j69 () else j65 ()))))))))))))) (fun (j21 : (Int32) → Option (Int32 × ((Nat → Int32) × XV × SV × SV × SV × SV × SV × SV × SV))) => (if o1 ≤ 0 then j21 (0 : Int32) else j21 (1 : Int32))))
set_option maxHeartbeats 4000000 in
set_option maxRecDepth 100000 in
theorem met_L_act (l : Launch) (z0 : Nat) (hst : l.stackTraces = false) (dC : Nat → ClassId) (dI : Nat → Nat → Nat) (cyI cyO : ClassId) (qo : Nat) (x : Nat → Nat) (tr : Nat → Nat) (an : Nat → Nat) (b0 : Nat → Nat) (b1 : Nat → Nat) (b2 : Nat → Nat) (b3 : Nat → Nat) (b4 : Nat → Nat) (b5 : Nat → Nat) (fl fs : Nat → Option Nat) (sz : Nat) (N : Nat) (fo : (Nat → Int32)) (xv : XV) (nv : SV) (v0 : SV) (v1 : SV) (v2 : SV) (v3 : SV) (v4 : SV) (v5 : SV) (p2 : Int32) (hs0 : fs 0 = some (b0 0)) (hs1 : fs 1 = some (b1 0)) (hs2 : fs 2 = some (b2 0)) (hs3 : fs 3 = some (b3 0)) (hs4 : fs 4 = some (b4 0)) (hs5 : fs 5 = some (b5 0)) (out : Int32 × ((Nat → Int32) × XV × SV × SV × SV × SV × SV × SV × SV)) (hF : f_L_act N fo xv nv v0 v1 v2 v3 v4 v5 p2 = some out) : Met l yL_act (Cond.code yL_act cL_act 9 (some .int) :: wT) ({ frames := 9, cells := 84, slots := 504, locals := 158 } : Room) (wWrX z0 dC dI cyI cyO [.ref (x 0), .int p2, .ref qo] (([[cI cyI qo 1 fo], (cXo x an tr xv), (cH cyO (x 1) (x 2) 2 fl), (cXk cyI x xv), (cH cyO (x 4) (x 5) 6 fs), (cT cyI x (X_text xv)), (cSo an nv), (cG cyI an (S_green nv)), (cV cyI an (S_score nv)), (cS cyI b0 v0), (cS cyI b1 v1), (cS cyI b2 v2), (cS cyI b3 v3), (cS cyI b4 v4), (cS cyI b5 v5)] : List va_W).flatten) sz) (va_Qi (fun (r : Int32) (u : (Nat → Int32) × XV × SV × SV × SV × SV × SV × SV × SV) => (r, u) = out) (fun u t => va_P (dC, dI) vwCl (([[cI cyI qo 1 u.1], (cXo x an tr u.2.1), (cH cyO (x 1) (x 2) 2 fl), (cXk cyI x u.2.1), (cH cyO (x 4) (x 5) 6 fs), (cT cyI x (X_text u.2.1)), (cSo an u.2.2.1), (cG cyI an (S_green u.2.2.1)), (cV cyI an (S_score u.2.2.1)), (cS cyI b0 u.2.2.2.1), (cS cyI b1 u.2.2.2.2.1), (cS cyI b2 u.2.2.2.2.2.1), (cS cyI b3 u.2.2.2.2.2.2.1), (cS cyI b4 u.2.2.2.2.2.2.2.1), (cS cyI b5 u.2.2.2.2.2.2.2.2)] : List va_W).flatten) t.heap ∧ va_D (va_A (([[cI cyI qo 1 fo], (cXo x an tr xv), (cH cyO (x 1) (x 2) 2 fl), (cXk cyI x xv), (cH cyO (x 4) (x 5) 6 fs), (cT cyI x (X_text xv)), (cSo an nv), (cG cyI an (S_green nv)), (cV cyI an (S_score nv)), (cS cyI b0 v0), (cS cyI b1 v1), (cS cyI b2 v2), (cS cyI b3 v3), (cS cyI b4 v4), (cS cyI b5 v5)] : List va_W).flatten) sz) (([[cI cyI qo 1 u.1], (cXo x an tr u.2.1), (cH cyO (x 1) (x 2) 2 fl), (cXk cyI x u.2.1), (cH cyO (x 4) (x 5) 6 fs), (cT cyI x (X_text u.2.1)), (cSo an u.2.2.1), (cG cyI an (S_green u.2.2.1)), (cV cyI an (S_score u.2.2.1)), (cS cyI b0 u.2.2.2.1), (cS cyI b1 u.2.2.2.2.1), (cS cyI b2 u.2.2.2.2.2.1), (cS cyI b3 u.2.2.2.2.2.2.1), (cS cyI b4 u.2.2.2.2.2.2.2.1), (cS cyI b5 u.2.2.2.2.2.2.2.2)] : List va_W).flatten)) (va_A (([[cI cyI qo 1 fo], (cXo x an tr xv), (cH cyO (x 1) (x 2) 2 fl), (cXk cyI x xv), (cH cyO (x 4) (x 5) 6 fs), (cT cyI x (X_text xv)), (cSo an nv), (cG cyI an (S_green nv)), (cV cyI an (S_score nv)), (cS cyI b0 v0), (cS cyI b1 v1), (cS cyI b2 v2), (cS cyI b3 v3), (cS cyI b4 v4), (cS cyI b5 v5)] : List va_W).flatten) sz)) 84 504 (va_A (([[cI cyI qo 1 fo], (cXo x an tr xv), (cH cyO (x 1) (x 2) 2 fl), (cXk cyI x xv), (cH cyO (x 4) (x 5) 6 fs), (cT cyI x (X_text xv)), (cSo an nv), (cG cyI an (S_green nv)), (cV cyI an (S_score nv)), (cS cyI b0 v0), (cS cyI b1 v1), (cS cyI b2 v2), (cS cyI b3 v3), (cS cyI b4 v4), (cS cyI b5 v5)] : List va_W).flatten) sz) := by
  refine Met.ofW (cc := cL_act) (maxL := 9) (ret := (some .int)) (by decide) rfl ?_
  intro p e s m args below meth c s₁ B hml hv
  obtain ⟨rfl, hsz, hP, hK, hD0, hz0, hZ⟩ := hv
  have hx := B.exec
  have hb := B.bytes
  have hr := B.returns
  have hts0 := atoms_spec (ws := (Cond.code yL_act cL_act 9 (some .int) :: wT)) B.pre
  have hts := fun w h => hts0 w (List.mem_cons_of_mem _ h)
  clear hts0
  have hown : s.vm.findClass RL = some m.cls := findClass_of_methodNamed B.named
  have hlocks := B.notSynchronized
  subst hsz
  have hD := hD0.self (sz := s.heap.size)
  have hAz := wA_ge hD0 hz0
  generalize hAe : va_A (([[cI cyI qo 1 fo], (cXo x an tr xv), (cH cyO (x 1) (x 2) 2 fl), (cXk cyI x xv), (cH cyO (x 4) (x 5) 6 fs), (cT cyI x (X_text xv)), (cSo an nv), (cG cyI an (S_green nv)), (cV cyI an (S_score nv)), (cS cyI b0 v0), (cS cyI b1 v1), (cS cyI b2 v2), (cS cyI b3 v3), (cS cyI b4 v4), (cS cyI b5 v5)] : List va_W).flatten) s.heap.size = A at hD hAz ⊢
  have hA : ∀ q : Nat, s.heap.size ≤ q → A q := fun q h => by rw [← hAe]; exact Or.inr h
  clear hD0
  have hS : va_S A s.heap s.heap [] := va_S.rf
  have hl := lv_entry [.ref (x 0), .int p2, .ref qo] (n := 9) (Nat.le_of_ble_eq_true rfl)
  rw [lg_entry_eq]
  generalize (lg_sl [.ref (x 0), .int p2, .ref qo] ++ List.replicate (9 - (lg_sl [.ref (x 0), .int p2, .ref qo]).length) Slot.unset).toArray = ls at hl ⊢
  have hl : lv_has ls 9 [(0, .ref (x 0)), (1, .int p2), (2, .ref qo)] := hl
  unfold f_L_act at hF
  refine lv_iload_n hx hb dL_act_0 rfl (lv_at hl 1 rfl) ?_
  refine lv_iconst (v := 5) hx hb dL_act_1 (by decide) ?_
  refine lv_ishr hx hb dL_act_2 ?_
  refine lv_istore_n (lv' := [(3, .int (p2 >>> ((5 : Int32) &&& 31))), (0, .ref (x 0)), (1, .int p2), (2, .ref qo)]) hx hb dL_act_3 rfl hl (by decide) rfl (fun ls hl => ?_)
  refine lv_iload_n hx hb dL_act_4 rfl (lv_at hl 2 rfl) ?_
  refine lv_bipush (v := 22) hx hb dL_act_5 (by decide) ?_
  refine lv_ishr hx hb dL_act_7 ?_
  refine lv_bipush (v := 9) hx hb dL_act_8 (by decide) ?_
  obtain ⟨o1, h2, hF⟩ := obd hF
  refine wcRSi (As := [.int (p2 >>> ((22 : Int32) &&& 31)), .int (9 : Int32)]) (rest := []) ⟨hx, hb, hml, hown, hts⟩ (met_L_low l dC dI cyI cyO  N  (p2 >>> ((22 : Int32) &&& 31)) (9 : Int32) o1 h2) (va_cwS 2 hts (gS w_methodLink_L_68 w_static_L_low w_initialized_L w_code_L_low) rfl rfl rfl (by decide +kernel) ⟨Nat.le_of_ble_eq_true rfl, Nat.le_of_ble_eq_true rfl⟩) hP hK [] rfl rfl hl.1 (Nat.le_of_ble_eq_true rfl) dL_act_10 ⟨(show _ ≤ 84 from by omega), (show _ ≤ 504 from by omega)⟩ hS (fun r H locs hw hP hS => ?_)
  have hw := hw.symm
  subst hw
  obtain ⟨j21, hj21, hF⟩ := jn_use hF
  have hJ21 : ∀ (s21 : Int32) (H : Heap) (locs : List Loc) (ls : Array Slot) (hz_21_s0 : b01 s21), va_P (dC, dI) vwCl (([[cI cyI qo 1 fo], (cXo x an tr xv), (cH cyO (x 1) (x 2) 2 fl), (cXk cyI x xv), (cH cyO (x 4) (x 5) 6 fs), (cT cyI x (X_text xv)), (cSo an nv), (cG cyI an (S_green nv)), (cV cyI an (S_score nv)), (cS cyI b0 v0), (cS cyI b1 v1), (cS cyI b2 v2), (cS cyI b3 v3), (cS cyI b4 v4), (cS cyI b5 v5)] : List va_W).flatten) H → va_D A (([[cI cyI qo 1 fo], (cXo x an tr xv), (cH cyO (x 1) (x 2) 2 fl), (cXk cyI x xv), (cH cyO (x 4) (x 5) 6 fs), (cT cyI x (X_text xv)), (cSo an nv), (cG cyI an (S_green nv)), (cV cyI an (S_score nv)), (cS cyI b0 v0), (cS cyI b1 v1), (cS cyI b2 v2), (cS cyI b3 v3), (cS cyI b4 v4), (cS cyI b5 v5)] : List va_W).flatten) → va_S A s.heap H locs → lv_has ls 9 [(0, .ref (x 0)), (1, .int p2), (2, .ref qo), (3, .int (p2 >>> ((5 : Int32) &&& 31)))] → j21 s21 = some out → W p l e (headSpec (Cond.code yL_act cL_act 9 (some .int) :: wT) ({ frames := 9, cells := 84, slots := 504, locals := 158 } : Room)).room s m ([.ref (x 0), .int p2, .ref qo] : List Value).toArray below meth c H locs 0 0 (MQ below (va_Qi (fun (r : Int32) (u : (Nat → Int32) × XV × SV × SV × SV × SV × SV × SV × SV) => (r, u) = out) (fun u t => va_P (dC, dI) vwCl (([[cI cyI qo 1 u.1], (cXo x an tr u.2.1), (cH cyO (x 1) (x 2) 2 fl), (cXk cyI x u.2.1), (cH cyO (x 4) (x 5) 6 fs), (cT cyI x (X_text u.2.1)), (cSo an u.2.2.1), (cG cyI an (S_green u.2.2.1)), (cV cyI an (S_score u.2.2.1)), (cS cyI b0 u.2.2.2.1), (cS cyI b1 u.2.2.2.2.1), (cS cyI b2 u.2.2.2.2.2.1), (cS cyI b3 u.2.2.2.2.2.2.1), (cS cyI b4 u.2.2.2.2.2.2.2.1), (cS cyI b5 u.2.2.2.2.2.2.2.2)] : List va_W).flatten) t.heap ∧ va_D A (([[cI cyI qo 1 u.1], (cXo x an tr u.2.1), (cH cyO (x 1) (x 2) 2 fl), (cXk cyI x u.2.1), (cH cyO (x 4) (x 5) 6 fs), (cT cyI x (X_text u.2.1)), (cSo an u.2.2.1), (cG cyI an (S_green u.2.2.1)), (cV cyI an (S_score u.2.2.1)), (cS cyI b0 u.2.2.2.1), (cS cyI b1 u.2.2.2.2.1), (cS cyI b2 u.2.2.2.2.2.1), (cS cyI b3 u.2.2.2.2.2.2.1), (cS cyI b4 u.2.2.2.2.2.2.2.1), (cS cyI b5 u.2.2.2.2.2.2.2.2)] : List va_W).flatten)) A) ([.ref (x 0), .int p2, .ref qo] : List Value).toArray s 84 504 A) (F0 m 21 ls [.int s21]) := by
    intro s21 H locs ls hz_21_s0 hP hD hS hl hF
    have hF := (congrFun hj21 s21).symm.trans hF
    refine lv_istore (lv' := [(4, .int s21), (0, .ref (x 0)), (1, .int p2), (2, .ref qo), (3, .int (p2 >>> ((5 : Int32) &&& 31)))]) hx hb dL_act_21 hl (by decide) rfl (fun ls hl => ?_)
    refine lv_iload_n hx hb dL_act_23 rfl (lv_at hl 2 rfl) ?_
    refine lv_bipush (v := 24) hx hb dL_act_24 (by decide) ?_
    obtain ⟨o3, h4, hF⟩ := obd hF
    refine wcRSi (As := [.int p2, .int (24 : Int32)]) (rest := []) ⟨hx, hb, hml, hown, hts⟩ (met_L_low l dC dI cyI cyO  N  p2 (24 : Int32) o3 h4) (va_cwS 2 hts (gS w_methodLink_L_68 w_static_L_low w_initialized_L w_code_L_low) rfl rfl rfl (by decide +kernel) ⟨Nat.le_of_ble_eq_true rfl, Nat.le_of_ble_eq_true rfl⟩) hP hK [] rfl rfl hl.1 (Nat.le_of_ble_eq_true rfl) dL_act_26 ⟨(show _ ≤ 84 from by omega), (show _ ≤ 504 from by omega)⟩ hS (fun r H locs hw hP hS => ?_)
    have hw := hw.symm
    subst hw
    refine lv_istore (lv' := [(5, .int o3), (4, .int s21), (0, .ref (x 0)), (1, .int p2), (2, .ref qo), (3, .int (p2 >>> ((5 : Int32) &&& 31)))]) hx hb dL_act_29 hl (by decide) rfl (fun ls hl => ?_)
    refine lv_iload hx hb dL_act_31 (lv_at hl 0 rfl) ?_
    refine lv_bipush (v := 17) hx hb dL_act_33 (by decide) ?_
    refine lv_icmp_ge (tgt := 348) hx hb dL_act_35 (by decide) (fun c5 => ?_) (fun c5 => ?_)
    · have hF := itp c5 hF
      refine lv_iload hx hb dL_act_348 (lv_at hl 0 rfl) ?_
      refine lv_bipush (v := 19) hx hb dL_act_350 (by decide) ?_
      obtain ⟨j516, hj516, hF⟩ := jn_use hF
      have hJ516 : ∀ (s516 : Int32 × (Nat → Int32) × XV × SV × SV × SV × SV × SV × SV × SV) (H : Heap) (locs : List Loc) (ls : Array Slot), va_P (dC, dI) vwCl (([[cI cyI qo 1 s516.2.1], (cXo x an tr s516.2.2.1), (cH cyO (x 1) (x 2) 2 fl), (cXk cyI x s516.2.2.1), (cH cyO (x 4) (x 5) 6 fs), (cT cyI x (X_text s516.2.2.1)), (cSo an s516.2.2.2.1), (cG cyI an (S_green s516.2.2.2.1)), (cV cyI an (S_score s516.2.2.2.1)), (cS cyI b0 s516.2.2.2.2.1), (cS cyI b1 s516.2.2.2.2.2.1), (cS cyI b2 s516.2.2.2.2.2.2.1), (cS cyI b3 s516.2.2.2.2.2.2.2.1), (cS cyI b4 s516.2.2.2.2.2.2.2.2.1), (cS cyI b5 s516.2.2.2.2.2.2.2.2.2)] : List va_W).flatten) H → va_D A (([[cI cyI qo 1 s516.2.1], (cXo x an tr s516.2.2.1), (cH cyO (x 1) (x 2) 2 fl), (cXk cyI x s516.2.2.1), (cH cyO (x 4) (x 5) 6 fs), (cT cyI x (X_text s516.2.2.1)), (cSo an s516.2.2.2.1), (cG cyI an (S_green s516.2.2.2.1)), (cV cyI an (S_score s516.2.2.2.1)), (cS cyI b0 s516.2.2.2.2.1), (cS cyI b1 s516.2.2.2.2.2.1), (cS cyI b2 s516.2.2.2.2.2.2.1), (cS cyI b3 s516.2.2.2.2.2.2.2.1), (cS cyI b4 s516.2.2.2.2.2.2.2.2.1), (cS cyI b5 s516.2.2.2.2.2.2.2.2.2)] : List va_W).flatten) → va_S A s.heap H locs → lv_has ls 9 [] → j516 s516 = some out → W p l e (headSpec (Cond.code yL_act cL_act 9 (some .int) :: wT) ({ frames := 9, cells := 84, slots := 504, locals := 158 } : Room)).room s m ([.ref (x 0), .int p2, .ref qo] : List Value).toArray below meth c H locs 42 252 (MQ below (va_Qi (fun (r : Int32) (u : (Nat → Int32) × XV × SV × SV × SV × SV × SV × SV × SV) => (r, u) = out) (fun u t => va_P (dC, dI) vwCl (([[cI cyI qo 1 u.1], (cXo x an tr u.2.1), (cH cyO (x 1) (x 2) 2 fl), (cXk cyI x u.2.1), (cH cyO (x 4) (x 5) 6 fs), (cT cyI x (X_text u.2.1)), (cSo an u.2.2.1), (cG cyI an (S_green u.2.2.1)), (cV cyI an (S_score u.2.2.1)), (cS cyI b0 u.2.2.2.1), (cS cyI b1 u.2.2.2.2.1), (cS cyI b2 u.2.2.2.2.2.1), (cS cyI b3 u.2.2.2.2.2.2.1), (cS cyI b4 u.2.2.2.2.2.2.2.1), (cS cyI b5 u.2.2.2.2.2.2.2.2)] : List va_W).flatten) t.heap ∧ va_D A (([[cI cyI qo 1 u.1], (cXo x an tr u.2.1), (cH cyO (x 1) (x 2) 2 fl), (cXk cyI x u.2.1), (cH cyO (x 4) (x 5) 6 fs), (cT cyI x (X_text u.2.1)), (cSo an u.2.2.1), (cG cyI an (S_green u.2.2.1)), (cV cyI an (S_score u.2.2.1)), (cS cyI b0 u.2.2.2.1), (cS cyI b1 u.2.2.2.2.1), (cS cyI b2 u.2.2.2.2.2.1), (cS cyI b3 u.2.2.2.2.2.2.1), (cS cyI b4 u.2.2.2.2.2.2.2.1), (cS cyI b5 u.2.2.2.2.2.2.2.2)] : List va_W).flatten)) A) ([.ref (x 0), .int p2, .ref qo] : List Value).toArray s 84 504 A) (F0 m 516 ls [.int s516.1]) := by
        intro s516 H locs ls hP hD hS hl hF
        have hF := (congrFun hj516 s516).symm.trans hF
        refine W.widen (k := 84) (n := 504) (by omega) (by omega) ?_
        exact W.iret (v := s516.1) hx hb hr (fun t ht hW => ⟨⟨_, (s516.2.1, s516.2.2.1, s516.2.2.2.1, s516.2.2.2.2.1, s516.2.2.2.2.2.1, s516.2.2.2.2.2.2.1, s516.2.2.2.2.2.2.2.1, s516.2.2.2.2.2.2.2.2.1, s516.2.2.2.2.2.2.2.2.2), rfl, Option.some.inj hF, by rw [ht]; exact hP, hD⟩, hS.F ht⟩) hS.2.2 dL_act_516
      refine lv_icmp_ge (tgt := 384) hx hb dL_act_352 (by decide) (fun c6 => ?_) (fun c6 => ?_)
      · have hF := itp c6 hF
        refine lv_iload hx hb dL_act_384 (lv_at hl 0 rfl) ?_
        refine lv_bipush (v := 19) hx hb dL_act_386 (by decide) ?_
        refine lv_icmp_ne (tgt := 403) hx hb dL_act_388 (by decide) (fun c7 => ?_) (fun c7 => ?_)
        · have hF := itn c7 hF
          refine lv_iload hx hb dL_act_403 (lv_at hl 0 rfl) ?_
          refine lv_bipush (v := 20) hx hb dL_act_405 (by decide) ?_
          refine lv_icmp_ne (tgt := 437) hx hb dL_act_407 (by decide) (fun c8 => ?_) (fun c8 => ?_)
          · have hF := itn c8 hF
            refine lv_iload hx hb dL_act_437 (lv_at hl 0 rfl) ?_
            refine lv_bipush (v := 21) hx hb dL_act_439 (by decide) ?_
            refine lv_icmp_ne (tgt := 457) hx hb dL_act_441 (by decide) (fun c9 => ?_) (fun c9 => ?_)
            · have hF := itn c9 hF
              refine lv_iload hx hb dL_act_457 (lv_at hl 0 rfl) ?_
              refine lv_bipush (v := 22) hx hb dL_act_459 (by decide) ?_
              refine lv_icmp_ne (tgt := 477) hx hb dL_act_461 (by decide) (fun c10 => ?_) (fun c10 => ?_)
              · have hF := itn c10 hF
                refine lv_iload_n hx hb dL_act_477 rfl (lv_at hl 5 rfl) ?_
                refine lv_iconst (v := 3) hx hb dL_act_478 (by decide) ?_
                refine lv_iand hx hb dL_act_479 ?_
                refine lv_if_ne (tgt := 502) hx hb dL_act_480 (by decide) (fun c11 => ?_) (fun c11 => ?_)
                · have hF := itn c11 hF
                  refine lv_aload_n hx hb dL_act_502 rfl (lv_at hl 2 rfl) ?_
                  refine lv_iconst (v := 0) hx hb dL_act_503 (by decide) ?_
                  refine lv_iload_n hx hb dL_act_504 rfl (lv_at hl 5 rfl) ?_
                  refine lv_bipush (v := 70) hx hb dL_act_505 (by decide) ?_
                  obtain ⟨o12, h13, hF⟩ := obd hF
                  refine wcRSi (As := [.int (p2 >>> ((5 : Int32) &&& 31)), .int (70 : Int32)]) (rest := [.int (0 : Int32), .ref (x 0)]) ⟨hx, hb, hml, hown, hts⟩ (met_L_low l dC dI cyI cyO  N  (p2 >>> ((5 : Int32) &&& 31)) (70 : Int32) o12 h13) (va_cwS 2 hts (gS w_methodLink_L_68 w_static_L_low w_initialized_L w_code_L_low) rfl rfl rfl (by decide +kernel) ⟨Nat.le_of_ble_eq_true rfl, Nat.le_of_ble_eq_true rfl⟩) hP hK [] rfl rfl hl.1 (Nat.le_of_ble_eq_true rfl) dL_act_507 ⟨(show _ ≤ 84 from by omega), (show _ ≤ 504 from by omega)⟩ hS (fun r H locs hw hP hS => ?_)
                  have hw := hw.symm
                  subst hw
                  refine lv_iconst (v := 0) hx hb dL_act_510 (by decide) ?_
                  refine lv_iconst (v := 0) hx hb dL_act_511 (by decide) ?_
                  refine lv_aload_n hx hb dL_act_512 rfl (lv_at hl 4 rfl) ?_
                  obtain ⟨o14, h15, hF⟩ := obd hF
                  refine wcLi (As := [.ref (x 0), .int (0 : Int32), .int o12, .int (0 : Int32), .int (0 : Int32), .ref qo]) (rest := []) (wr := ([] : List va_W).flatten) ⟨hx, hb, hml, hown, hts⟩ (met_L_changes l z0 hst dC dI cyI cyO qo x tr an b0 b1 b2 b3 b4 b5 fl fs _ N fo xv nv v0 v1 v2 v3 v4 v5 (0 : Int32) o12 (0 : Int32) (0 : Int32) hs0 hs1 hs2 hs3 hs4 hs5 o14 h15) (vx_cwSW 6 hts (gS w_methodLink_L_89 w_static_L_changes w_initialized_L w_codeW_L_changes) rfl rfl rfl (by decide +kernel) ⟨Nat.le_of_ble_eq_true rfl, Nat.le_of_ble_eq_true rfl⟩) hP hD hK hZ hAz hz0 (seg_perm (n := 15) (R := []) (C := [[cI cyI qo 1 fo], (cXo x an tr xv), (cH cyO (x 1) (x 2) 2 fl), (cXk cyI x xv), (cH cyO (x 4) (x 5) 6 fs), (cT cyI x (X_text xv)), (cSo an nv), (cG cyI an (S_green nv)), (cV cyI an (S_score nv)), (cS cyI b0 v0), (cS cyI b1 v1), (cS cyI b2 v2), (cS cyI b3 v3), (cS cyI b4 v4), (cS cyI b5 v5)]) [] [0, 1, 2, 3, 4, 5, 6, 7, 8, 9, 10, 11, 12, 13, 14] rfl rfl rfl (by decide) rfl) rfl hl.1 (Nat.le_of_ble_eq_true rfl) dL_act_513 ⟨(show _ ≤ 84 from by omega), (show _ ≤ 504 from by omega)⟩ hS hA (fun r u H locs hw hP hD hS => ?_)
                  obtain rfl : r = o14.1 := congrArg Prod.fst hw
                  obtain rfl : u = o14.2 := congrArg Prod.snd hw
                  clear hw
                  have hq := seg_permS (segs := [[cI cyI qo 1 o14.2.1], (cXo x an tr o14.2.2.1), (cH cyO (x 1) (x 2) 2 fl), (cXk cyI x o14.2.2.1), (cH cyO (x 4) (x 5) 6 fs), (cT cyI x (X_text o14.2.2.1)), (cSo an o14.2.2.2.1), (cG cyI an (S_green o14.2.2.2.1)), (cV cyI an (S_score o14.2.2.2.1)), (cS cyI b0 o14.2.2.2.2.1), (cS cyI b1 o14.2.2.2.2.2.1), (cS cyI b2 o14.2.2.2.2.2.2.1), (cS cyI b3 o14.2.2.2.2.2.2.2.1), (cS cyI b4 o14.2.2.2.2.2.2.2.2.1), (cS cyI b5 o14.2.2.2.2.2.2.2.2.2)]) (R := []) (C := [[cI cyI qo 1 o14.2.1], (cXo x an tr o14.2.2.1), (cH cyO (x 1) (x 2) 2 fl), (cXk cyI x o14.2.2.1), (cH cyO (x 4) (x 5) 6 fs), (cT cyI x (X_text o14.2.2.1)), (cSo an o14.2.2.2.1), (cG cyI an (S_green o14.2.2.2.1)), (cV cyI an (S_score o14.2.2.2.1)), (cS cyI b0 o14.2.2.2.2.1), (cS cyI b1 o14.2.2.2.2.2.1), (cS cyI b2 o14.2.2.2.2.2.2.1), (cS cyI b3 o14.2.2.2.2.2.2.2.1), (cS cyI b4 o14.2.2.2.2.2.2.2.2.1), (cS cyI b5 o14.2.2.2.2.2.2.2.2.2)]) (n := 15) [] [0, 1, 2, 3, 4, 5, 6, 7, 8, 9, 10, 11, 12, 13, 14] rfl rfl rfl (by decide)
                  have hP : va_P (dC, dI) vwCl (([[cI cyI qo 1 o14.2.1], (cXo x an tr o14.2.2.1), (cH cyO (x 1) (x 2) 2 fl), (cXk cyI x o14.2.2.1), (cH cyO (x 4) (x 5) 6 fs), (cT cyI x (X_text o14.2.2.1)), (cSo an o14.2.2.2.1), (cG cyI an (S_green o14.2.2.2.1)), (cV cyI an (S_score o14.2.2.2.1)), (cS cyI b0 o14.2.2.2.2.1), (cS cyI b1 o14.2.2.2.2.2.1), (cS cyI b2 o14.2.2.2.2.2.2.1), (cS cyI b3 o14.2.2.2.2.2.2.2.1), (cS cyI b4 o14.2.2.2.2.2.2.2.2.1), (cS cyI b5 o14.2.2.2.2.2.2.2.2.2)] : List va_W).flatten) H := hP.perm hq
                  have hD : va_D A (([[cI cyI qo 1 o14.2.1], (cXo x an tr o14.2.2.1), (cH cyO (x 1) (x 2) 2 fl), (cXk cyI x o14.2.2.1), (cH cyO (x 4) (x 5) 6 fs), (cT cyI x (X_text o14.2.2.1)), (cSo an o14.2.2.2.1), (cG cyI an (S_green o14.2.2.2.1)), (cV cyI an (S_score o14.2.2.2.1)), (cS cyI b0 o14.2.2.2.2.1), (cS cyI b1 o14.2.2.2.2.2.1), (cS cyI b2 o14.2.2.2.2.2.2.1), (cS cyI b3 o14.2.2.2.2.2.2.2.1), (cS cyI b4 o14.2.2.2.2.2.2.2.2.1), (cS cyI b5 o14.2.2.2.2.2.2.2.2.2)] : List va_W).flatten) := hD.perm hq
                  clear hq
                  refine W.widen (k := 42) (n := 252) (by omega) (by omega) ?_
                  exact hJ516 (o14.1, o14.2.1, o14.2.2.1, o14.2.2.2.1, o14.2.2.2.2.1, o14.2.2.2.2.2.1, o14.2.2.2.2.2.2.1, o14.2.2.2.2.2.2.2.1, o14.2.2.2.2.2.2.2.2.1, o14.2.2.2.2.2.2.2.2.2) _ _ _ hP hD hS (lv_sub hl [] rfl) hF
                · have hF := itp c11 hF
                  refine lv_aload_n hx hb dL_act_483 rfl (lv_at hl 2 rfl) ?_
                  refine lv_iconst (v := 3) hx hb dL_act_484 (by decide) ?_
                  refine lv_iload_n hx hb dL_act_485 rfl (lv_at hl 5 rfl) ?_
                  refine lv_iconst (v := 2) hx hb dL_act_486 (by decide) ?_
                  refine lv_ishr hx hb dL_act_487 ?_
                  refine lv_bipush (v := 52) hx hb dL_act_488 (by decide) ?_
                  obtain ⟨o16, h17, hF⟩ := obd hF
                  refine wcRSi (As := [.int ((p2 >>> ((5 : Int32) &&& 31)) >>> ((2 : Int32) &&& 31)), .int (52 : Int32)]) (rest := [.int (3 : Int32), .ref (x 0)]) ⟨hx, hb, hml, hown, hts⟩ (met_L_low l dC dI cyI cyO  N  ((p2 >>> ((5 : Int32) &&& 31)) >>> ((2 : Int32) &&& 31)) (52 : Int32) o16 h17) (va_cwS 2 hts (gS w_methodLink_L_68 w_static_L_low w_initialized_L w_code_L_low) rfl rfl rfl (by decide +kernel) ⟨Nat.le_of_ble_eq_true rfl, Nat.le_of_ble_eq_true rfl⟩) hP hK [] rfl rfl hl.1 (Nat.le_of_ble_eq_true rfl) dL_act_490 ⟨(show _ ≤ 84 from by omega), (show _ ≤ 504 from by omega)⟩ hS (fun r H locs hw hP hS => ?_)
                  have hw := hw.symm
                  subst hw
                  refine lv_iconst (v := 0) hx hb dL_act_493 (by decide) ?_
                  refine lv_iconst (v := 0) hx hb dL_act_494 (by decide) ?_
                  refine lv_aload_n hx hb dL_act_495 rfl (lv_at hl 4 rfl) ?_
                  obtain ⟨o18, h19, hF⟩ := obd hF
                  refine wcLi (As := [.ref (x 0), .int (3 : Int32), .int o16, .int (0 : Int32), .int (0 : Int32), .ref qo]) (rest := []) (wr := ([] : List va_W).flatten) ⟨hx, hb, hml, hown, hts⟩ (met_L_changes l z0 hst dC dI cyI cyO qo x tr an b0 b1 b2 b3 b4 b5 fl fs _ N fo xv nv v0 v1 v2 v3 v4 v5 (3 : Int32) o16 (0 : Int32) (0 : Int32) hs0 hs1 hs2 hs3 hs4 hs5 o18 h19) (vx_cwSW 6 hts (gS w_methodLink_L_89 w_static_L_changes w_initialized_L w_codeW_L_changes) rfl rfl rfl (by decide +kernel) ⟨Nat.le_of_ble_eq_true rfl, Nat.le_of_ble_eq_true rfl⟩) hP hD hK hZ hAz hz0 (seg_perm (n := 15) (R := []) (C := [[cI cyI qo 1 fo], (cXo x an tr xv), (cH cyO (x 1) (x 2) 2 fl), (cXk cyI x xv), (cH cyO (x 4) (x 5) 6 fs), (cT cyI x (X_text xv)), (cSo an nv), (cG cyI an (S_green nv)), (cV cyI an (S_score nv)), (cS cyI b0 v0), (cS cyI b1 v1), (cS cyI b2 v2), (cS cyI b3 v3), (cS cyI b4 v4), (cS cyI b5 v5)]) [] [0, 1, 2, 3, 4, 5, 6, 7, 8, 9, 10, 11, 12, 13, 14] rfl rfl rfl (by decide) rfl) rfl hl.1 (Nat.le_of_ble_eq_true rfl) dL_act_496 ⟨(show _ ≤ 84 from by omega), (show _ ≤ 504 from by omega)⟩ hS hA (fun r u H locs hw hP hD hS => ?_)
                  obtain rfl : r = o18.1 := congrArg Prod.fst hw
                  obtain rfl : u = o18.2 := congrArg Prod.snd hw
                  clear hw
                  have hq := seg_permS (segs := [[cI cyI qo 1 o18.2.1], (cXo x an tr o18.2.2.1), (cH cyO (x 1) (x 2) 2 fl), (cXk cyI x o18.2.2.1), (cH cyO (x 4) (x 5) 6 fs), (cT cyI x (X_text o18.2.2.1)), (cSo an o18.2.2.2.1), (cG cyI an (S_green o18.2.2.2.1)), (cV cyI an (S_score o18.2.2.2.1)), (cS cyI b0 o18.2.2.2.2.1), (cS cyI b1 o18.2.2.2.2.2.1), (cS cyI b2 o18.2.2.2.2.2.2.1), (cS cyI b3 o18.2.2.2.2.2.2.2.1), (cS cyI b4 o18.2.2.2.2.2.2.2.2.1), (cS cyI b5 o18.2.2.2.2.2.2.2.2.2)]) (R := []) (C := [[cI cyI qo 1 o18.2.1], (cXo x an tr o18.2.2.1), (cH cyO (x 1) (x 2) 2 fl), (cXk cyI x o18.2.2.1), (cH cyO (x 4) (x 5) 6 fs), (cT cyI x (X_text o18.2.2.1)), (cSo an o18.2.2.2.1), (cG cyI an (S_green o18.2.2.2.1)), (cV cyI an (S_score o18.2.2.2.1)), (cS cyI b0 o18.2.2.2.2.1), (cS cyI b1 o18.2.2.2.2.2.1), (cS cyI b2 o18.2.2.2.2.2.2.1), (cS cyI b3 o18.2.2.2.2.2.2.2.1), (cS cyI b4 o18.2.2.2.2.2.2.2.2.1), (cS cyI b5 o18.2.2.2.2.2.2.2.2.2)]) (n := 15) [] [0, 1, 2, 3, 4, 5, 6, 7, 8, 9, 10, 11, 12, 13, 14] rfl rfl rfl (by decide)
                  have hP : va_P (dC, dI) vwCl (([[cI cyI qo 1 o18.2.1], (cXo x an tr o18.2.2.1), (cH cyO (x 1) (x 2) 2 fl), (cXk cyI x o18.2.2.1), (cH cyO (x 4) (x 5) 6 fs), (cT cyI x (X_text o18.2.2.1)), (cSo an o18.2.2.2.1), (cG cyI an (S_green o18.2.2.2.1)), (cV cyI an (S_score o18.2.2.2.1)), (cS cyI b0 o18.2.2.2.2.1), (cS cyI b1 o18.2.2.2.2.2.1), (cS cyI b2 o18.2.2.2.2.2.2.1), (cS cyI b3 o18.2.2.2.2.2.2.2.1), (cS cyI b4 o18.2.2.2.2.2.2.2.2.1), (cS cyI b5 o18.2.2.2.2.2.2.2.2.2)] : List va_W).flatten) H := hP.perm hq
                  have hD : va_D A (([[cI cyI qo 1 o18.2.1], (cXo x an tr o18.2.2.1), (cH cyO (x 1) (x 2) 2 fl), (cXk cyI x o18.2.2.1), (cH cyO (x 4) (x 5) 6 fs), (cT cyI x (X_text o18.2.2.1)), (cSo an o18.2.2.2.1), (cG cyI an (S_green o18.2.2.2.1)), (cV cyI an (S_score o18.2.2.2.1)), (cS cyI b0 o18.2.2.2.2.1), (cS cyI b1 o18.2.2.2.2.2.1), (cS cyI b2 o18.2.2.2.2.2.2.1), (cS cyI b3 o18.2.2.2.2.2.2.2.1), (cS cyI b4 o18.2.2.2.2.2.2.2.2.1), (cS cyI b5 o18.2.2.2.2.2.2.2.2.2)] : List va_W).flatten) := hD.perm hq
                  clear hq
                  refine lv_goto (tgt := 516) hx hb dL_act_499 (by decide) ?_
                  refine W.widen (k := 42) (n := 252) (by omega) (by omega) ?_
                  exact hJ516 (o18.1, o18.2.1, o18.2.2.1, o18.2.2.2.1, o18.2.2.2.2.1, o18.2.2.2.2.2.1, o18.2.2.2.2.2.2.1, o18.2.2.2.2.2.2.2.1, o18.2.2.2.2.2.2.2.2.1, o18.2.2.2.2.2.2.2.2.2) _ _ _ hP hD hS (lv_sub hl [] rfl) hF
              · have hF := itp c10 hF
                refine lv_aload_n hx hb dL_act_464 rfl (lv_at hl 2 rfl) ?_
                refine lv_bipush (v := 7) hx hb dL_act_465 (by decide) ?_
                refine lv_iconst (v := 0) hx hb dL_act_467 (by decide) ?_
                refine lv_iconst (v := 0) hx hb dL_act_468 (by decide) ?_
                refine lv_iconst (v := 0) hx hb dL_act_469 (by decide) ?_
                refine lv_aload_n hx hb dL_act_470 rfl (lv_at hl 4 rfl) ?_
                obtain ⟨o20, h21, hF⟩ := obd hF
                refine wcLi (As := [.ref (x 0), .int (7 : Int32), .int (0 : Int32), .int (0 : Int32), .int (0 : Int32), .ref qo]) (rest := []) (wr := ([] : List va_W).flatten) ⟨hx, hb, hml, hown, hts⟩ (met_L_changes l z0 hst dC dI cyI cyO qo x tr an b0 b1 b2 b3 b4 b5 fl fs _ N fo xv nv v0 v1 v2 v3 v4 v5 (7 : Int32) (0 : Int32) (0 : Int32) (0 : Int32) hs0 hs1 hs2 hs3 hs4 hs5 o20 h21) (vx_cwSW 6 hts (gS w_methodLink_L_89 w_static_L_changes w_initialized_L w_codeW_L_changes) rfl rfl rfl (by decide +kernel) ⟨Nat.le_of_ble_eq_true rfl, Nat.le_of_ble_eq_true rfl⟩) hP hD hK hZ hAz hz0 (seg_perm (n := 15) (R := []) (C := [[cI cyI qo 1 fo], (cXo x an tr xv), (cH cyO (x 1) (x 2) 2 fl), (cXk cyI x xv), (cH cyO (x 4) (x 5) 6 fs), (cT cyI x (X_text xv)), (cSo an nv), (cG cyI an (S_green nv)), (cV cyI an (S_score nv)), (cS cyI b0 v0), (cS cyI b1 v1), (cS cyI b2 v2), (cS cyI b3 v3), (cS cyI b4 v4), (cS cyI b5 v5)]) [] [0, 1, 2, 3, 4, 5, 6, 7, 8, 9, 10, 11, 12, 13, 14] rfl rfl rfl (by decide) rfl) rfl hl.1 (Nat.le_of_ble_eq_true rfl) dL_act_471 ⟨(show _ ≤ 84 from by omega), (show _ ≤ 504 from by omega)⟩ hS hA (fun r u H locs hw hP hD hS => ?_)
                obtain rfl : r = o20.1 := congrArg Prod.fst hw
                obtain rfl : u = o20.2 := congrArg Prod.snd hw
                clear hw
                have hq := seg_permS (segs := [[cI cyI qo 1 o20.2.1], (cXo x an tr o20.2.2.1), (cH cyO (x 1) (x 2) 2 fl), (cXk cyI x o20.2.2.1), (cH cyO (x 4) (x 5) 6 fs), (cT cyI x (X_text o20.2.2.1)), (cSo an o20.2.2.2.1), (cG cyI an (S_green o20.2.2.2.1)), (cV cyI an (S_score o20.2.2.2.1)), (cS cyI b0 o20.2.2.2.2.1), (cS cyI b1 o20.2.2.2.2.2.1), (cS cyI b2 o20.2.2.2.2.2.2.1), (cS cyI b3 o20.2.2.2.2.2.2.2.1), (cS cyI b4 o20.2.2.2.2.2.2.2.2.1), (cS cyI b5 o20.2.2.2.2.2.2.2.2.2)]) (R := []) (C := [[cI cyI qo 1 o20.2.1], (cXo x an tr o20.2.2.1), (cH cyO (x 1) (x 2) 2 fl), (cXk cyI x o20.2.2.1), (cH cyO (x 4) (x 5) 6 fs), (cT cyI x (X_text o20.2.2.1)), (cSo an o20.2.2.2.1), (cG cyI an (S_green o20.2.2.2.1)), (cV cyI an (S_score o20.2.2.2.1)), (cS cyI b0 o20.2.2.2.2.1), (cS cyI b1 o20.2.2.2.2.2.1), (cS cyI b2 o20.2.2.2.2.2.2.1), (cS cyI b3 o20.2.2.2.2.2.2.2.1), (cS cyI b4 o20.2.2.2.2.2.2.2.2.1), (cS cyI b5 o20.2.2.2.2.2.2.2.2.2)]) (n := 15) [] [0, 1, 2, 3, 4, 5, 6, 7, 8, 9, 10, 11, 12, 13, 14] rfl rfl rfl (by decide)
                have hP : va_P (dC, dI) vwCl (([[cI cyI qo 1 o20.2.1], (cXo x an tr o20.2.2.1), (cH cyO (x 1) (x 2) 2 fl), (cXk cyI x o20.2.2.1), (cH cyO (x 4) (x 5) 6 fs), (cT cyI x (X_text o20.2.2.1)), (cSo an o20.2.2.2.1), (cG cyI an (S_green o20.2.2.2.1)), (cV cyI an (S_score o20.2.2.2.1)), (cS cyI b0 o20.2.2.2.2.1), (cS cyI b1 o20.2.2.2.2.2.1), (cS cyI b2 o20.2.2.2.2.2.2.1), (cS cyI b3 o20.2.2.2.2.2.2.2.1), (cS cyI b4 o20.2.2.2.2.2.2.2.2.1), (cS cyI b5 o20.2.2.2.2.2.2.2.2.2)] : List va_W).flatten) H := hP.perm hq
                have hD : va_D A (([[cI cyI qo 1 o20.2.1], (cXo x an tr o20.2.2.1), (cH cyO (x 1) (x 2) 2 fl), (cXk cyI x o20.2.2.1), (cH cyO (x 4) (x 5) 6 fs), (cT cyI x (X_text o20.2.2.1)), (cSo an o20.2.2.2.1), (cG cyI an (S_green o20.2.2.2.1)), (cV cyI an (S_score o20.2.2.2.1)), (cS cyI b0 o20.2.2.2.2.1), (cS cyI b1 o20.2.2.2.2.2.1), (cS cyI b2 o20.2.2.2.2.2.2.1), (cS cyI b3 o20.2.2.2.2.2.2.2.1), (cS cyI b4 o20.2.2.2.2.2.2.2.2.1), (cS cyI b5 o20.2.2.2.2.2.2.2.2.2)] : List va_W).flatten) := hD.perm hq
                clear hq
                refine lv_goto (tgt := 516) hx hb dL_act_474 (by decide) ?_
                refine W.widen (k := 42) (n := 252) (by omega) (by omega) ?_
                exact hJ516 (o20.1, o20.2.1, o20.2.2.1, o20.2.2.2.1, o20.2.2.2.2.1, o20.2.2.2.2.2.1, o20.2.2.2.2.2.2.1, o20.2.2.2.2.2.2.2.1, o20.2.2.2.2.2.2.2.2.1, o20.2.2.2.2.2.2.2.2.2) _ _ _ hP hD hS (lv_sub hl [] rfl) hF
            · have hF := itp c9 hF
              refine lv_aload_n hx hb dL_act_444 rfl (lv_at hl 2 rfl) ?_
              refine lv_bipush (v := 6) hx hb dL_act_445 (by decide) ?_
              refine lv_iconst (v := 0) hx hb dL_act_447 (by decide) ?_
              refine lv_iconst (v := 0) hx hb dL_act_448 (by decide) ?_
              refine lv_iconst (v := 0) hx hb dL_act_449 (by decide) ?_
              refine lv_aload_n hx hb dL_act_450 rfl (lv_at hl 4 rfl) ?_
              obtain ⟨o22, h23, hF⟩ := obd hF
              refine wcLi (As := [.ref (x 0), .int (6 : Int32), .int (0 : Int32), .int (0 : Int32), .int (0 : Int32), .ref qo]) (rest := []) (wr := ([] : List va_W).flatten) ⟨hx, hb, hml, hown, hts⟩ (met_L_changes l z0 hst dC dI cyI cyO qo x tr an b0 b1 b2 b3 b4 b5 fl fs _ N fo xv nv v0 v1 v2 v3 v4 v5 (6 : Int32) (0 : Int32) (0 : Int32) (0 : Int32) hs0 hs1 hs2 hs3 hs4 hs5 o22 h23) (vx_cwSW 6 hts (gS w_methodLink_L_89 w_static_L_changes w_initialized_L w_codeW_L_changes) rfl rfl rfl (by decide +kernel) ⟨Nat.le_of_ble_eq_true rfl, Nat.le_of_ble_eq_true rfl⟩) hP hD hK hZ hAz hz0 (seg_perm (n := 15) (R := []) (C := [[cI cyI qo 1 fo], (cXo x an tr xv), (cH cyO (x 1) (x 2) 2 fl), (cXk cyI x xv), (cH cyO (x 4) (x 5) 6 fs), (cT cyI x (X_text xv)), (cSo an nv), (cG cyI an (S_green nv)), (cV cyI an (S_score nv)), (cS cyI b0 v0), (cS cyI b1 v1), (cS cyI b2 v2), (cS cyI b3 v3), (cS cyI b4 v4), (cS cyI b5 v5)]) [] [0, 1, 2, 3, 4, 5, 6, 7, 8, 9, 10, 11, 12, 13, 14] rfl rfl rfl (by decide) rfl) rfl hl.1 (Nat.le_of_ble_eq_true rfl) dL_act_451 ⟨(show _ ≤ 84 from by omega), (show _ ≤ 504 from by omega)⟩ hS hA (fun r u H locs hw hP hD hS => ?_)
              obtain rfl : r = o22.1 := congrArg Prod.fst hw
              obtain rfl : u = o22.2 := congrArg Prod.snd hw
              clear hw
              have hq := seg_permS (segs := [[cI cyI qo 1 o22.2.1], (cXo x an tr o22.2.2.1), (cH cyO (x 1) (x 2) 2 fl), (cXk cyI x o22.2.2.1), (cH cyO (x 4) (x 5) 6 fs), (cT cyI x (X_text o22.2.2.1)), (cSo an o22.2.2.2.1), (cG cyI an (S_green o22.2.2.2.1)), (cV cyI an (S_score o22.2.2.2.1)), (cS cyI b0 o22.2.2.2.2.1), (cS cyI b1 o22.2.2.2.2.2.1), (cS cyI b2 o22.2.2.2.2.2.2.1), (cS cyI b3 o22.2.2.2.2.2.2.2.1), (cS cyI b4 o22.2.2.2.2.2.2.2.2.1), (cS cyI b5 o22.2.2.2.2.2.2.2.2.2)]) (R := []) (C := [[cI cyI qo 1 o22.2.1], (cXo x an tr o22.2.2.1), (cH cyO (x 1) (x 2) 2 fl), (cXk cyI x o22.2.2.1), (cH cyO (x 4) (x 5) 6 fs), (cT cyI x (X_text o22.2.2.1)), (cSo an o22.2.2.2.1), (cG cyI an (S_green o22.2.2.2.1)), (cV cyI an (S_score o22.2.2.2.1)), (cS cyI b0 o22.2.2.2.2.1), (cS cyI b1 o22.2.2.2.2.2.1), (cS cyI b2 o22.2.2.2.2.2.2.1), (cS cyI b3 o22.2.2.2.2.2.2.2.1), (cS cyI b4 o22.2.2.2.2.2.2.2.2.1), (cS cyI b5 o22.2.2.2.2.2.2.2.2.2)]) (n := 15) [] [0, 1, 2, 3, 4, 5, 6, 7, 8, 9, 10, 11, 12, 13, 14] rfl rfl rfl (by decide)
              have hP : va_P (dC, dI) vwCl (([[cI cyI qo 1 o22.2.1], (cXo x an tr o22.2.2.1), (cH cyO (x 1) (x 2) 2 fl), (cXk cyI x o22.2.2.1), (cH cyO (x 4) (x 5) 6 fs), (cT cyI x (X_text o22.2.2.1)), (cSo an o22.2.2.2.1), (cG cyI an (S_green o22.2.2.2.1)), (cV cyI an (S_score o22.2.2.2.1)), (cS cyI b0 o22.2.2.2.2.1), (cS cyI b1 o22.2.2.2.2.2.1), (cS cyI b2 o22.2.2.2.2.2.2.1), (cS cyI b3 o22.2.2.2.2.2.2.2.1), (cS cyI b4 o22.2.2.2.2.2.2.2.2.1), (cS cyI b5 o22.2.2.2.2.2.2.2.2.2)] : List va_W).flatten) H := hP.perm hq
              have hD : va_D A (([[cI cyI qo 1 o22.2.1], (cXo x an tr o22.2.2.1), (cH cyO (x 1) (x 2) 2 fl), (cXk cyI x o22.2.2.1), (cH cyO (x 4) (x 5) 6 fs), (cT cyI x (X_text o22.2.2.1)), (cSo an o22.2.2.2.1), (cG cyI an (S_green o22.2.2.2.1)), (cV cyI an (S_score o22.2.2.2.1)), (cS cyI b0 o22.2.2.2.2.1), (cS cyI b1 o22.2.2.2.2.2.1), (cS cyI b2 o22.2.2.2.2.2.2.1), (cS cyI b3 o22.2.2.2.2.2.2.2.1), (cS cyI b4 o22.2.2.2.2.2.2.2.2.1), (cS cyI b5 o22.2.2.2.2.2.2.2.2.2)] : List va_W).flatten) := hD.perm hq
              clear hq
              refine lv_goto (tgt := 516) hx hb dL_act_454 (by decide) ?_
              refine W.widen (k := 42) (n := 252) (by omega) (by omega) ?_
              exact hJ516 (o22.1, o22.2.1, o22.2.2.1, o22.2.2.2.1, o22.2.2.2.2.1, o22.2.2.2.2.2.1, o22.2.2.2.2.2.2.1, o22.2.2.2.2.2.2.2.1, o22.2.2.2.2.2.2.2.2.1, o22.2.2.2.2.2.2.2.2.2) _ _ _ hP hD hS (lv_sub hl [] rfl) hF
          · have hF := itp c8 hF
            refine lv_aload_n hx hb dL_act_410 rfl (lv_at hl 2 rfl) ?_
            refine lv_iconst (v := 4) hx hb dL_act_411 (by decide) ?_
            refine lv_iload_n hx hb dL_act_412 rfl (lv_at hl 5 rfl) ?_
            refine lv_iconst (v := 5) hx hb dL_act_413 (by decide) ?_
            obtain ⟨o24, h25, hF⟩ := obd hF
            refine wcRSi (As := [.int (p2 >>> ((5 : Int32) &&& 31)), .int (5 : Int32)]) (rest := [.int (4 : Int32), .ref (x 0)]) ⟨hx, hb, hml, hown, hts⟩ (met_L_low l dC dI cyI cyO  N  (p2 >>> ((5 : Int32) &&& 31)) (5 : Int32) o24 h25) (va_cwS 2 hts (gS w_methodLink_L_68 w_static_L_low w_initialized_L w_code_L_low) rfl rfl rfl (by decide +kernel) ⟨Nat.le_of_ble_eq_true rfl, Nat.le_of_ble_eq_true rfl⟩) hP hK [] rfl rfl hl.1 (Nat.le_of_ble_eq_true rfl) dL_act_414 ⟨(show _ ≤ 84 from by omega), (show _ ≤ 504 from by omega)⟩ hS (fun r H locs hw hP hS => ?_)
            have hw := hw.symm
            subst hw
            refine lv_iload hx hb dL_act_417 (lv_at hl 1 rfl) ?_
            obtain ⟨j427, hj427, hF⟩ := jn_use hF
            have hJ427 : ∀ (s427 : Int32) (H : Heap) (locs : List Loc) (ls : Array Slot) (hz_427_s3 : b01 s427), va_P (dC, dI) vwCl (([[cI cyI qo 1 fo], (cXo x an tr xv), (cH cyO (x 1) (x 2) 2 fl), (cXk cyI x xv), (cH cyO (x 4) (x 5) 6 fs), (cT cyI x (X_text xv)), (cSo an nv), (cG cyI an (S_green nv)), (cV cyI an (S_score nv)), (cS cyI b0 v0), (cS cyI b1 v1), (cS cyI b2 v2), (cS cyI b3 v3), (cS cyI b4 v4), (cS cyI b5 v5)] : List va_W).flatten) H → va_D A (([[cI cyI qo 1 fo], (cXo x an tr xv), (cH cyO (x 1) (x 2) 2 fl), (cXk cyI x xv), (cH cyO (x 4) (x 5) 6 fs), (cT cyI x (X_text xv)), (cSo an nv), (cG cyI an (S_green nv)), (cV cyI an (S_score nv)), (cS cyI b0 v0), (cS cyI b1 v1), (cS cyI b2 v2), (cS cyI b3 v3), (cS cyI b4 v4), (cS cyI b5 v5)] : List va_W).flatten) → va_S A s.heap H locs → lv_has ls 9 [(2, .ref qo)] → j427 s427 = some out → W p l e (headSpec (Cond.code yL_act cL_act 9 (some .int) :: wT) ({ frames := 9, cells := 84, slots := 504, locals := 158 } : Room)).room s m ([.ref (x 0), .int p2, .ref qo] : List Value).toArray below meth c H locs 0 0 (MQ below (va_Qi (fun (r : Int32) (u : (Nat → Int32) × XV × SV × SV × SV × SV × SV × SV × SV) => (r, u) = out) (fun u t => va_P (dC, dI) vwCl (([[cI cyI qo 1 u.1], (cXo x an tr u.2.1), (cH cyO (x 1) (x 2) 2 fl), (cXk cyI x u.2.1), (cH cyO (x 4) (x 5) 6 fs), (cT cyI x (X_text u.2.1)), (cSo an u.2.2.1), (cG cyI an (S_green u.2.2.1)), (cV cyI an (S_score u.2.2.1)), (cS cyI b0 u.2.2.2.1), (cS cyI b1 u.2.2.2.2.1), (cS cyI b2 u.2.2.2.2.2.1), (cS cyI b3 u.2.2.2.2.2.2.1), (cS cyI b4 u.2.2.2.2.2.2.2.1), (cS cyI b5 u.2.2.2.2.2.2.2.2)] : List va_W).flatten) t.heap ∧ va_D A (([[cI cyI qo 1 u.1], (cXo x an tr u.2.1), (cH cyO (x 1) (x 2) 2 fl), (cXk cyI x u.2.1), (cH cyO (x 4) (x 5) 6 fs), (cT cyI x (X_text u.2.1)), (cSo an u.2.2.1), (cG cyI an (S_green u.2.2.1)), (cV cyI an (S_score u.2.2.1)), (cS cyI b0 u.2.2.2.1), (cS cyI b1 u.2.2.2.2.1), (cS cyI b2 u.2.2.2.2.2.1), (cS cyI b3 u.2.2.2.2.2.2.1), (cS cyI b4 u.2.2.2.2.2.2.2.1), (cS cyI b5 u.2.2.2.2.2.2.2.2)] : List va_W).flatten)) A) ([.ref (x 0), .int p2, .ref qo] : List Value).toArray s 84 504 A) (F0 m 427 ls [.int s427, .int o24, .int (4 : Int32), .ref (x 0)]) := by
              intro s427 H locs ls hz_427_s3 hP hD hS hl hF
              have hF := (congrFun hj427 s427).symm.trans hF
              refine lv_iadd hx hb dL_act_427 ?_
              refine lv_iconst (v := 0) hx hb dL_act_428 (by decide) ?_
              refine lv_iconst (v := 0) hx hb dL_act_429 (by decide) ?_
              refine lv_aload_n hx hb dL_act_430 rfl (lv_at hl 0 rfl) ?_
              obtain ⟨o26, h27, hF⟩ := obd hF
              refine wcLi (As := [.ref (x 0), .int (4 : Int32), .int (o24 + s427), .int (0 : Int32), .int (0 : Int32), .ref qo]) (rest := []) (wr := ([] : List va_W).flatten) ⟨hx, hb, hml, hown, hts⟩ (met_L_changes l z0 hst dC dI cyI cyO qo x tr an b0 b1 b2 b3 b4 b5 fl fs _ N fo xv nv v0 v1 v2 v3 v4 v5 (4 : Int32) (o24 + s427) (0 : Int32) (0 : Int32) hs0 hs1 hs2 hs3 hs4 hs5 o26 h27) (vx_cwSW 6 hts (gS w_methodLink_L_89 w_static_L_changes w_initialized_L w_codeW_L_changes) rfl rfl rfl (by decide +kernel) ⟨Nat.le_of_ble_eq_true rfl, Nat.le_of_ble_eq_true rfl⟩) hP hD hK hZ hAz hz0 (seg_perm (n := 15) (R := []) (C := [[cI cyI qo 1 fo], (cXo x an tr xv), (cH cyO (x 1) (x 2) 2 fl), (cXk cyI x xv), (cH cyO (x 4) (x 5) 6 fs), (cT cyI x (X_text xv)), (cSo an nv), (cG cyI an (S_green nv)), (cV cyI an (S_score nv)), (cS cyI b0 v0), (cS cyI b1 v1), (cS cyI b2 v2), (cS cyI b3 v3), (cS cyI b4 v4), (cS cyI b5 v5)]) [] [0, 1, 2, 3, 4, 5, 6, 7, 8, 9, 10, 11, 12, 13, 14] rfl rfl rfl (by decide) rfl) rfl hl.1 (Nat.le_of_ble_eq_true rfl) dL_act_431 ⟨(show _ ≤ 84 from by omega), (show _ ≤ 504 from by omega)⟩ hS hA (fun r u H locs hw hP hD hS => ?_)
              obtain rfl : r = o26.1 := congrArg Prod.fst hw
              obtain rfl : u = o26.2 := congrArg Prod.snd hw
              clear hw
              have hq := seg_permS (segs := [[cI cyI qo 1 o26.2.1], (cXo x an tr o26.2.2.1), (cH cyO (x 1) (x 2) 2 fl), (cXk cyI x o26.2.2.1), (cH cyO (x 4) (x 5) 6 fs), (cT cyI x (X_text o26.2.2.1)), (cSo an o26.2.2.2.1), (cG cyI an (S_green o26.2.2.2.1)), (cV cyI an (S_score o26.2.2.2.1)), (cS cyI b0 o26.2.2.2.2.1), (cS cyI b1 o26.2.2.2.2.2.1), (cS cyI b2 o26.2.2.2.2.2.2.1), (cS cyI b3 o26.2.2.2.2.2.2.2.1), (cS cyI b4 o26.2.2.2.2.2.2.2.2.1), (cS cyI b5 o26.2.2.2.2.2.2.2.2.2)]) (R := []) (C := [[cI cyI qo 1 o26.2.1], (cXo x an tr o26.2.2.1), (cH cyO (x 1) (x 2) 2 fl), (cXk cyI x o26.2.2.1), (cH cyO (x 4) (x 5) 6 fs), (cT cyI x (X_text o26.2.2.1)), (cSo an o26.2.2.2.1), (cG cyI an (S_green o26.2.2.2.1)), (cV cyI an (S_score o26.2.2.2.1)), (cS cyI b0 o26.2.2.2.2.1), (cS cyI b1 o26.2.2.2.2.2.1), (cS cyI b2 o26.2.2.2.2.2.2.1), (cS cyI b3 o26.2.2.2.2.2.2.2.1), (cS cyI b4 o26.2.2.2.2.2.2.2.2.1), (cS cyI b5 o26.2.2.2.2.2.2.2.2.2)]) (n := 15) [] [0, 1, 2, 3, 4, 5, 6, 7, 8, 9, 10, 11, 12, 13, 14] rfl rfl rfl (by decide)
              have hP : va_P (dC, dI) vwCl (([[cI cyI qo 1 o26.2.1], (cXo x an tr o26.2.2.1), (cH cyO (x 1) (x 2) 2 fl), (cXk cyI x o26.2.2.1), (cH cyO (x 4) (x 5) 6 fs), (cT cyI x (X_text o26.2.2.1)), (cSo an o26.2.2.2.1), (cG cyI an (S_green o26.2.2.2.1)), (cV cyI an (S_score o26.2.2.2.1)), (cS cyI b0 o26.2.2.2.2.1), (cS cyI b1 o26.2.2.2.2.2.1), (cS cyI b2 o26.2.2.2.2.2.2.1), (cS cyI b3 o26.2.2.2.2.2.2.2.1), (cS cyI b4 o26.2.2.2.2.2.2.2.2.1), (cS cyI b5 o26.2.2.2.2.2.2.2.2.2)] : List va_W).flatten) H := hP.perm hq
              have hD : va_D A (([[cI cyI qo 1 o26.2.1], (cXo x an tr o26.2.2.1), (cH cyO (x 1) (x 2) 2 fl), (cXk cyI x o26.2.2.1), (cH cyO (x 4) (x 5) 6 fs), (cT cyI x (X_text o26.2.2.1)), (cSo an o26.2.2.2.1), (cG cyI an (S_green o26.2.2.2.1)), (cV cyI an (S_score o26.2.2.2.1)), (cS cyI b0 o26.2.2.2.2.1), (cS cyI b1 o26.2.2.2.2.2.1), (cS cyI b2 o26.2.2.2.2.2.2.1), (cS cyI b3 o26.2.2.2.2.2.2.2.1), (cS cyI b4 o26.2.2.2.2.2.2.2.2.1), (cS cyI b5 o26.2.2.2.2.2.2.2.2.2)] : List va_W).flatten) := hD.perm hq
              clear hq
              refine lv_goto (tgt := 516) hx hb dL_act_434 (by decide) ?_
              refine W.widen (k := 42) (n := 252) (by omega) (by omega) ?_
              exact hJ516 (o26.1, o26.2.1, o26.2.2.1, o26.2.2.2.1, o26.2.2.2.2.1, o26.2.2.2.2.2.1, o26.2.2.2.2.2.2.1, o26.2.2.2.2.2.2.2.1, o26.2.2.2.2.2.2.2.2.1, o26.2.2.2.2.2.2.2.2.2) _ _ _ hP hD hS (lv_sub hl [] rfl) hF
            refine lv_if_eq (tgt := 426) hx hb dL_act_419 (by decide) (fun c28 => ?_) (fun c28 => ?_)
            · have hF := itp c28 hF
              refine lv_iconst (v := 0) hx hb dL_act_426 (by decide) ?_
              refine W.widen (k := 0) (n := 0) (by omega) (by omega) ?_
              exact hJ427 (0 : Int32) _ _ _ b01_0 hP hD hS (lv_sub hl [4] rfl) hF
            · have hF := itn c28 hF
              refine lv_iconst (v := 1) hx hb dL_act_422 (by decide) ?_
              refine lv_goto (tgt := 427) hx hb dL_act_423 (by decide) ?_
              refine W.widen (k := 0) (n := 0) (by omega) (by omega) ?_
              exact hJ427 (1 : Int32) _ _ _ b01_1 hP hD hS (lv_sub hl [4] rfl) hF
        · have hF := itp c7 hF
          refine lv_aload_n hx hb dL_act_391 rfl (lv_at hl 2 rfl) ?_
          refine lv_iconst (v := 2) hx hb dL_act_392 (by decide) ?_
          refine lv_iconst (v := 0) hx hb dL_act_393 (by decide) ?_
          refine lv_iconst (v := 0) hx hb dL_act_394 (by decide) ?_
          refine lv_iconst (v := 0) hx hb dL_act_395 (by decide) ?_
          refine lv_aload_n hx hb dL_act_396 rfl (lv_at hl 4 rfl) ?_
          obtain ⟨o29, h30, hF⟩ := obd hF
          refine wcLi (As := [.ref (x 0), .int (2 : Int32), .int (0 : Int32), .int (0 : Int32), .int (0 : Int32), .ref qo]) (rest := []) (wr := ([] : List va_W).flatten) ⟨hx, hb, hml, hown, hts⟩ (met_L_changes l z0 hst dC dI cyI cyO qo x tr an b0 b1 b2 b3 b4 b5 fl fs _ N fo xv nv v0 v1 v2 v3 v4 v5 (2 : Int32) (0 : Int32) (0 : Int32) (0 : Int32) hs0 hs1 hs2 hs3 hs4 hs5 o29 h30) (vx_cwSW 6 hts (gS w_methodLink_L_89 w_static_L_changes w_initialized_L w_codeW_L_changes) rfl rfl rfl (by decide +kernel) ⟨Nat.le_of_ble_eq_true rfl, Nat.le_of_ble_eq_true rfl⟩) hP hD hK hZ hAz hz0 (seg_perm (n := 15) (R := []) (C := [[cI cyI qo 1 fo], (cXo x an tr xv), (cH cyO (x 1) (x 2) 2 fl), (cXk cyI x xv), (cH cyO (x 4) (x 5) 6 fs), (cT cyI x (X_text xv)), (cSo an nv), (cG cyI an (S_green nv)), (cV cyI an (S_score nv)), (cS cyI b0 v0), (cS cyI b1 v1), (cS cyI b2 v2), (cS cyI b3 v3), (cS cyI b4 v4), (cS cyI b5 v5)]) [] [0, 1, 2, 3, 4, 5, 6, 7, 8, 9, 10, 11, 12, 13, 14] rfl rfl rfl (by decide) rfl) rfl hl.1 (Nat.le_of_ble_eq_true rfl) dL_act_397 ⟨(show _ ≤ 84 from by omega), (show _ ≤ 504 from by omega)⟩ hS hA (fun r u H locs hw hP hD hS => ?_)
          obtain rfl : r = o29.1 := congrArg Prod.fst hw
          obtain rfl : u = o29.2 := congrArg Prod.snd hw
          clear hw
          have hq := seg_permS (segs := [[cI cyI qo 1 o29.2.1], (cXo x an tr o29.2.2.1), (cH cyO (x 1) (x 2) 2 fl), (cXk cyI x o29.2.2.1), (cH cyO (x 4) (x 5) 6 fs), (cT cyI x (X_text o29.2.2.1)), (cSo an o29.2.2.2.1), (cG cyI an (S_green o29.2.2.2.1)), (cV cyI an (S_score o29.2.2.2.1)), (cS cyI b0 o29.2.2.2.2.1), (cS cyI b1 o29.2.2.2.2.2.1), (cS cyI b2 o29.2.2.2.2.2.2.1), (cS cyI b3 o29.2.2.2.2.2.2.2.1), (cS cyI b4 o29.2.2.2.2.2.2.2.2.1), (cS cyI b5 o29.2.2.2.2.2.2.2.2.2)]) (R := []) (C := [[cI cyI qo 1 o29.2.1], (cXo x an tr o29.2.2.1), (cH cyO (x 1) (x 2) 2 fl), (cXk cyI x o29.2.2.1), (cH cyO (x 4) (x 5) 6 fs), (cT cyI x (X_text o29.2.2.1)), (cSo an o29.2.2.2.1), (cG cyI an (S_green o29.2.2.2.1)), (cV cyI an (S_score o29.2.2.2.1)), (cS cyI b0 o29.2.2.2.2.1), (cS cyI b1 o29.2.2.2.2.2.1), (cS cyI b2 o29.2.2.2.2.2.2.1), (cS cyI b3 o29.2.2.2.2.2.2.2.1), (cS cyI b4 o29.2.2.2.2.2.2.2.2.1), (cS cyI b5 o29.2.2.2.2.2.2.2.2.2)]) (n := 15) [] [0, 1, 2, 3, 4, 5, 6, 7, 8, 9, 10, 11, 12, 13, 14] rfl rfl rfl (by decide)
          have hP : va_P (dC, dI) vwCl (([[cI cyI qo 1 o29.2.1], (cXo x an tr o29.2.2.1), (cH cyO (x 1) (x 2) 2 fl), (cXk cyI x o29.2.2.1), (cH cyO (x 4) (x 5) 6 fs), (cT cyI x (X_text o29.2.2.1)), (cSo an o29.2.2.2.1), (cG cyI an (S_green o29.2.2.2.1)), (cV cyI an (S_score o29.2.2.2.1)), (cS cyI b0 o29.2.2.2.2.1), (cS cyI b1 o29.2.2.2.2.2.1), (cS cyI b2 o29.2.2.2.2.2.2.1), (cS cyI b3 o29.2.2.2.2.2.2.2.1), (cS cyI b4 o29.2.2.2.2.2.2.2.2.1), (cS cyI b5 o29.2.2.2.2.2.2.2.2.2)] : List va_W).flatten) H := hP.perm hq
          have hD : va_D A (([[cI cyI qo 1 o29.2.1], (cXo x an tr o29.2.2.1), (cH cyO (x 1) (x 2) 2 fl), (cXk cyI x o29.2.2.1), (cH cyO (x 4) (x 5) 6 fs), (cT cyI x (X_text o29.2.2.1)), (cSo an o29.2.2.2.1), (cG cyI an (S_green o29.2.2.2.1)), (cV cyI an (S_score o29.2.2.2.1)), (cS cyI b0 o29.2.2.2.2.1), (cS cyI b1 o29.2.2.2.2.2.1), (cS cyI b2 o29.2.2.2.2.2.2.1), (cS cyI b3 o29.2.2.2.2.2.2.2.1), (cS cyI b4 o29.2.2.2.2.2.2.2.2.1), (cS cyI b5 o29.2.2.2.2.2.2.2.2.2)] : List va_W).flatten) := hD.perm hq
          clear hq
          refine lv_goto (tgt := 516) hx hb dL_act_400 (by decide) ?_
          refine W.widen (k := 42) (n := 252) (by omega) (by omega) ?_
          exact hJ516 (o29.1, o29.2.1, o29.2.2.1, o29.2.2.2.1, o29.2.2.2.2.1, o29.2.2.2.2.2.1, o29.2.2.2.2.2.2.1, o29.2.2.2.2.2.2.2.1, o29.2.2.2.2.2.2.2.2.1, o29.2.2.2.2.2.2.2.2.2) _ _ _ hP hD hS (lv_sub hl [] rfl) hF
      · have hF := itn c6 hF
        refine lv_aload_n hx hb dL_act_355 rfl (lv_at hl 2 rfl) ?_
        refine lv_iconst (v := 5) hx hb dL_act_356 (by decide) ?_
        refine lv_iload_n hx hb dL_act_357 rfl (lv_at hl 5 rfl) ?_
        refine lv_iload hx hb dL_act_358 (lv_at hl 1 rfl) ?_
        obtain ⟨j370, hj370, hF⟩ := jn_use hF
        have hJ370 : ∀ (s370 : Int32) (H : Heap) (locs : List Loc) (ls : Array Slot), va_P (dC, dI) vwCl (([[cI cyI qo 1 fo], (cXo x an tr xv), (cH cyO (x 1) (x 2) 2 fl), (cXk cyI x xv), (cH cyO (x 4) (x 5) 6 fs), (cT cyI x (X_text xv)), (cSo an nv), (cG cyI an (S_green nv)), (cV cyI an (S_score nv)), (cS cyI b0 v0), (cS cyI b1 v1), (cS cyI b2 v2), (cS cyI b3 v3), (cS cyI b4 v4), (cS cyI b5 v5)] : List va_W).flatten) H → va_D A (([[cI cyI qo 1 fo], (cXo x an tr xv), (cH cyO (x 1) (x 2) 2 fl), (cXk cyI x xv), (cH cyO (x 4) (x 5) 6 fs), (cT cyI x (X_text xv)), (cSo an nv), (cG cyI an (S_green nv)), (cV cyI an (S_score nv)), (cS cyI b0 v0), (cS cyI b1 v1), (cS cyI b2 v2), (cS cyI b3 v3), (cS cyI b4 v4), (cS cyI b5 v5)] : List va_W).flatten) → va_S A s.heap H locs → lv_has ls 9 [(2, .ref qo)] → j370 s370 = some out → W p l e (headSpec (Cond.code yL_act cL_act 9 (some .int) :: wT) ({ frames := 9, cells := 84, slots := 504, locals := 158 } : Room)).room s m ([.ref (x 0), .int p2, .ref qo] : List Value).toArray below meth c H locs 0 0 (MQ below (va_Qi (fun (r : Int32) (u : (Nat → Int32) × XV × SV × SV × SV × SV × SV × SV × SV) => (r, u) = out) (fun u t => va_P (dC, dI) vwCl (([[cI cyI qo 1 u.1], (cXo x an tr u.2.1), (cH cyO (x 1) (x 2) 2 fl), (cXk cyI x u.2.1), (cH cyO (x 4) (x 5) 6 fs), (cT cyI x (X_text u.2.1)), (cSo an u.2.2.1), (cG cyI an (S_green u.2.2.1)), (cV cyI an (S_score u.2.2.1)), (cS cyI b0 u.2.2.2.1), (cS cyI b1 u.2.2.2.2.1), (cS cyI b2 u.2.2.2.2.2.1), (cS cyI b3 u.2.2.2.2.2.2.1), (cS cyI b4 u.2.2.2.2.2.2.2.1), (cS cyI b5 u.2.2.2.2.2.2.2.2)] : List va_W).flatten) t.heap ∧ va_D A (([[cI cyI qo 1 u.1], (cXo x an tr u.2.1), (cH cyO (x 1) (x 2) 2 fl), (cXk cyI x u.2.1), (cH cyO (x 4) (x 5) 6 fs), (cT cyI x (X_text u.2.1)), (cSo an u.2.2.1), (cG cyI an (S_green u.2.2.1)), (cV cyI an (S_score u.2.2.1)), (cS cyI b0 u.2.2.2.1), (cS cyI b1 u.2.2.2.2.1), (cS cyI b2 u.2.2.2.2.2.1), (cS cyI b3 u.2.2.2.2.2.2.1), (cS cyI b4 u.2.2.2.2.2.2.2.1), (cS cyI b5 u.2.2.2.2.2.2.2.2)] : List va_W).flatten)) A) ([.ref (x 0), .int p2, .ref qo] : List Value).toArray s 84 504 A) (F0 m 370 ls [.int s370, .int (p2 >>> ((5 : Int32) &&& 31)), .int (5 : Int32), .ref (x 0)]) := by
          intro s370 H locs ls hP hD hS hl hF
          have hF := (congrFun hj370 s370).symm.trans hF
          obtain ⟨o31, h32, hF⟩ := obd hF
          refine wcRSi (As := [.int (p2 >>> ((5 : Int32) &&& 31)), .int s370]) (rest := [.int (5 : Int32), .ref (x 0)]) ⟨hx, hb, hml, hown, hts⟩ (met_L_low l dC dI cyI cyO  N  (p2 >>> ((5 : Int32) &&& 31)) s370 o31 h32) (va_cwS 2 hts (gS w_methodLink_L_68 w_static_L_low w_initialized_L w_code_L_low) rfl rfl rfl (by decide +kernel) ⟨Nat.le_of_ble_eq_true rfl, Nat.le_of_ble_eq_true rfl⟩) hP hK [] rfl rfl hl.1 (Nat.le_of_ble_eq_true rfl) dL_act_370 ⟨(show _ ≤ 84 from by omega), (show _ ≤ 504 from by omega)⟩ hS (fun r H locs hw hP hS => ?_)
          have hw := hw.symm
          subst hw
          refine lv_iconst (v := 5) hx hb dL_act_373 (by decide) ?_
          refine lv_isub hx hb dL_act_374 ?_
          refine lv_iconst (v := 0) hx hb dL_act_375 (by decide) ?_
          refine lv_iconst (v := 0) hx hb dL_act_376 (by decide) ?_
          refine lv_aload_n hx hb dL_act_377 rfl (lv_at hl 0 rfl) ?_
          obtain ⟨o33, h34, hF⟩ := obd hF
          refine wcLi (As := [.ref (x 0), .int (5 : Int32), .int (o31 - (5 : Int32)), .int (0 : Int32), .int (0 : Int32), .ref qo]) (rest := []) (wr := ([] : List va_W).flatten) ⟨hx, hb, hml, hown, hts⟩ (met_L_changes l z0 hst dC dI cyI cyO qo x tr an b0 b1 b2 b3 b4 b5 fl fs _ N fo xv nv v0 v1 v2 v3 v4 v5 (5 : Int32) (o31 - (5 : Int32)) (0 : Int32) (0 : Int32) hs0 hs1 hs2 hs3 hs4 hs5 o33 h34) (vx_cwSW 6 hts (gS w_methodLink_L_89 w_static_L_changes w_initialized_L w_codeW_L_changes) rfl rfl rfl (by decide +kernel) ⟨Nat.le_of_ble_eq_true rfl, Nat.le_of_ble_eq_true rfl⟩) hP hD hK hZ hAz hz0 (seg_perm (n := 15) (R := []) (C := [[cI cyI qo 1 fo], (cXo x an tr xv), (cH cyO (x 1) (x 2) 2 fl), (cXk cyI x xv), (cH cyO (x 4) (x 5) 6 fs), (cT cyI x (X_text xv)), (cSo an nv), (cG cyI an (S_green nv)), (cV cyI an (S_score nv)), (cS cyI b0 v0), (cS cyI b1 v1), (cS cyI b2 v2), (cS cyI b3 v3), (cS cyI b4 v4), (cS cyI b5 v5)]) [] [0, 1, 2, 3, 4, 5, 6, 7, 8, 9, 10, 11, 12, 13, 14] rfl rfl rfl (by decide) rfl) rfl hl.1 (Nat.le_of_ble_eq_true rfl) dL_act_378 ⟨(show _ ≤ 84 from by omega), (show _ ≤ 504 from by omega)⟩ hS hA (fun r u H locs hw hP hD hS => ?_)
          obtain rfl : r = o33.1 := congrArg Prod.fst hw
          obtain rfl : u = o33.2 := congrArg Prod.snd hw
          clear hw
          have hq := seg_permS (segs := [[cI cyI qo 1 o33.2.1], (cXo x an tr o33.2.2.1), (cH cyO (x 1) (x 2) 2 fl), (cXk cyI x o33.2.2.1), (cH cyO (x 4) (x 5) 6 fs), (cT cyI x (X_text o33.2.2.1)), (cSo an o33.2.2.2.1), (cG cyI an (S_green o33.2.2.2.1)), (cV cyI an (S_score o33.2.2.2.1)), (cS cyI b0 o33.2.2.2.2.1), (cS cyI b1 o33.2.2.2.2.2.1), (cS cyI b2 o33.2.2.2.2.2.2.1), (cS cyI b3 o33.2.2.2.2.2.2.2.1), (cS cyI b4 o33.2.2.2.2.2.2.2.2.1), (cS cyI b5 o33.2.2.2.2.2.2.2.2.2)]) (R := []) (C := [[cI cyI qo 1 o33.2.1], (cXo x an tr o33.2.2.1), (cH cyO (x 1) (x 2) 2 fl), (cXk cyI x o33.2.2.1), (cH cyO (x 4) (x 5) 6 fs), (cT cyI x (X_text o33.2.2.1)), (cSo an o33.2.2.2.1), (cG cyI an (S_green o33.2.2.2.1)), (cV cyI an (S_score o33.2.2.2.1)), (cS cyI b0 o33.2.2.2.2.1), (cS cyI b1 o33.2.2.2.2.2.1), (cS cyI b2 o33.2.2.2.2.2.2.1), (cS cyI b3 o33.2.2.2.2.2.2.2.1), (cS cyI b4 o33.2.2.2.2.2.2.2.2.1), (cS cyI b5 o33.2.2.2.2.2.2.2.2.2)]) (n := 15) [] [0, 1, 2, 3, 4, 5, 6, 7, 8, 9, 10, 11, 12, 13, 14] rfl rfl rfl (by decide)
          have hP : va_P (dC, dI) vwCl (([[cI cyI qo 1 o33.2.1], (cXo x an tr o33.2.2.1), (cH cyO (x 1) (x 2) 2 fl), (cXk cyI x o33.2.2.1), (cH cyO (x 4) (x 5) 6 fs), (cT cyI x (X_text o33.2.2.1)), (cSo an o33.2.2.2.1), (cG cyI an (S_green o33.2.2.2.1)), (cV cyI an (S_score o33.2.2.2.1)), (cS cyI b0 o33.2.2.2.2.1), (cS cyI b1 o33.2.2.2.2.2.1), (cS cyI b2 o33.2.2.2.2.2.2.1), (cS cyI b3 o33.2.2.2.2.2.2.2.1), (cS cyI b4 o33.2.2.2.2.2.2.2.2.1), (cS cyI b5 o33.2.2.2.2.2.2.2.2.2)] : List va_W).flatten) H := hP.perm hq
          have hD : va_D A (([[cI cyI qo 1 o33.2.1], (cXo x an tr o33.2.2.1), (cH cyO (x 1) (x 2) 2 fl), (cXk cyI x o33.2.2.1), (cH cyO (x 4) (x 5) 6 fs), (cT cyI x (X_text o33.2.2.1)), (cSo an o33.2.2.2.1), (cG cyI an (S_green o33.2.2.2.1)), (cV cyI an (S_score o33.2.2.2.1)), (cS cyI b0 o33.2.2.2.2.1), (cS cyI b1 o33.2.2.2.2.2.1), (cS cyI b2 o33.2.2.2.2.2.2.1), (cS cyI b3 o33.2.2.2.2.2.2.2.1), (cS cyI b4 o33.2.2.2.2.2.2.2.2.1), (cS cyI b5 o33.2.2.2.2.2.2.2.2.2)] : List va_W).flatten) := hD.perm hq
          clear hq
          refine lv_goto (tgt := 516) hx hb dL_act_381 (by decide) ?_
          refine W.widen (k := 42) (n := 252) (by omega) (by omega) ?_
          exact hJ516 (o33.1, o33.2.1, o33.2.2.1, o33.2.2.2.1, o33.2.2.2.2.1, o33.2.2.2.2.2.1, o33.2.2.2.2.2.2.1, o33.2.2.2.2.2.2.2.1, o33.2.2.2.2.2.2.2.2.1, o33.2.2.2.2.2.2.2.2.2) _ _ _ hP hD hS (lv_sub hl [] rfl) hF
        refine lv_if_eq (tgt := 368) hx hb dL_act_360 (by decide) (fun c35 => ?_) (fun c35 => ?_)
        · have hF := itp c35 hF
          refine lv_bipush (v := 14) hx hb dL_act_368 (by decide) ?_
          refine W.widen (k := 0) (n := 0) (by omega) (by omega) ?_
          exact hJ370 (14 : Int32) _ _ _ hP hD hS (lv_sub hl [4] rfl) hF
        · have hF := itn c35 hF
          refine lv_bipush (v := 11) hx hb dL_act_363 (by decide) ?_
          refine lv_goto (tgt := 370) hx hb dL_act_365 (by decide) ?_
          refine W.widen (k := 0) (n := 0) (by omega) (by omega) ?_
          exact hJ370 (11 : Int32) _ _ _ hP hD hS (lv_sub hl [4] rfl) hF
    · have hF := itn c5 hF
      refine lv_aload_n hx hb dL_act_38 rfl (lv_at hl 2 rfl) ?_
      obtain ⟨o36, h37, hF⟩ := obd hF
      refine wcRVi (As := []) (rest := []) (b := (x 0)) ⟨hx, hb, hml, hown, hts⟩ (met_X5_isJackThere l dC dI cyI cyO x tr an fl fs N xv nv  o36 h37) (cwV 0 hts (gV w_methodLink_L_74 w_instanceMethod_X5_isJackThere w_selects_X5_isJackThere w_initialized_X5 w_code_X5_isJackThere) rfl rfl rfl (by decide +kernel) ⟨Nat.le_of_ble_eq_true rfl, Nat.le_of_ble_eq_true rfl⟩) (va_recv hK.1 hP (ci := 5) (q0 := 1) rfl rfl) hP hK [1, 2, 3, 4, 5, 6, 7, 8, 9, 10, 11, 12, 13, 14, 15, 16, 17, 18, 19, 20, 21] rfl rfl hl.1 (Nat.le_of_ble_eq_true rfl) dL_act_39 ⟨(show _ ≤ 84 from by omega), (show _ ≤ 504 from by omega)⟩ hS (fun r H locs hw hP hS => ?_)
      obtain ⟨hw, hz38⟩ := hw
      have hw := hw.symm
      subst hw
      obtain ⟨j70, hj70, hF⟩ := jn_use hF
      have hJ70 : ∀ (s70 : Int32) (H : Heap) (locs : List Loc) (ls : Array Slot) (hz_70_s0 : b01 s70), va_P (dC, dI) vwCl (([[cI cyI qo 1 fo], (cXo x an tr xv), (cH cyO (x 1) (x 2) 2 fl), (cXk cyI x xv), (cH cyO (x 4) (x 5) 6 fs), (cT cyI x (X_text xv)), (cSo an nv), (cG cyI an (S_green nv)), (cV cyI an (S_score nv)), (cS cyI b0 v0), (cS cyI b1 v1), (cS cyI b2 v2), (cS cyI b3 v3), (cS cyI b4 v4), (cS cyI b5 v5)] : List va_W).flatten) H → va_D A (([[cI cyI qo 1 fo], (cXo x an tr xv), (cH cyO (x 1) (x 2) 2 fl), (cXk cyI x xv), (cH cyO (x 4) (x 5) 6 fs), (cT cyI x (X_text xv)), (cSo an nv), (cG cyI an (S_green nv)), (cV cyI an (S_score nv)), (cS cyI b0 v0), (cS cyI b1 v1), (cS cyI b2 v2), (cS cyI b3 v3), (cS cyI b4 v4), (cS cyI b5 v5)] : List va_W).flatten) → va_S A s.heap H locs → lv_has ls 9 [(0, .ref (x 0)), (2, .ref qo), (3, .int (p2 >>> ((5 : Int32) &&& 31))), (4, .int s21)] → j70 s70 = some out → W p l e (headSpec (Cond.code yL_act cL_act 9 (some .int) :: wT) ({ frames := 9, cells := 84, slots := 504, locals := 158 } : Room)).room s m ([.ref (x 0), .int p2, .ref qo] : List Value).toArray below meth c H locs 0 0 (MQ below (va_Qi (fun (r : Int32) (u : (Nat → Int32) × XV × SV × SV × SV × SV × SV × SV × SV) => (r, u) = out) (fun u t => va_P (dC, dI) vwCl (([[cI cyI qo 1 u.1], (cXo x an tr u.2.1), (cH cyO (x 1) (x 2) 2 fl), (cXk cyI x u.2.1), (cH cyO (x 4) (x 5) 6 fs), (cT cyI x (X_text u.2.1)), (cSo an u.2.2.1), (cG cyI an (S_green u.2.2.1)), (cV cyI an (S_score u.2.2.1)), (cS cyI b0 u.2.2.2.1), (cS cyI b1 u.2.2.2.2.1), (cS cyI b2 u.2.2.2.2.2.1), (cS cyI b3 u.2.2.2.2.2.2.1), (cS cyI b4 u.2.2.2.2.2.2.2.1), (cS cyI b5 u.2.2.2.2.2.2.2.2)] : List va_W).flatten) t.heap ∧ va_D A (([[cI cyI qo 1 u.1], (cXo x an tr u.2.1), (cH cyO (x 1) (x 2) 2 fl), (cXk cyI x u.2.1), (cH cyO (x 4) (x 5) 6 fs), (cT cyI x (X_text u.2.1)), (cSo an u.2.2.1), (cG cyI an (S_green u.2.2.1)), (cV cyI an (S_score u.2.2.1)), (cS cyI b0 u.2.2.2.1), (cS cyI b1 u.2.2.2.2.1), (cS cyI b2 u.2.2.2.2.2.1), (cS cyI b3 u.2.2.2.2.2.2.1), (cS cyI b4 u.2.2.2.2.2.2.2.1), (cS cyI b5 u.2.2.2.2.2.2.2.2)] : List va_W).flatten)) A) ([.ref (x 0), .int p2, .ref qo] : List Value).toArray s 84 504 A) (F0 m 70 ls [.int s70]) := by
        intro s70 H locs ls hz_70_s0 hP hD hS hl hF
        have hF := (congrFun hj70 s70).symm.trans hF
        refine lv_istore (lv' := [(6, .int s70), (0, .ref (x 0)), (2, .ref qo), (3, .int (p2 >>> ((5 : Int32) &&& 31))), (4, .int s21)]) hx hb dL_act_70 hl (by decide) rfl (fun ls hl => ?_)
        refine lv_aload_n hx hb dL_act_72 rfl (lv_at hl 1 rfl) ?_
        obtain ⟨o39, h40, hF⟩ := obd hF
        refine wcRVi (As := []) (rest := []) (b := (x 0)) ⟨hx, hb, hml, hown, hts⟩ (met_X5_isJackThere l dC dI cyI cyO x tr an fl fs N xv nv  o39 h40) (cwV 0 hts (gV w_methodLink_L_74 w_instanceMethod_X5_isJackThere w_selects_X5_isJackThere w_initialized_X5 w_code_X5_isJackThere) rfl rfl rfl (by decide +kernel) ⟨Nat.le_of_ble_eq_true rfl, Nat.le_of_ble_eq_true rfl⟩) (va_recv hK.1 hP (ci := 5) (q0 := 1) rfl rfl) hP hK [1, 2, 3, 4, 5, 6, 7, 8, 9, 10, 11, 12, 13, 14, 15, 16, 17, 18, 19, 20, 21] rfl rfl hl.1 (Nat.le_of_ble_eq_true rfl) dL_act_73 ⟨(show _ ≤ 84 from by omega), (show _ ≤ 504 from by omega)⟩ hS (fun r H locs hw hP hS => ?_)
        obtain ⟨hw, hz41⟩ := hw
        have hw := hw.symm
        subst hw
        obtain ⟨j134, hj134, hF⟩ := jn_use hF
        have hJ134 : ∀ (s134 : Unit) (H : Heap) (locs : List Loc) (ls : Array Slot), va_P (dC, dI) vwCl (([[cI cyI qo 1 fo], (cXo x an tr xv), (cH cyO (x 1) (x 2) 2 fl), (cXk cyI x xv), (cH cyO (x 4) (x 5) 6 fs), (cT cyI x (X_text xv)), (cSo an nv), (cG cyI an (S_green nv)), (cV cyI an (S_score nv)), (cS cyI b0 v0), (cS cyI b1 v1), (cS cyI b2 v2), (cS cyI b3 v3), (cS cyI b4 v4), (cS cyI b5 v5)] : List va_W).flatten) H → va_D A (([[cI cyI qo 1 fo], (cXo x an tr xv), (cH cyO (x 1) (x 2) 2 fl), (cXk cyI x xv), (cH cyO (x 4) (x 5) 6 fs), (cT cyI x (X_text xv)), (cSo an nv), (cG cyI an (S_green nv)), (cV cyI an (S_score nv)), (cS cyI b0 v0), (cS cyI b1 v1), (cS cyI b2 v2), (cS cyI b3 v3), (cS cyI b4 v4), (cS cyI b5 v5)] : List va_W).flatten) → va_S A s.heap H locs → lv_has ls 9 [(0, .ref (x 0)), (2, .ref qo), (3, .int (p2 >>> ((5 : Int32) &&& 31))), (4, .int s21), (6, .int s70)] → j134 s134 = some out → W p l e (headSpec (Cond.code yL_act cL_act 9 (some .int) :: wT) ({ frames := 9, cells := 84, slots := 504, locals := 158 } : Room)).room s m ([.ref (x 0), .int p2, .ref qo] : List Value).toArray below meth c H locs 0 0 (MQ below (va_Qi (fun (r : Int32) (u : (Nat → Int32) × XV × SV × SV × SV × SV × SV × SV × SV) => (r, u) = out) (fun u t => va_P (dC, dI) vwCl (([[cI cyI qo 1 u.1], (cXo x an tr u.2.1), (cH cyO (x 1) (x 2) 2 fl), (cXk cyI x u.2.1), (cH cyO (x 4) (x 5) 6 fs), (cT cyI x (X_text u.2.1)), (cSo an u.2.2.1), (cG cyI an (S_green u.2.2.1)), (cV cyI an (S_score u.2.2.1)), (cS cyI b0 u.2.2.2.1), (cS cyI b1 u.2.2.2.2.1), (cS cyI b2 u.2.2.2.2.2.1), (cS cyI b3 u.2.2.2.2.2.2.1), (cS cyI b4 u.2.2.2.2.2.2.2.1), (cS cyI b5 u.2.2.2.2.2.2.2.2)] : List va_W).flatten) t.heap ∧ va_D A (([[cI cyI qo 1 u.1], (cXo x an tr u.2.1), (cH cyO (x 1) (x 2) 2 fl), (cXk cyI x u.2.1), (cH cyO (x 4) (x 5) 6 fs), (cT cyI x (X_text u.2.1)), (cSo an u.2.2.1), (cG cyI an (S_green u.2.2.1)), (cV cyI an (S_score u.2.2.1)), (cS cyI b0 u.2.2.2.1), (cS cyI b1 u.2.2.2.2.1), (cS cyI b2 u.2.2.2.2.2.1), (cS cyI b3 u.2.2.2.2.2.2.1), (cS cyI b4 u.2.2.2.2.2.2.2.1), (cS cyI b5 u.2.2.2.2.2.2.2.2)] : List va_W).flatten)) A) ([.ref (x 0), .int p2, .ref qo] : List Value).toArray s 84 504 A) (F0 m 134 ls []) := by
          intro s134 H locs ls hP hD hS hl hF
          have hF := (congrFun hj134 s134).symm.trans hF
          refine lv_aload_n hx hb dL_act_134 rfl (lv_at hl 0 rfl) ?_
          refine lv_iconst (v := 5) hx hb dL_act_135 (by decide) ?_
          refine lv_iconst (v := 0) hx hb dL_act_136 (by decide) ?_
          obtain ⟨o42, h43, hF⟩ := obd hF
          refine wcLi (As := [.ref (x 0), .int (5 : Int32), .int (0 : Int32)]) (rest := []) (wr := ([[cI cyI qo 1 fo], (cS cyI b0 v0), (cS cyI b1 v1), (cS cyI b2 v2), (cS cyI b3 v3), (cS cyI b4 v4), (cS cyI b5 v5)] : List va_W).flatten) ⟨hx, hb, hml, hown, hts⟩ (met_L_looks l z0 hst dC dI cyI cyO x tr an fl fs _ N xv nv (5 : Int32) (0 : Int32) o42 h43) (vx_cwSW 3 hts (gS w_methodLink_L_93 w_static_L_looks w_initialized_L w_codeW_L_looks) rfl rfl rfl (by decide +kernel) ⟨Nat.le_of_ble_eq_true rfl, Nat.le_of_ble_eq_true rfl⟩) hP hD hK hZ hAz hz0 (seg_perm (n := 15) (R := [[cI cyI qo 1 fo], (cS cyI b0 v0), (cS cyI b1 v1), (cS cyI b2 v2), (cS cyI b3 v3), (cS cyI b4 v4), (cS cyI b5 v5)]) (C := [(cXo x an tr xv), (cH cyO (x 1) (x 2) 2 fl), (cXk cyI x xv), (cH cyO (x 4) (x 5) 6 fs), (cT cyI x (X_text xv)), (cSo an nv), (cG cyI an (S_green nv)), (cV cyI an (S_score nv))]) [0, 9, 10, 11, 12, 13, 14] [1, 2, 3, 4, 5, 6, 7, 8] rfl rfl rfl (by decide) rfl) rfl hl.1 (Nat.le_of_ble_eq_true rfl) dL_act_137 ⟨(show _ ≤ 84 from by omega), (show _ ≤ 504 from by omega)⟩ hS hA (fun r u H locs hw hP hD hS => ?_)
          obtain rfl : r = o42.1 := congrArg Prod.fst hw
          obtain rfl : u = o42.2 := congrArg Prod.snd hw
          clear hw
          have hq := seg_permS (segs := [[cI cyI qo 1 fo], (cXo x an tr o42.2.1), (cH cyO (x 1) (x 2) 2 fl), (cXk cyI x o42.2.1), (cH cyO (x 4) (x 5) 6 fs), (cT cyI x (X_text o42.2.1)), (cSo an o42.2.2), (cG cyI an (S_green o42.2.2)), (cV cyI an (S_score o42.2.2)), (cS cyI b0 v0), (cS cyI b1 v1), (cS cyI b2 v2), (cS cyI b3 v3), (cS cyI b4 v4), (cS cyI b5 v5)]) (R := [[cI cyI qo 1 fo], (cS cyI b0 v0), (cS cyI b1 v1), (cS cyI b2 v2), (cS cyI b3 v3), (cS cyI b4 v4), (cS cyI b5 v5)]) (C := [(cXo x an tr o42.2.1), (cH cyO (x 1) (x 2) 2 fl), (cXk cyI x o42.2.1), (cH cyO (x 4) (x 5) 6 fs), (cT cyI x (X_text o42.2.1)), (cSo an o42.2.2), (cG cyI an (S_green o42.2.2)), (cV cyI an (S_score o42.2.2))]) (n := 15) [0, 9, 10, 11, 12, 13, 14] [1, 2, 3, 4, 5, 6, 7, 8] rfl rfl rfl (by decide)
          have hP : va_P (dC, dI) vwCl (([[cI cyI qo 1 fo], (cXo x an tr o42.2.1), (cH cyO (x 1) (x 2) 2 fl), (cXk cyI x o42.2.1), (cH cyO (x 4) (x 5) 6 fs), (cT cyI x (X_text o42.2.1)), (cSo an o42.2.2), (cG cyI an (S_green o42.2.2)), (cV cyI an (S_score o42.2.2)), (cS cyI b0 v0), (cS cyI b1 v1), (cS cyI b2 v2), (cS cyI b3 v3), (cS cyI b4 v4), (cS cyI b5 v5)] : List va_W).flatten) H := hP.perm hq
          have hD : va_D A (([[cI cyI qo 1 fo], (cXo x an tr o42.2.1), (cH cyO (x 1) (x 2) 2 fl), (cXk cyI x o42.2.1), (cH cyO (x 4) (x 5) 6 fs), (cT cyI x (X_text o42.2.1)), (cSo an o42.2.2), (cG cyI an (S_green o42.2.2)), (cV cyI an (S_score o42.2.2)), (cS cyI b0 v0), (cS cyI b1 v1), (cS cyI b2 v2), (cS cyI b3 v3), (cS cyI b4 v4), (cS cyI b5 v5)] : List va_W).flatten) := hD.perm hq
          clear hq
          refine lv_bipush (v := -9) hx hb dL_act_140 (by decide) ?_
          obtain ⟨j156, hj156, hF⟩ := jn_use hF
          have hJ156 : ∀ (s156 : Int32 × (Nat → Int32) × XV × SV × SV × SV × SV × SV × SV × SV) (H : Heap) (locs : List Loc) (ls : Array Slot), va_P (dC, dI) vwCl (([[cI cyI qo 1 s156.2.1], (cXo x an tr s156.2.2.1), (cH cyO (x 1) (x 2) 2 fl), (cXk cyI x s156.2.2.1), (cH cyO (x 4) (x 5) 6 fs), (cT cyI x (X_text s156.2.2.1)), (cSo an s156.2.2.2.1), (cG cyI an (S_green s156.2.2.2.1)), (cV cyI an (S_score s156.2.2.2.1)), (cS cyI b0 s156.2.2.2.2.1), (cS cyI b1 s156.2.2.2.2.2.1), (cS cyI b2 s156.2.2.2.2.2.2.1), (cS cyI b3 s156.2.2.2.2.2.2.2.1), (cS cyI b4 s156.2.2.2.2.2.2.2.2.1), (cS cyI b5 s156.2.2.2.2.2.2.2.2.2)] : List va_W).flatten) H → va_D A (([[cI cyI qo 1 s156.2.1], (cXo x an tr s156.2.2.1), (cH cyO (x 1) (x 2) 2 fl), (cXk cyI x s156.2.2.1), (cH cyO (x 4) (x 5) 6 fs), (cT cyI x (X_text s156.2.2.1)), (cSo an s156.2.2.2.1), (cG cyI an (S_green s156.2.2.2.1)), (cV cyI an (S_score s156.2.2.2.1)), (cS cyI b0 s156.2.2.2.2.1), (cS cyI b1 s156.2.2.2.2.2.1), (cS cyI b2 s156.2.2.2.2.2.2.1), (cS cyI b3 s156.2.2.2.2.2.2.2.1), (cS cyI b4 s156.2.2.2.2.2.2.2.2.1), (cS cyI b5 s156.2.2.2.2.2.2.2.2.2)] : List va_W).flatten) → va_S A s.heap H locs → lv_has ls 9 [(0, .ref (x 0)), (2, .ref qo), (3, .int (p2 >>> ((5 : Int32) &&& 31))), (4, .int s21), (6, .int s70)] → j156 s156 = some out → W p l e (headSpec (Cond.code yL_act cL_act 9 (some .int) :: wT) ({ frames := 9, cells := 84, slots := 504, locals := 158 } : Room)).room s m ([.ref (x 0), .int p2, .ref qo] : List Value).toArray below meth c H locs 18 108 (MQ below (va_Qi (fun (r : Int32) (u : (Nat → Int32) × XV × SV × SV × SV × SV × SV × SV × SV) => (r, u) = out) (fun u t => va_P (dC, dI) vwCl (([[cI cyI qo 1 u.1], (cXo x an tr u.2.1), (cH cyO (x 1) (x 2) 2 fl), (cXk cyI x u.2.1), (cH cyO (x 4) (x 5) 6 fs), (cT cyI x (X_text u.2.1)), (cSo an u.2.2.1), (cG cyI an (S_green u.2.2.1)), (cV cyI an (S_score u.2.2.1)), (cS cyI b0 u.2.2.2.1), (cS cyI b1 u.2.2.2.2.1), (cS cyI b2 u.2.2.2.2.2.1), (cS cyI b3 u.2.2.2.2.2.2.1), (cS cyI b4 u.2.2.2.2.2.2.2.1), (cS cyI b5 u.2.2.2.2.2.2.2.2)] : List va_W).flatten) t.heap ∧ va_D A (([[cI cyI qo 1 u.1], (cXo x an tr u.2.1), (cH cyO (x 1) (x 2) 2 fl), (cXk cyI x u.2.1), (cH cyO (x 4) (x 5) 6 fs), (cT cyI x (X_text u.2.1)), (cSo an u.2.2.1), (cG cyI an (S_green u.2.2.1)), (cV cyI an (S_score u.2.2.1)), (cS cyI b0 u.2.2.2.1), (cS cyI b1 u.2.2.2.2.1), (cS cyI b2 u.2.2.2.2.2.1), (cS cyI b3 u.2.2.2.2.2.2.1), (cS cyI b4 u.2.2.2.2.2.2.2.1), (cS cyI b5 u.2.2.2.2.2.2.2.2)] : List va_W).flatten)) A) ([.ref (x 0), .int p2, .ref qo] : List Value).toArray s 84 504 A) (F0 m 156 ls [.int s156.1]) := by
            intro s156 H locs ls hP hD hS hl hF
            have hF := (congrFun hj156 s156).symm.trans hF
            refine lv_istore (lv' := [(7, .int s156.1), (0, .ref (x 0)), (2, .ref qo), (3, .int (p2 >>> ((5 : Int32) &&& 31))), (4, .int s21), (6, .int s70)]) hx hb dL_act_156 hl (by decide) rfl (fun ls hl => ?_)
            refine lv_iload_n hx hb dL_act_158 rfl (lv_at hl 3 rfl) ?_
            refine lv_bipush (v := 11) hx hb dL_act_159 (by decide) ?_
            refine lv_ishr hx hb dL_act_161 ?_
            refine lv_iconst (v := 3) hx hb dL_act_162 (by decide) ?_
            refine lv_iand hx hb dL_act_163 ?_
            refine lv_iconst (v := 2) hx hb dL_act_164 (by decide) ?_
            obtain ⟨j205, hj205, hF⟩ := jn_use hF
            have hJ205 : ∀ (s205 : Int32) (H : Heap) (locs : List Loc) (ls : Array Slot), va_P (dC, dI) vwCl (([[cI cyI qo 1 s156.2.1], (cXo x an tr s156.2.2.1), (cH cyO (x 1) (x 2) 2 fl), (cXk cyI x s156.2.2.1), (cH cyO (x 4) (x 5) 6 fs), (cT cyI x (X_text s156.2.2.1)), (cSo an s156.2.2.2.1), (cG cyI an (S_green s156.2.2.2.1)), (cV cyI an (S_score s156.2.2.2.1)), (cS cyI b0 s156.2.2.2.2.1), (cS cyI b1 s156.2.2.2.2.2.1), (cS cyI b2 s156.2.2.2.2.2.2.1), (cS cyI b3 s156.2.2.2.2.2.2.2.1), (cS cyI b4 s156.2.2.2.2.2.2.2.2.1), (cS cyI b5 s156.2.2.2.2.2.2.2.2.2)] : List va_W).flatten) H → va_D A (([[cI cyI qo 1 s156.2.1], (cXo x an tr s156.2.2.1), (cH cyO (x 1) (x 2) 2 fl), (cXk cyI x s156.2.2.1), (cH cyO (x 4) (x 5) 6 fs), (cT cyI x (X_text s156.2.2.1)), (cSo an s156.2.2.2.1), (cG cyI an (S_green s156.2.2.2.1)), (cV cyI an (S_score s156.2.2.2.1)), (cS cyI b0 s156.2.2.2.2.1), (cS cyI b1 s156.2.2.2.2.2.1), (cS cyI b2 s156.2.2.2.2.2.2.1), (cS cyI b3 s156.2.2.2.2.2.2.2.1), (cS cyI b4 s156.2.2.2.2.2.2.2.2.1), (cS cyI b5 s156.2.2.2.2.2.2.2.2.2)] : List va_W).flatten) → va_S A s.heap H locs → lv_has ls 9 [(0, .ref (x 0)), (2, .ref qo), (3, .int (p2 >>> ((5 : Int32) &&& 31))), (4, .int s21), (6, .int s70)] → j205 s205 = some out → W p l e (headSpec (Cond.code yL_act cL_act 9 (some .int) :: wT) ({ frames := 9, cells := 84, slots := 504, locals := 158 } : Room)).room s m ([.ref (x 0), .int p2, .ref qo] : List Value).toArray below meth c H locs 18 108 (MQ below (va_Qi (fun (r : Int32) (u : (Nat → Int32) × XV × SV × SV × SV × SV × SV × SV × SV) => (r, u) = out) (fun u t => va_P (dC, dI) vwCl (([[cI cyI qo 1 u.1], (cXo x an tr u.2.1), (cH cyO (x 1) (x 2) 2 fl), (cXk cyI x u.2.1), (cH cyO (x 4) (x 5) 6 fs), (cT cyI x (X_text u.2.1)), (cSo an u.2.2.1), (cG cyI an (S_green u.2.2.1)), (cV cyI an (S_score u.2.2.1)), (cS cyI b0 u.2.2.2.1), (cS cyI b1 u.2.2.2.2.1), (cS cyI b2 u.2.2.2.2.2.1), (cS cyI b3 u.2.2.2.2.2.2.1), (cS cyI b4 u.2.2.2.2.2.2.2.1), (cS cyI b5 u.2.2.2.2.2.2.2.2)] : List va_W).flatten) t.heap ∧ va_D A (([[cI cyI qo 1 u.1], (cXo x an tr u.2.1), (cH cyO (x 1) (x 2) 2 fl), (cXk cyI x u.2.1), (cH cyO (x 4) (x 5) 6 fs), (cT cyI x (X_text u.2.1)), (cSo an u.2.2.1), (cG cyI an (S_green u.2.2.1)), (cV cyI an (S_score u.2.2.1)), (cS cyI b0 u.2.2.2.1), (cS cyI b1 u.2.2.2.2.1), (cS cyI b2 u.2.2.2.2.2.1), (cS cyI b3 u.2.2.2.2.2.2.1), (cS cyI b4 u.2.2.2.2.2.2.2.1), (cS cyI b5 u.2.2.2.2.2.2.2.2)] : List va_W).flatten)) A) ([.ref (x 0), .int p2, .ref qo] : List Value).toArray s 84 504 A) (F0 m 205 ls [.int s205]) := by
              intro s205 H locs ls hP hD hS hl hF
              have hF := (congrFun hj205 s205).symm.trans hF
              refine lv_istore (lv' := [(8, .int s205), (0, .ref (x 0)), (2, .ref qo), (3, .int (p2 >>> ((5 : Int32) &&& 31))), (4, .int s21), (6, .int s70)]) hx hb dL_act_205 hl (by decide) rfl (fun ls hl => ?_)
              refine lv_iload hx hb dL_act_207 (lv_at hl 4 rfl) ?_
              obtain ⟨j243, hj243, hF⟩ := jn_use hF
              have hJ243 : ∀ (s243 : Int32) (H : Heap) (locs : List Loc) (ls : Array Slot), va_P (dC, dI) vwCl (([[cI cyI qo 1 s156.2.1], (cXo x an tr s156.2.2.1), (cH cyO (x 1) (x 2) 2 fl), (cXk cyI x s156.2.2.1), (cH cyO (x 4) (x 5) 6 fs), (cT cyI x (X_text s156.2.2.1)), (cSo an s156.2.2.2.1), (cG cyI an (S_green s156.2.2.2.1)), (cV cyI an (S_score s156.2.2.2.1)), (cS cyI b0 s156.2.2.2.2.1), (cS cyI b1 s156.2.2.2.2.2.1), (cS cyI b2 s156.2.2.2.2.2.2.1), (cS cyI b3 s156.2.2.2.2.2.2.2.1), (cS cyI b4 s156.2.2.2.2.2.2.2.2.1), (cS cyI b5 s156.2.2.2.2.2.2.2.2.2)] : List va_W).flatten) H → va_D A (([[cI cyI qo 1 s156.2.1], (cXo x an tr s156.2.2.1), (cH cyO (x 1) (x 2) 2 fl), (cXk cyI x s156.2.2.1), (cH cyO (x 4) (x 5) 6 fs), (cT cyI x (X_text s156.2.2.1)), (cSo an s156.2.2.2.1), (cG cyI an (S_green s156.2.2.2.1)), (cV cyI an (S_score s156.2.2.2.1)), (cS cyI b0 s156.2.2.2.2.1), (cS cyI b1 s156.2.2.2.2.2.1), (cS cyI b2 s156.2.2.2.2.2.2.1), (cS cyI b3 s156.2.2.2.2.2.2.2.1), (cS cyI b4 s156.2.2.2.2.2.2.2.2.1), (cS cyI b5 s156.2.2.2.2.2.2.2.2.2)] : List va_W).flatten) → va_S A s.heap H locs → lv_has ls 9 [(0, .ref (x 0)), (2, .ref qo), (3, .int (p2 >>> ((5 : Int32) &&& 31))), (4, .int s21), (6, .int s70)] → j243 s243 = some out → W p l e (headSpec (Cond.code yL_act cL_act 9 (some .int) :: wT) ({ frames := 9, cells := 84, slots := 504, locals := 158 } : Room)).room s m ([.ref (x 0), .int p2, .ref qo] : List Value).toArray below meth c H locs 18 108 (MQ below (va_Qi (fun (r : Int32) (u : (Nat → Int32) × XV × SV × SV × SV × SV × SV × SV × SV) => (r, u) = out) (fun u t => va_P (dC, dI) vwCl (([[cI cyI qo 1 u.1], (cXo x an tr u.2.1), (cH cyO (x 1) (x 2) 2 fl), (cXk cyI x u.2.1), (cH cyO (x 4) (x 5) 6 fs), (cT cyI x (X_text u.2.1)), (cSo an u.2.2.1), (cG cyI an (S_green u.2.2.1)), (cV cyI an (S_score u.2.2.1)), (cS cyI b0 u.2.2.2.1), (cS cyI b1 u.2.2.2.2.1), (cS cyI b2 u.2.2.2.2.2.1), (cS cyI b3 u.2.2.2.2.2.2.1), (cS cyI b4 u.2.2.2.2.2.2.2.1), (cS cyI b5 u.2.2.2.2.2.2.2.2)] : List va_W).flatten) t.heap ∧ va_D A (([[cI cyI qo 1 u.1], (cXo x an tr u.2.1), (cH cyO (x 1) (x 2) 2 fl), (cXk cyI x u.2.1), (cH cyO (x 4) (x 5) 6 fs), (cT cyI x (X_text u.2.1)), (cSo an u.2.2.1), (cG cyI an (S_green u.2.2.1)), (cV cyI an (S_score u.2.2.1)), (cS cyI b0 u.2.2.2.1), (cS cyI b1 u.2.2.2.2.1), (cS cyI b2 u.2.2.2.2.2.1), (cS cyI b3 u.2.2.2.2.2.2.1), (cS cyI b4 u.2.2.2.2.2.2.2.1), (cS cyI b5 u.2.2.2.2.2.2.2.2)] : List va_W).flatten)) A) ([.ref (x 0), .int p2, .ref qo] : List Value).toArray s 84 504 A) (F0 m 243 ls [.int s243]) := by
                intro s243 H locs ls hP hD hS hl hF
                have hF := (congrFun hj243 s243).symm.trans hF
                refine lv_istore (lv' := [(8, .int s243), (0, .ref (x 0)), (2, .ref qo), (3, .int (p2 >>> ((5 : Int32) &&& 31))), (4, .int s21), (6, .int s70)]) hx hb dL_act_243 hl (by decide) rfl (fun ls hl => ?_)
                refine lv_iload hx hb dL_act_245 (lv_at hl 5 rfl) ?_
                obtain ⟨j347, hj347, hF⟩ := jn_use hF
                have hJ347 : ∀ (s347 : Int32 × (Nat → Int32) × XV × SV × SV × SV × SV × SV × SV × SV) (H : Heap) (locs : List Loc) (ls : Array Slot), va_P (dC, dI) vwCl (([[cI cyI qo 1 s347.2.1], (cXo x an tr s347.2.2.1), (cH cyO (x 1) (x 2) 2 fl), (cXk cyI x s347.2.2.1), (cH cyO (x 4) (x 5) 6 fs), (cT cyI x (X_text s347.2.2.1)), (cSo an s347.2.2.2.1), (cG cyI an (S_green s347.2.2.2.1)), (cV cyI an (S_score s347.2.2.2.1)), (cS cyI b0 s347.2.2.2.2.1), (cS cyI b1 s347.2.2.2.2.2.1), (cS cyI b2 s347.2.2.2.2.2.2.1), (cS cyI b3 s347.2.2.2.2.2.2.2.1), (cS cyI b4 s347.2.2.2.2.2.2.2.2.1), (cS cyI b5 s347.2.2.2.2.2.2.2.2.2)] : List va_W).flatten) H → va_D A (([[cI cyI qo 1 s347.2.1], (cXo x an tr s347.2.2.1), (cH cyO (x 1) (x 2) 2 fl), (cXk cyI x s347.2.2.1), (cH cyO (x 4) (x 5) 6 fs), (cT cyI x (X_text s347.2.2.1)), (cSo an s347.2.2.2.1), (cG cyI an (S_green s347.2.2.2.1)), (cV cyI an (S_score s347.2.2.2.1)), (cS cyI b0 s347.2.2.2.2.1), (cS cyI b1 s347.2.2.2.2.2.1), (cS cyI b2 s347.2.2.2.2.2.2.1), (cS cyI b3 s347.2.2.2.2.2.2.2.1), (cS cyI b4 s347.2.2.2.2.2.2.2.2.1), (cS cyI b5 s347.2.2.2.2.2.2.2.2.2)] : List va_W).flatten) → va_S A s.heap H locs → lv_has ls 9 [] → j347 s347 = some out → W p l e (headSpec (Cond.code yL_act cL_act 9 (some .int) :: wT) ({ frames := 9, cells := 84, slots := 504, locals := 158 } : Room)).room s m ([.ref (x 0), .int p2, .ref qo] : List Value).toArray below meth c H locs 30 180 (MQ below (va_Qi (fun (r : Int32) (u : (Nat → Int32) × XV × SV × SV × SV × SV × SV × SV × SV) => (r, u) = out) (fun u t => va_P (dC, dI) vwCl (([[cI cyI qo 1 u.1], (cXo x an tr u.2.1), (cH cyO (x 1) (x 2) 2 fl), (cXk cyI x u.2.1), (cH cyO (x 4) (x 5) 6 fs), (cT cyI x (X_text u.2.1)), (cSo an u.2.2.1), (cG cyI an (S_green u.2.2.1)), (cV cyI an (S_score u.2.2.1)), (cS cyI b0 u.2.2.2.1), (cS cyI b1 u.2.2.2.2.1), (cS cyI b2 u.2.2.2.2.2.1), (cS cyI b3 u.2.2.2.2.2.2.1), (cS cyI b4 u.2.2.2.2.2.2.2.1), (cS cyI b5 u.2.2.2.2.2.2.2.2)] : List va_W).flatten) t.heap ∧ va_D A (([[cI cyI qo 1 u.1], (cXo x an tr u.2.1), (cH cyO (x 1) (x 2) 2 fl), (cXk cyI x u.2.1), (cH cyO (x 4) (x 5) 6 fs), (cT cyI x (X_text u.2.1)), (cSo an u.2.2.1), (cG cyI an (S_green u.2.2.1)), (cV cyI an (S_score u.2.2.1)), (cS cyI b0 u.2.2.2.1), (cS cyI b1 u.2.2.2.2.1), (cS cyI b2 u.2.2.2.2.2.1), (cS cyI b3 u.2.2.2.2.2.2.1), (cS cyI b4 u.2.2.2.2.2.2.2.1), (cS cyI b5 u.2.2.2.2.2.2.2.2)] : List va_W).flatten)) A) ([.ref (x 0), .int p2, .ref qo] : List Value).toArray s 84 504 A) (F0 m 347 ls [.int s347.1]) := by
                  intro s347 H locs ls hP hD hS hl hF
                  have hF := (congrFun hj347 s347).symm.trans hF
                  refine W.widen (k := 84) (n := 504) (by omega) (by omega) ?_
                  exact W.iret (v := s347.1) hx hb hr (fun t ht hW => ⟨⟨_, (s347.2.1, s347.2.2.1, s347.2.2.2.1, s347.2.2.2.2.1, s347.2.2.2.2.2.1, s347.2.2.2.2.2.2.1, s347.2.2.2.2.2.2.2.1, s347.2.2.2.2.2.2.2.2.1, s347.2.2.2.2.2.2.2.2.2), rfl, Option.some.inj hF, by rw [ht]; exact hP, hD⟩, hS.F ht⟩) hS.2.2 dL_act_347
                obtain ⟨j267, hj267, hF⟩ := jn_use hF
                have hJ267 : ∀ (s267 : Unit) (H : Heap) (locs : List Loc) (ls : Array Slot), va_P (dC, dI) vwCl (([[cI cyI qo 1 s156.2.1], (cXo x an tr s156.2.2.1), (cH cyO (x 1) (x 2) 2 fl), (cXk cyI x s156.2.2.1), (cH cyO (x 4) (x 5) 6 fs), (cT cyI x (X_text s156.2.2.1)), (cSo an s156.2.2.2.1), (cG cyI an (S_green s156.2.2.2.1)), (cV cyI an (S_score s156.2.2.2.1)), (cS cyI b0 s156.2.2.2.2.1), (cS cyI b1 s156.2.2.2.2.2.1), (cS cyI b2 s156.2.2.2.2.2.2.1), (cS cyI b3 s156.2.2.2.2.2.2.2.1), (cS cyI b4 s156.2.2.2.2.2.2.2.2.1), (cS cyI b5 s156.2.2.2.2.2.2.2.2.2)] : List va_W).flatten) H → va_D A (([[cI cyI qo 1 s156.2.1], (cXo x an tr s156.2.2.1), (cH cyO (x 1) (x 2) 2 fl), (cXk cyI x s156.2.2.1), (cH cyO (x 4) (x 5) 6 fs), (cT cyI x (X_text s156.2.2.1)), (cSo an s156.2.2.2.1), (cG cyI an (S_green s156.2.2.2.1)), (cV cyI an (S_score s156.2.2.2.1)), (cS cyI b0 s156.2.2.2.2.1), (cS cyI b1 s156.2.2.2.2.2.1), (cS cyI b2 s156.2.2.2.2.2.2.1), (cS cyI b3 s156.2.2.2.2.2.2.2.1), (cS cyI b4 s156.2.2.2.2.2.2.2.2.1), (cS cyI b5 s156.2.2.2.2.2.2.2.2.2)] : List va_W).flatten) → va_S A s.heap H locs → lv_has ls 9 [(0, .ref (x 0)), (2, .ref qo), (3, .int (p2 >>> ((5 : Int32) &&& 31))), (4, .int s21), (8, .int s243)] → j267 s267 = some out → W p l e (headSpec (Cond.code yL_act cL_act 9 (some .int) :: wT) ({ frames := 9, cells := 84, slots := 504, locals := 158 } : Room)).room s m ([.ref (x 0), .int p2, .ref qo] : List Value).toArray below meth c H locs 18 108 (MQ below (va_Qi (fun (r : Int32) (u : (Nat → Int32) × XV × SV × SV × SV × SV × SV × SV × SV) => (r, u) = out) (fun u t => va_P (dC, dI) vwCl (([[cI cyI qo 1 u.1], (cXo x an tr u.2.1), (cH cyO (x 1) (x 2) 2 fl), (cXk cyI x u.2.1), (cH cyO (x 4) (x 5) 6 fs), (cT cyI x (X_text u.2.1)), (cSo an u.2.2.1), (cG cyI an (S_green u.2.2.1)), (cV cyI an (S_score u.2.2.1)), (cS cyI b0 u.2.2.2.1), (cS cyI b1 u.2.2.2.2.1), (cS cyI b2 u.2.2.2.2.2.1), (cS cyI b3 u.2.2.2.2.2.2.1), (cS cyI b4 u.2.2.2.2.2.2.2.1), (cS cyI b5 u.2.2.2.2.2.2.2.2)] : List va_W).flatten) t.heap ∧ va_D A (([[cI cyI qo 1 u.1], (cXo x an tr u.2.1), (cH cyO (x 1) (x 2) 2 fl), (cXk cyI x u.2.1), (cH cyO (x 4) (x 5) 6 fs), (cT cyI x (X_text u.2.1)), (cSo an u.2.2.1), (cG cyI an (S_green u.2.2.1)), (cV cyI an (S_score u.2.2.1)), (cS cyI b0 u.2.2.2.1), (cS cyI b1 u.2.2.2.2.1), (cS cyI b2 u.2.2.2.2.2.1), (cS cyI b3 u.2.2.2.2.2.2.1), (cS cyI b4 u.2.2.2.2.2.2.2.1), (cS cyI b5 u.2.2.2.2.2.2.2.2)] : List va_W).flatten)) A) ([.ref (x 0), .int p2, .ref qo] : List Value).toArray s 84 504 A) (F0 m 267 ls []) := by
                  intro s267 H locs ls hP hD hS hl hF
                  have hF := (congrFun hj267 s267).symm.trans hF
                  refine lv_aload_n hx hb dL_act_267 rfl (lv_at hl 0 rfl) ?_
                  refine lv_iconst (v := 1) hx hb dL_act_268 (by decide) ?_
                  refine lv_iload_n hx hb dL_act_269 rfl (lv_at hl 2 rfl) ?_
                  refine lv_bipush (v := 13) hx hb dL_act_270 (by decide) ?_
                  refine lv_ishr hx hb dL_act_272 ?_
                  refine lv_iconst (v := 1) hx hb dL_act_273 (by decide) ?_
                  refine lv_iand hx hb dL_act_274 ?_
                  obtain ⟨j307, hj307, hF⟩ := jn_use hF
                  have hJ307 : ∀ (s307 : Int32) (H : Heap) (locs : List Loc) (ls : Array Slot), va_P (dC, dI) vwCl (([[cI cyI qo 1 s156.2.1], (cXo x an tr s156.2.2.1), (cH cyO (x 1) (x 2) 2 fl), (cXk cyI x s156.2.2.1), (cH cyO (x 4) (x 5) 6 fs), (cT cyI x (X_text s156.2.2.1)), (cSo an s156.2.2.2.1), (cG cyI an (S_green s156.2.2.2.1)), (cV cyI an (S_score s156.2.2.2.1)), (cS cyI b0 s156.2.2.2.2.1), (cS cyI b1 s156.2.2.2.2.2.1), (cS cyI b2 s156.2.2.2.2.2.2.1), (cS cyI b3 s156.2.2.2.2.2.2.2.1), (cS cyI b4 s156.2.2.2.2.2.2.2.2.1), (cS cyI b5 s156.2.2.2.2.2.2.2.2.2)] : List va_W).flatten) H → va_D A (([[cI cyI qo 1 s156.2.1], (cXo x an tr s156.2.2.1), (cH cyO (x 1) (x 2) 2 fl), (cXk cyI x s156.2.2.1), (cH cyO (x 4) (x 5) 6 fs), (cT cyI x (X_text s156.2.2.1)), (cSo an s156.2.2.2.1), (cG cyI an (S_green s156.2.2.2.1)), (cV cyI an (S_score s156.2.2.2.1)), (cS cyI b0 s156.2.2.2.2.1), (cS cyI b1 s156.2.2.2.2.2.1), (cS cyI b2 s156.2.2.2.2.2.2.1), (cS cyI b3 s156.2.2.2.2.2.2.2.1), (cS cyI b4 s156.2.2.2.2.2.2.2.2.1), (cS cyI b5 s156.2.2.2.2.2.2.2.2.2)] : List va_W).flatten) → va_S A s.heap H locs → lv_has ls 9 [(2, .ref qo), (3, .int (p2 >>> ((5 : Int32) &&& 31))), (4, .int s21), (8, .int s243)] → j307 s307 = some out → W p l e (headSpec (Cond.code yL_act cL_act 9 (some .int) :: wT) ({ frames := 9, cells := 84, slots := 504, locals := 158 } : Room)).room s m ([.ref (x 0), .int p2, .ref qo] : List Value).toArray below meth c H locs 18 108 (MQ below (va_Qi (fun (r : Int32) (u : (Nat → Int32) × XV × SV × SV × SV × SV × SV × SV × SV) => (r, u) = out) (fun u t => va_P (dC, dI) vwCl (([[cI cyI qo 1 u.1], (cXo x an tr u.2.1), (cH cyO (x 1) (x 2) 2 fl), (cXk cyI x u.2.1), (cH cyO (x 4) (x 5) 6 fs), (cT cyI x (X_text u.2.1)), (cSo an u.2.2.1), (cG cyI an (S_green u.2.2.1)), (cV cyI an (S_score u.2.2.1)), (cS cyI b0 u.2.2.2.1), (cS cyI b1 u.2.2.2.2.1), (cS cyI b2 u.2.2.2.2.2.1), (cS cyI b3 u.2.2.2.2.2.2.1), (cS cyI b4 u.2.2.2.2.2.2.2.1), (cS cyI b5 u.2.2.2.2.2.2.2.2)] : List va_W).flatten) t.heap ∧ va_D A (([[cI cyI qo 1 u.1], (cXo x an tr u.2.1), (cH cyO (x 1) (x 2) 2 fl), (cXk cyI x u.2.1), (cH cyO (x 4) (x 5) 6 fs), (cT cyI x (X_text u.2.1)), (cSo an u.2.2.1), (cG cyI an (S_green u.2.2.1)), (cV cyI an (S_score u.2.2.1)), (cS cyI b0 u.2.2.2.1), (cS cyI b1 u.2.2.2.2.1), (cS cyI b2 u.2.2.2.2.2.1), (cS cyI b3 u.2.2.2.2.2.2.1), (cS cyI b4 u.2.2.2.2.2.2.2.1), (cS cyI b5 u.2.2.2.2.2.2.2.2)] : List va_W).flatten)) A) ([.ref (x 0), .int p2, .ref qo] : List Value).toArray s 84 504 A) (F0 m 307 ls [.int s307, .int (1 : Int32), .ref (x 0)]) := by
                    intro s307 H locs ls hP hD hS hl hF
                    have hF := (congrFun hj307 s307).symm.trans hF
                    refine lv_iload hx hb dL_act_307 (lv_at hl 3 rfl) ?_
                    refine lv_iload_n hx hb dL_act_309 rfl (lv_at hl 1 rfl) ?_
                    refine lv_bipush (v := 14) hx hb dL_act_310 (by decide) ?_
                    refine lv_ishr hx hb dL_act_312 ?_
                    refine lv_iconst (v := 1) hx hb dL_act_313 (by decide) ?_
                    refine lv_iand hx hb dL_act_314 ?_
                    obtain ⟨j343, hj343, hF⟩ := jn_use hF
                    have hJ343 : ∀ (s343 : Int32) (H : Heap) (locs : List Loc) (ls : Array Slot), va_P (dC, dI) vwCl (([[cI cyI qo 1 s156.2.1], (cXo x an tr s156.2.2.1), (cH cyO (x 1) (x 2) 2 fl), (cXk cyI x s156.2.2.1), (cH cyO (x 4) (x 5) 6 fs), (cT cyI x (X_text s156.2.2.1)), (cSo an s156.2.2.2.1), (cG cyI an (S_green s156.2.2.2.1)), (cV cyI an (S_score s156.2.2.2.1)), (cS cyI b0 s156.2.2.2.2.1), (cS cyI b1 s156.2.2.2.2.2.1), (cS cyI b2 s156.2.2.2.2.2.2.1), (cS cyI b3 s156.2.2.2.2.2.2.2.1), (cS cyI b4 s156.2.2.2.2.2.2.2.2.1), (cS cyI b5 s156.2.2.2.2.2.2.2.2.2)] : List va_W).flatten) H → va_D A (([[cI cyI qo 1 s156.2.1], (cXo x an tr s156.2.2.1), (cH cyO (x 1) (x 2) 2 fl), (cXk cyI x s156.2.2.1), (cH cyO (x 4) (x 5) 6 fs), (cT cyI x (X_text s156.2.2.1)), (cSo an s156.2.2.2.1), (cG cyI an (S_green s156.2.2.2.1)), (cV cyI an (S_score s156.2.2.2.1)), (cS cyI b0 s156.2.2.2.2.1), (cS cyI b1 s156.2.2.2.2.2.1), (cS cyI b2 s156.2.2.2.2.2.2.1), (cS cyI b3 s156.2.2.2.2.2.2.2.1), (cS cyI b4 s156.2.2.2.2.2.2.2.2.1), (cS cyI b5 s156.2.2.2.2.2.2.2.2.2)] : List va_W).flatten) → va_S A s.heap H locs → lv_has ls 9 [(2, .ref qo)] → j343 s343 = some out → W p l e (headSpec (Cond.code yL_act cL_act 9 (some .int) :: wT) ({ frames := 9, cells := 84, slots := 504, locals := 158 } : Room)).room s m ([.ref (x 0), .int p2, .ref qo] : List Value).toArray below meth c H locs 18 108 (MQ below (va_Qi (fun (r : Int32) (u : (Nat → Int32) × XV × SV × SV × SV × SV × SV × SV × SV) => (r, u) = out) (fun u t => va_P (dC, dI) vwCl (([[cI cyI qo 1 u.1], (cXo x an tr u.2.1), (cH cyO (x 1) (x 2) 2 fl), (cXk cyI x u.2.1), (cH cyO (x 4) (x 5) 6 fs), (cT cyI x (X_text u.2.1)), (cSo an u.2.2.1), (cG cyI an (S_green u.2.2.1)), (cV cyI an (S_score u.2.2.1)), (cS cyI b0 u.2.2.2.1), (cS cyI b1 u.2.2.2.2.1), (cS cyI b2 u.2.2.2.2.2.1), (cS cyI b3 u.2.2.2.2.2.2.1), (cS cyI b4 u.2.2.2.2.2.2.2.1), (cS cyI b5 u.2.2.2.2.2.2.2.2)] : List va_W).flatten) t.heap ∧ va_D A (([[cI cyI qo 1 u.1], (cXo x an tr u.2.1), (cH cyO (x 1) (x 2) 2 fl), (cXk cyI x u.2.1), (cH cyO (x 4) (x 5) 6 fs), (cT cyI x (X_text u.2.1)), (cSo an u.2.2.1), (cG cyI an (S_green u.2.2.1)), (cV cyI an (S_score u.2.2.1)), (cS cyI b0 u.2.2.2.1), (cS cyI b1 u.2.2.2.2.1), (cS cyI b2 u.2.2.2.2.2.1), (cS cyI b3 u.2.2.2.2.2.2.1), (cS cyI b4 u.2.2.2.2.2.2.2.1), (cS cyI b5 u.2.2.2.2.2.2.2.2)] : List va_W).flatten)) A) ([.ref (x 0), .int p2, .ref qo] : List Value).toArray s 84 504 A) (F0 m 343 ls [.int s343, .int s243, .int s307, .int (1 : Int32), .ref (x 0)]) := by
                      intro s343 H locs ls hP hD hS hl hF
                      have hF := (congrFun hj343 s343).symm.trans hF
                      refine lv_aload_n hx hb dL_act_343 rfl (lv_at hl 0 rfl) ?_
                      obtain ⟨o44, h45, hF⟩ := obd hF
                      refine wcLi (As := [.ref (x 0), .int (1 : Int32), .int s307, .int s243, .int s343, .ref qo]) (rest := []) (wr := ([] : List va_W).flatten) ⟨hx, hb, hml, hown, hts⟩ (met_L_changes l z0 hst dC dI cyI cyO qo x tr an b0 b1 b2 b3 b4 b5 fl fs _ N s156.2.1 s156.2.2.1 s156.2.2.2.1 s156.2.2.2.2.1 s156.2.2.2.2.2.1 s156.2.2.2.2.2.2.1 s156.2.2.2.2.2.2.2.1 s156.2.2.2.2.2.2.2.2.1 s156.2.2.2.2.2.2.2.2.2 (1 : Int32) s307 s243 s343 hs0 hs1 hs2 hs3 hs4 hs5 o44 h45) (vx_cwSW 6 hts (gS w_methodLink_L_89 w_static_L_changes w_initialized_L w_codeW_L_changes) rfl rfl rfl (by decide +kernel) ⟨Nat.le_of_ble_eq_true rfl, Nat.le_of_ble_eq_true rfl⟩) hP hD hK hZ hAz hz0 (seg_perm (n := 15) (R := []) (C := [[cI cyI qo 1 s156.2.1], (cXo x an tr s156.2.2.1), (cH cyO (x 1) (x 2) 2 fl), (cXk cyI x s156.2.2.1), (cH cyO (x 4) (x 5) 6 fs), (cT cyI x (X_text s156.2.2.1)), (cSo an s156.2.2.2.1), (cG cyI an (S_green s156.2.2.2.1)), (cV cyI an (S_score s156.2.2.2.1)), (cS cyI b0 s156.2.2.2.2.1), (cS cyI b1 s156.2.2.2.2.2.1), (cS cyI b2 s156.2.2.2.2.2.2.1), (cS cyI b3 s156.2.2.2.2.2.2.2.1), (cS cyI b4 s156.2.2.2.2.2.2.2.2.1), (cS cyI b5 s156.2.2.2.2.2.2.2.2.2)]) [] [0, 1, 2, 3, 4, 5, 6, 7, 8, 9, 10, 11, 12, 13, 14] rfl rfl rfl (by decide) rfl) rfl hl.1 (Nat.le_of_ble_eq_true rfl) dL_act_344 ⟨(show _ ≤ 84 from by omega), (show _ ≤ 504 from by omega)⟩ hS hA (fun r u H locs hw hP hD hS => ?_)
                      obtain rfl : r = o44.1 := congrArg Prod.fst hw
                      obtain rfl : u = o44.2 := congrArg Prod.snd hw
                      clear hw
                      have hq := seg_permS (segs := [[cI cyI qo 1 o44.2.1], (cXo x an tr o44.2.2.1), (cH cyO (x 1) (x 2) 2 fl), (cXk cyI x o44.2.2.1), (cH cyO (x 4) (x 5) 6 fs), (cT cyI x (X_text o44.2.2.1)), (cSo an o44.2.2.2.1), (cG cyI an (S_green o44.2.2.2.1)), (cV cyI an (S_score o44.2.2.2.1)), (cS cyI b0 o44.2.2.2.2.1), (cS cyI b1 o44.2.2.2.2.2.1), (cS cyI b2 o44.2.2.2.2.2.2.1), (cS cyI b3 o44.2.2.2.2.2.2.2.1), (cS cyI b4 o44.2.2.2.2.2.2.2.2.1), (cS cyI b5 o44.2.2.2.2.2.2.2.2.2)]) (R := []) (C := [[cI cyI qo 1 o44.2.1], (cXo x an tr o44.2.2.1), (cH cyO (x 1) (x 2) 2 fl), (cXk cyI x o44.2.2.1), (cH cyO (x 4) (x 5) 6 fs), (cT cyI x (X_text o44.2.2.1)), (cSo an o44.2.2.2.1), (cG cyI an (S_green o44.2.2.2.1)), (cV cyI an (S_score o44.2.2.2.1)), (cS cyI b0 o44.2.2.2.2.1), (cS cyI b1 o44.2.2.2.2.2.1), (cS cyI b2 o44.2.2.2.2.2.2.1), (cS cyI b3 o44.2.2.2.2.2.2.2.1), (cS cyI b4 o44.2.2.2.2.2.2.2.2.1), (cS cyI b5 o44.2.2.2.2.2.2.2.2.2)]) (n := 15) [] [0, 1, 2, 3, 4, 5, 6, 7, 8, 9, 10, 11, 12, 13, 14] rfl rfl rfl (by decide)
                      have hP : va_P (dC, dI) vwCl (([[cI cyI qo 1 o44.2.1], (cXo x an tr o44.2.2.1), (cH cyO (x 1) (x 2) 2 fl), (cXk cyI x o44.2.2.1), (cH cyO (x 4) (x 5) 6 fs), (cT cyI x (X_text o44.2.2.1)), (cSo an o44.2.2.2.1), (cG cyI an (S_green o44.2.2.2.1)), (cV cyI an (S_score o44.2.2.2.1)), (cS cyI b0 o44.2.2.2.2.1), (cS cyI b1 o44.2.2.2.2.2.1), (cS cyI b2 o44.2.2.2.2.2.2.1), (cS cyI b3 o44.2.2.2.2.2.2.2.1), (cS cyI b4 o44.2.2.2.2.2.2.2.2.1), (cS cyI b5 o44.2.2.2.2.2.2.2.2.2)] : List va_W).flatten) H := hP.perm hq
                      have hD : va_D A (([[cI cyI qo 1 o44.2.1], (cXo x an tr o44.2.2.1), (cH cyO (x 1) (x 2) 2 fl), (cXk cyI x o44.2.2.1), (cH cyO (x 4) (x 5) 6 fs), (cT cyI x (X_text o44.2.2.1)), (cSo an o44.2.2.2.1), (cG cyI an (S_green o44.2.2.2.1)), (cV cyI an (S_score o44.2.2.2.1)), (cS cyI b0 o44.2.2.2.2.1), (cS cyI b1 o44.2.2.2.2.2.1), (cS cyI b2 o44.2.2.2.2.2.2.1), (cS cyI b3 o44.2.2.2.2.2.2.2.1), (cS cyI b4 o44.2.2.2.2.2.2.2.2.1), (cS cyI b5 o44.2.2.2.2.2.2.2.2.2)] : List va_W).flatten) := hD.perm hq
                      clear hq
                      refine W.widen (k := 30) (n := 180) (by omega) (by omega) ?_
                      exact hJ347 (o44.1, o44.2.1, o44.2.2.1, o44.2.2.2.1, o44.2.2.2.2.1, o44.2.2.2.2.2.1, o44.2.2.2.2.2.2.1, o44.2.2.2.2.2.2.2.1, o44.2.2.2.2.2.2.2.2.1, o44.2.2.2.2.2.2.2.2.2) _ _ _ hP hD hS (lv_sub hl [] rfl) hF
                    refine lv_if_ne (tgt := 322) hx hb dL_act_315 (by decide) (fun c46 => ?_) (fun c46 => ?_)
                    · have hF := itn c46 hF
                      refine lv_iload_n hx hb dL_act_322 rfl (lv_at hl 1 rfl) ?_
                      refine lv_bipush (v := 7) hx hb dL_act_323 (by decide) ?_
                      refine lv_ishr hx hb dL_act_325 ?_
                      refine lv_iload hx hb dL_act_326 (lv_at hl 2 rfl) ?_
                      obtain ⟨j338, hj338, hF⟩ := jn_use hF
                      have hJ338 : ∀ (s338 : Int32) (H : Heap) (locs : List Loc) (ls : Array Slot), va_P (dC, dI) vwCl (([[cI cyI qo 1 s156.2.1], (cXo x an tr s156.2.2.1), (cH cyO (x 1) (x 2) 2 fl), (cXk cyI x s156.2.2.1), (cH cyO (x 4) (x 5) 6 fs), (cT cyI x (X_text s156.2.2.1)), (cSo an s156.2.2.2.1), (cG cyI an (S_green s156.2.2.2.1)), (cV cyI an (S_score s156.2.2.2.1)), (cS cyI b0 s156.2.2.2.2.1), (cS cyI b1 s156.2.2.2.2.2.1), (cS cyI b2 s156.2.2.2.2.2.2.1), (cS cyI b3 s156.2.2.2.2.2.2.2.1), (cS cyI b4 s156.2.2.2.2.2.2.2.2.1), (cS cyI b5 s156.2.2.2.2.2.2.2.2.2)] : List va_W).flatten) H → va_D A (([[cI cyI qo 1 s156.2.1], (cXo x an tr s156.2.2.1), (cH cyO (x 1) (x 2) 2 fl), (cXk cyI x s156.2.2.1), (cH cyO (x 4) (x 5) 6 fs), (cT cyI x (X_text s156.2.2.1)), (cSo an s156.2.2.2.1), (cG cyI an (S_green s156.2.2.2.1)), (cV cyI an (S_score s156.2.2.2.1)), (cS cyI b0 s156.2.2.2.2.1), (cS cyI b1 s156.2.2.2.2.2.1), (cS cyI b2 s156.2.2.2.2.2.2.1), (cS cyI b3 s156.2.2.2.2.2.2.2.1), (cS cyI b4 s156.2.2.2.2.2.2.2.2.1), (cS cyI b5 s156.2.2.2.2.2.2.2.2.2)] : List va_W).flatten) → va_S A s.heap H locs → lv_has ls 9 [(2, .ref qo)] → j338 s338 = some out → W p l e (headSpec (Cond.code yL_act cL_act 9 (some .int) :: wT) ({ frames := 9, cells := 84, slots := 504, locals := 158 } : Room)).room s m ([.ref (x 0), .int p2, .ref qo] : List Value).toArray below meth c H locs 18 108 (MQ below (va_Qi (fun (r : Int32) (u : (Nat → Int32) × XV × SV × SV × SV × SV × SV × SV × SV) => (r, u) = out) (fun u t => va_P (dC, dI) vwCl (([[cI cyI qo 1 u.1], (cXo x an tr u.2.1), (cH cyO (x 1) (x 2) 2 fl), (cXk cyI x u.2.1), (cH cyO (x 4) (x 5) 6 fs), (cT cyI x (X_text u.2.1)), (cSo an u.2.2.1), (cG cyI an (S_green u.2.2.1)), (cV cyI an (S_score u.2.2.1)), (cS cyI b0 u.2.2.2.1), (cS cyI b1 u.2.2.2.2.1), (cS cyI b2 u.2.2.2.2.2.1), (cS cyI b3 u.2.2.2.2.2.2.1), (cS cyI b4 u.2.2.2.2.2.2.2.1), (cS cyI b5 u.2.2.2.2.2.2.2.2)] : List va_W).flatten) t.heap ∧ va_D A (([[cI cyI qo 1 u.1], (cXo x an tr u.2.1), (cH cyO (x 1) (x 2) 2 fl), (cXk cyI x u.2.1), (cH cyO (x 4) (x 5) 6 fs), (cT cyI x (X_text u.2.1)), (cSo an u.2.2.1), (cG cyI an (S_green u.2.2.1)), (cV cyI an (S_score u.2.2.1)), (cS cyI b0 u.2.2.2.1), (cS cyI b1 u.2.2.2.2.1), (cS cyI b2 u.2.2.2.2.2.1), (cS cyI b3 u.2.2.2.2.2.2.1), (cS cyI b4 u.2.2.2.2.2.2.2.1), (cS cyI b5 u.2.2.2.2.2.2.2.2)] : List va_W).flatten)) A) ([.ref (x 0), .int p2, .ref qo] : List Value).toArray s 84 504 A) (F0 m 338 ls [.int s338, .int ((p2 >>> ((5 : Int32) &&& 31)) >>> ((7 : Int32) &&& 31)), .int s243, .int s307, .int (1 : Int32), .ref (x 0)]) := by
                        intro s338 H locs ls hP hD hS hl hF
                        have hF := (congrFun hj338 s338).symm.trans hF
                        obtain ⟨o47, h48, hF⟩ := obd hF
                        refine wcRSi (As := [.int ((p2 >>> ((5 : Int32) &&& 31)) >>> ((7 : Int32) &&& 31)), .int s338]) (rest := [.int s243, .int s307, .int (1 : Int32), .ref (x 0)]) ⟨hx, hb, hml, hown, hts⟩ (met_L_low l dC dI cyI cyO  N  ((p2 >>> ((5 : Int32) &&& 31)) >>> ((7 : Int32) &&& 31)) s338 o47 h48) (va_cwS 2 hts (gS w_methodLink_L_68 w_static_L_low w_initialized_L w_code_L_low) rfl rfl rfl (by decide +kernel) ⟨Nat.le_of_ble_eq_true rfl, Nat.le_of_ble_eq_true rfl⟩) hP hK [] rfl rfl hl.1 (Nat.le_of_ble_eq_true rfl) dL_act_338 ⟨(show _ ≤ 84 from by omega), (show _ ≤ 504 from by omega)⟩ hS (fun r H locs hw hP hS => ?_)
                        have hw := hw.symm
                        subst hw
                        refine lv_iconst (v := 3) hx hb dL_act_341 (by decide) ?_
                        refine lv_isub hx hb dL_act_342 ?_
                        refine W.widen (k := 18) (n := 108) (by omega) (by omega) ?_
                        exact hJ343 (o47 - (3 : Int32)) _ _ _ hP hD hS (lv_sub hl [0] rfl) hF
                      refine lv_if_eq (tgt := 336) hx hb dL_act_328 (by decide) (fun c49 => ?_) (fun c49 => ?_)
                      · have hF := itp c49 hF
                        refine lv_bipush (v := 9) hx hb dL_act_336 (by decide) ?_
                        refine W.widen (k := 18) (n := 108) (by omega) (by omega) ?_
                        exact hJ338 (9 : Int32) _ _ _ hP hD hS (lv_sub hl [0] rfl) hF
                      · have hF := itn c49 hF
                        refine lv_bipush (v := 7) hx hb dL_act_331 (by decide) ?_
                        refine lv_goto (tgt := 338) hx hb dL_act_333 (by decide) ?_
                        refine W.widen (k := 18) (n := 108) (by omega) (by omega) ?_
                        exact hJ338 (7 : Int32) _ _ _ hP hD hS (lv_sub hl [0] rfl) hF
                    · have hF := itp c46 hF
                      refine lv_iconst (v := 0) hx hb dL_act_318 (by decide) ?_
                      refine lv_goto (tgt := 343) hx hb dL_act_319 (by decide) ?_
                      refine W.widen (k := 18) (n := 108) (by omega) (by omega) ?_
                      exact hJ343 (0 : Int32) _ _ _ hP hD hS (lv_sub hl [0] rfl) hF
                  refine lv_if_ne (tgt := 288) hx hb dL_act_275 (by decide) (fun c50 => ?_) (fun c50 => ?_)
                  · have hF := itn c50 hF
                    refine lv_iload_n hx hb dL_act_288 rfl (lv_at hl 2 rfl) ?_
                    refine lv_iload hx hb dL_act_289 (lv_at hl 3 rfl) ?_
                    obtain ⟨j301, hj301, hF⟩ := jn_use hF
                    have hJ301 : ∀ (s301 : Int32) (H : Heap) (locs : List Loc) (ls : Array Slot), va_P (dC, dI) vwCl (([[cI cyI qo 1 s156.2.1], (cXo x an tr s156.2.2.1), (cH cyO (x 1) (x 2) 2 fl), (cXk cyI x s156.2.2.1), (cH cyO (x 4) (x 5) 6 fs), (cT cyI x (X_text s156.2.2.1)), (cSo an s156.2.2.2.1), (cG cyI an (S_green s156.2.2.2.1)), (cV cyI an (S_score s156.2.2.2.1)), (cS cyI b0 s156.2.2.2.2.1), (cS cyI b1 s156.2.2.2.2.2.1), (cS cyI b2 s156.2.2.2.2.2.2.1), (cS cyI b3 s156.2.2.2.2.2.2.2.1), (cS cyI b4 s156.2.2.2.2.2.2.2.2.1), (cS cyI b5 s156.2.2.2.2.2.2.2.2.2)] : List va_W).flatten) H → va_D A (([[cI cyI qo 1 s156.2.1], (cXo x an tr s156.2.2.1), (cH cyO (x 1) (x 2) 2 fl), (cXk cyI x s156.2.2.1), (cH cyO (x 4) (x 5) 6 fs), (cT cyI x (X_text s156.2.2.1)), (cSo an s156.2.2.2.1), (cG cyI an (S_green s156.2.2.2.1)), (cV cyI an (S_score s156.2.2.2.1)), (cS cyI b0 s156.2.2.2.2.1), (cS cyI b1 s156.2.2.2.2.2.1), (cS cyI b2 s156.2.2.2.2.2.2.1), (cS cyI b3 s156.2.2.2.2.2.2.2.1), (cS cyI b4 s156.2.2.2.2.2.2.2.2.1), (cS cyI b5 s156.2.2.2.2.2.2.2.2.2)] : List va_W).flatten) → va_S A s.heap H locs → lv_has ls 9 [(2, .ref qo), (3, .int (p2 >>> ((5 : Int32) &&& 31))), (4, .int s21), (8, .int s243)] → j301 s301 = some out → W p l e (headSpec (Cond.code yL_act cL_act 9 (some .int) :: wT) ({ frames := 9, cells := 84, slots := 504, locals := 158 } : Room)).room s m ([.ref (x 0), .int p2, .ref qo] : List Value).toArray below meth c H locs 18 108 (MQ below (va_Qi (fun (r : Int32) (u : (Nat → Int32) × XV × SV × SV × SV × SV × SV × SV × SV) => (r, u) = out) (fun u t => va_P (dC, dI) vwCl (([[cI cyI qo 1 u.1], (cXo x an tr u.2.1), (cH cyO (x 1) (x 2) 2 fl), (cXk cyI x u.2.1), (cH cyO (x 4) (x 5) 6 fs), (cT cyI x (X_text u.2.1)), (cSo an u.2.2.1), (cG cyI an (S_green u.2.2.1)), (cV cyI an (S_score u.2.2.1)), (cS cyI b0 u.2.2.2.1), (cS cyI b1 u.2.2.2.2.1), (cS cyI b2 u.2.2.2.2.2.1), (cS cyI b3 u.2.2.2.2.2.2.1), (cS cyI b4 u.2.2.2.2.2.2.2.1), (cS cyI b5 u.2.2.2.2.2.2.2.2)] : List va_W).flatten) t.heap ∧ va_D A (([[cI cyI qo 1 u.1], (cXo x an tr u.2.1), (cH cyO (x 1) (x 2) 2 fl), (cXk cyI x u.2.1), (cH cyO (x 4) (x 5) 6 fs), (cT cyI x (X_text u.2.1)), (cSo an u.2.2.1), (cG cyI an (S_green u.2.2.1)), (cV cyI an (S_score u.2.2.1)), (cS cyI b0 u.2.2.2.1), (cS cyI b1 u.2.2.2.2.1), (cS cyI b2 u.2.2.2.2.2.1), (cS cyI b3 u.2.2.2.2.2.2.1), (cS cyI b4 u.2.2.2.2.2.2.2.1), (cS cyI b5 u.2.2.2.2.2.2.2.2)] : List va_W).flatten)) A) ([.ref (x 0), .int p2, .ref qo] : List Value).toArray s 84 504 A) (F0 m 301 ls [.int s301, .int (p2 >>> ((5 : Int32) &&& 31)), .int (1 : Int32), .ref (x 0)]) := by
                      intro s301 H locs ls hP hD hS hl hF
                      have hF := (congrFun hj301 s301).symm.trans hF
                      obtain ⟨o51, h52, hF⟩ := obd hF
                      refine wcRSi (As := [.int (p2 >>> ((5 : Int32) &&& 31)), .int s301]) (rest := [.int (1 : Int32), .ref (x 0)]) ⟨hx, hb, hml, hown, hts⟩ (met_L_low l dC dI cyI cyO  N  (p2 >>> ((5 : Int32) &&& 31)) s301 o51 h52) (va_cwS 2 hts (gS w_methodLink_L_68 w_static_L_low w_initialized_L w_code_L_low) rfl rfl rfl (by decide +kernel) ⟨Nat.le_of_ble_eq_true rfl, Nat.le_of_ble_eq_true rfl⟩) hP hK [] rfl rfl hl.1 (Nat.le_of_ble_eq_true rfl) dL_act_301 ⟨(show _ ≤ 84 from by omega), (show _ ≤ 504 from by omega)⟩ hS (fun r H locs hw hP hS => ?_)
                      have hw := hw.symm
                      subst hw
                      refine lv_bipush (v := 9) hx hb dL_act_304 (by decide) ?_
                      refine lv_isub hx hb dL_act_306 ?_
                      refine W.widen (k := 18) (n := 108) (by omega) (by omega) ?_
                      exact hJ307 (o51 - (9 : Int32)) _ _ _ hP hD hS (lv_sub hl [0, 1, 2, 3] rfl) hF
                    refine lv_if_eq (tgt := 299) hx hb dL_act_291 (by decide) (fun c53 => ?_) (fun c53 => ?_)
                    · have hF := itp c53 hF
                      refine lv_bipush (v := 22) hx hb dL_act_299 (by decide) ?_
                      refine W.widen (k := 18) (n := 108) (by omega) (by omega) ?_
                      exact hJ301 (22 : Int32) _ _ _ hP hD hS (lv_sub hl [1, 2, 3, 4] rfl) hF
                    · have hF := itn c53 hF
                      refine lv_bipush (v := 19) hx hb dL_act_294 (by decide) ?_
                      refine lv_goto (tgt := 301) hx hb dL_act_296 (by decide) ?_
                      refine W.widen (k := 18) (n := 108) (by omega) (by omega) ?_
                      exact hJ301 (19 : Int32) _ _ _ hP hD hS (lv_sub hl [1, 2, 3, 4] rfl) hF
                  · have hF := itp c50 hF
                    refine lv_iload_n hx hb dL_act_278 rfl (lv_at hl 2 rfl) ?_
                    refine lv_iconst (v := 3) hx hb dL_act_279 (by decide) ?_
                    obtain ⟨o54, h55, hF⟩ := obd hF
                    refine wcRSi (As := [.int (p2 >>> ((5 : Int32) &&& 31)), .int (3 : Int32)]) (rest := [.int (1 : Int32), .ref (x 0)]) ⟨hx, hb, hml, hown, hts⟩ (met_L_low l dC dI cyI cyO  N  (p2 >>> ((5 : Int32) &&& 31)) (3 : Int32) o54 h55) (va_cwS 2 hts (gS w_methodLink_L_68 w_static_L_low w_initialized_L w_code_L_low) rfl rfl rfl (by decide +kernel) ⟨Nat.le_of_ble_eq_true rfl, Nat.le_of_ble_eq_true rfl⟩) hP hK [] rfl rfl hl.1 (Nat.le_of_ble_eq_true rfl) dL_act_280 ⟨(show _ ≤ 84 from by omega), (show _ ≤ 504 from by omega)⟩ hS (fun r H locs hw hP hS => ?_)
                    have hw := hw.symm
                    subst hw
                    refine lv_iconst (v := 1) hx hb dL_act_283 (by decide) ?_
                    refine lv_isub hx hb dL_act_284 ?_
                    refine lv_goto (tgt := 307) hx hb dL_act_285 (by decide) ?_
                    refine W.widen (k := 18) (n := 108) (by omega) (by omega) ?_
                    exact hJ307 (o54 - (1 : Int32)) _ _ _ hP hD hS (lv_sub hl [1, 2, 3, 4] rfl) hF
                refine lv_if_eq (tgt := 267) hx hb dL_act_247 (by decide) (fun c56 => ?_) (fun c56 => ?_)
                · have hF := itp c56 hF
                  refine W.widen (k := 18) (n := 108) (by omega) (by omega) ?_
                  exact hJ267 () _ _ _ hP hD hS (lv_sub hl [1, 2, 3, 4, 0] rfl) hF
                · have hF := itn c56 hF
                  refine lv_iload hx hb dL_act_250 (lv_at hl 4 rfl) ?_
                  refine lv_if_eq (tgt := 267) hx hb dL_act_252 (by decide) (fun c57 => ?_) (fun c57 => ?_)
                  · have hF := itp c57 hF
                    refine W.widen (k := 18) (n := 108) (by omega) (by omega) ?_
                    exact hJ267 () _ _ _ hP hD hS (lv_sub hl [1, 2, 3, 4, 0] rfl) hF
                  · have hF := itn c57 hF
                    refine lv_aload_n hx hb dL_act_255 rfl (lv_at hl 1 rfl) ?_
                    refine lv_iconst (v := 2) hx hb dL_act_256 (by decide) ?_
                    refine lv_iconst (v := 0) hx hb dL_act_257 (by decide) ?_
                    refine lv_iconst (v := 0) hx hb dL_act_258 (by decide) ?_
                    refine lv_iconst (v := 0) hx hb dL_act_259 (by decide) ?_
                    refine lv_aload_n hx hb dL_act_260 rfl (lv_at hl 2 rfl) ?_
                    obtain ⟨o58, h59, hF⟩ := obd hF
                    refine wcLi (As := [.ref (x 0), .int (2 : Int32), .int (0 : Int32), .int (0 : Int32), .int (0 : Int32), .ref qo]) (rest := []) (wr := ([] : List va_W).flatten) ⟨hx, hb, hml, hown, hts⟩ (met_L_changes l z0 hst dC dI cyI cyO qo x tr an b0 b1 b2 b3 b4 b5 fl fs _ N s156.2.1 s156.2.2.1 s156.2.2.2.1 s156.2.2.2.2.1 s156.2.2.2.2.2.1 s156.2.2.2.2.2.2.1 s156.2.2.2.2.2.2.2.1 s156.2.2.2.2.2.2.2.2.1 s156.2.2.2.2.2.2.2.2.2 (2 : Int32) (0 : Int32) (0 : Int32) (0 : Int32) hs0 hs1 hs2 hs3 hs4 hs5 o58 h59) (vx_cwSW 6 hts (gS w_methodLink_L_89 w_static_L_changes w_initialized_L w_codeW_L_changes) rfl rfl rfl (by decide +kernel) ⟨Nat.le_of_ble_eq_true rfl, Nat.le_of_ble_eq_true rfl⟩) hP hD hK hZ hAz hz0 (seg_perm (n := 15) (R := []) (C := [[cI cyI qo 1 s156.2.1], (cXo x an tr s156.2.2.1), (cH cyO (x 1) (x 2) 2 fl), (cXk cyI x s156.2.2.1), (cH cyO (x 4) (x 5) 6 fs), (cT cyI x (X_text s156.2.2.1)), (cSo an s156.2.2.2.1), (cG cyI an (S_green s156.2.2.2.1)), (cV cyI an (S_score s156.2.2.2.1)), (cS cyI b0 s156.2.2.2.2.1), (cS cyI b1 s156.2.2.2.2.2.1), (cS cyI b2 s156.2.2.2.2.2.2.1), (cS cyI b3 s156.2.2.2.2.2.2.2.1), (cS cyI b4 s156.2.2.2.2.2.2.2.2.1), (cS cyI b5 s156.2.2.2.2.2.2.2.2.2)]) [] [0, 1, 2, 3, 4, 5, 6, 7, 8, 9, 10, 11, 12, 13, 14] rfl rfl rfl (by decide) rfl) rfl hl.1 (Nat.le_of_ble_eq_true rfl) dL_act_261 ⟨(show _ ≤ 84 from by omega), (show _ ≤ 504 from by omega)⟩ hS hA (fun r u H locs hw hP hD hS => ?_)
                    obtain rfl : r = o58.1 := congrArg Prod.fst hw
                    obtain rfl : u = o58.2 := congrArg Prod.snd hw
                    clear hw
                    have hq := seg_permS (segs := [[cI cyI qo 1 o58.2.1], (cXo x an tr o58.2.2.1), (cH cyO (x 1) (x 2) 2 fl), (cXk cyI x o58.2.2.1), (cH cyO (x 4) (x 5) 6 fs), (cT cyI x (X_text o58.2.2.1)), (cSo an o58.2.2.2.1), (cG cyI an (S_green o58.2.2.2.1)), (cV cyI an (S_score o58.2.2.2.1)), (cS cyI b0 o58.2.2.2.2.1), (cS cyI b1 o58.2.2.2.2.2.1), (cS cyI b2 o58.2.2.2.2.2.2.1), (cS cyI b3 o58.2.2.2.2.2.2.2.1), (cS cyI b4 o58.2.2.2.2.2.2.2.2.1), (cS cyI b5 o58.2.2.2.2.2.2.2.2.2)]) (R := []) (C := [[cI cyI qo 1 o58.2.1], (cXo x an tr o58.2.2.1), (cH cyO (x 1) (x 2) 2 fl), (cXk cyI x o58.2.2.1), (cH cyO (x 4) (x 5) 6 fs), (cT cyI x (X_text o58.2.2.1)), (cSo an o58.2.2.2.1), (cG cyI an (S_green o58.2.2.2.1)), (cV cyI an (S_score o58.2.2.2.1)), (cS cyI b0 o58.2.2.2.2.1), (cS cyI b1 o58.2.2.2.2.2.1), (cS cyI b2 o58.2.2.2.2.2.2.1), (cS cyI b3 o58.2.2.2.2.2.2.2.1), (cS cyI b4 o58.2.2.2.2.2.2.2.2.1), (cS cyI b5 o58.2.2.2.2.2.2.2.2.2)]) (n := 15) [] [0, 1, 2, 3, 4, 5, 6, 7, 8, 9, 10, 11, 12, 13, 14] rfl rfl rfl (by decide)
                    have hP : va_P (dC, dI) vwCl (([[cI cyI qo 1 o58.2.1], (cXo x an tr o58.2.2.1), (cH cyO (x 1) (x 2) 2 fl), (cXk cyI x o58.2.2.1), (cH cyO (x 4) (x 5) 6 fs), (cT cyI x (X_text o58.2.2.1)), (cSo an o58.2.2.2.1), (cG cyI an (S_green o58.2.2.2.1)), (cV cyI an (S_score o58.2.2.2.1)), (cS cyI b0 o58.2.2.2.2.1), (cS cyI b1 o58.2.2.2.2.2.1), (cS cyI b2 o58.2.2.2.2.2.2.1), (cS cyI b3 o58.2.2.2.2.2.2.2.1), (cS cyI b4 o58.2.2.2.2.2.2.2.2.1), (cS cyI b5 o58.2.2.2.2.2.2.2.2.2)] : List va_W).flatten) H := hP.perm hq
                    have hD : va_D A (([[cI cyI qo 1 o58.2.1], (cXo x an tr o58.2.2.1), (cH cyO (x 1) (x 2) 2 fl), (cXk cyI x o58.2.2.1), (cH cyO (x 4) (x 5) 6 fs), (cT cyI x (X_text o58.2.2.1)), (cSo an o58.2.2.2.1), (cG cyI an (S_green o58.2.2.2.1)), (cV cyI an (S_score o58.2.2.2.1)), (cS cyI b0 o58.2.2.2.2.1), (cS cyI b1 o58.2.2.2.2.2.1), (cS cyI b2 o58.2.2.2.2.2.2.1), (cS cyI b3 o58.2.2.2.2.2.2.2.1), (cS cyI b4 o58.2.2.2.2.2.2.2.2.1), (cS cyI b5 o58.2.2.2.2.2.2.2.2.2)] : List va_W).flatten) := hD.perm hq
                    clear hq
                    refine lv_goto (tgt := 347) hx hb dL_act_264 (by decide) ?_
                    refine W.widen (k := 30) (n := 180) (by omega) (by omega) ?_
                    exact hJ347 (o58.1, o58.2.1, o58.2.2.1, o58.2.2.2.1, o58.2.2.2.2.1, o58.2.2.2.2.2.1, o58.2.2.2.2.2.2.1, o58.2.2.2.2.2.2.2.1, o58.2.2.2.2.2.2.2.2.1, o58.2.2.2.2.2.2.2.2.2) _ _ _ hP hD hS (lv_sub hl [] rfl) hF
              refine lv_if_ne (tgt := 217) hx hb dL_act_209 (by decide) (fun c60 => ?_) (fun c60 => ?_)
              · have hF := itn c60 hF
                refine lv_iload hx hb dL_act_217 (lv_at hl 0 rfl) ?_
                refine lv_bipush (v := 15) hx hb dL_act_219 (by decide) ?_
                refine lv_icmp_ge (tgt := 229) hx hb dL_act_221 (by decide) (fun c61 => ?_) (fun c61 => ?_)
                · have hF := itp c61 hF
                  refine lv_iload hx hb dL_act_229 (lv_at hl 0 rfl) ?_
                  refine lv_bipush (v := 70) hx hb dL_act_231 (by decide) ?_
                  refine lv_icmp_le (tgt := 241) hx hb dL_act_233 (by decide) (fun c62 => ?_) (fun c62 => ?_)
                  · have hF := itp c62 hF
                    refine lv_iload hx hb dL_act_241 (lv_at hl 0 rfl) ?_
                    refine W.widen (k := 18) (n := 108) (by omega) (by omega) ?_
                    exact hJ243 s205 _ _ _ hP hD hS (lv_sub hl [1, 2, 3, 4, 5] rfl) hF
                  · have hF := itn c62 hF
                    refine lv_bipush (v := 70) hx hb dL_act_236 (by decide) ?_
                    refine lv_goto (tgt := 243) hx hb dL_act_238 (by decide) ?_
                    refine W.widen (k := 18) (n := 108) (by omega) (by omega) ?_
                    exact hJ243 (70 : Int32) _ _ _ hP hD hS (lv_sub hl [1, 2, 3, 4, 5] rfl) hF
                · have hF := itn c61 hF
                  refine lv_bipush (v := 15) hx hb dL_act_224 (by decide) ?_
                  refine lv_goto (tgt := 243) hx hb dL_act_226 (by decide) ?_
                  refine W.widen (k := 18) (n := 108) (by omega) (by omega) ?_
                  exact hJ243 (15 : Int32) _ _ _ hP hD hS (lv_sub hl [1, 2, 3, 4, 5] rfl) hF
              · have hF := itp c60 hF
                refine lv_iload hx hb dL_act_212 (lv_at hl 0 rfl) ?_
                refine lv_goto (tgt := 243) hx hb dL_act_214 (by decide) ?_
                refine W.widen (k := 18) (n := 108) (by omega) (by omega) ?_
                exact hJ243 s205 _ _ _ hP hD hS (lv_sub hl [1, 2, 3, 4, 5] rfl) hF
            refine lv_icmp_ge (tgt := 184) hx hb dL_act_165 (by decide) (fun c63 => ?_) (fun c63 => ?_)
            · have hF := itp c63 hF
              refine lv_bipush (v := 15) hx hb dL_act_184 (by decide) ?_
              refine lv_iload_n hx hb dL_act_186 rfl (lv_at hl 3 rfl) ?_
              refine lv_iconst (v := 4) hx hb dL_act_187 (by decide) ?_
              refine lv_ishr hx hb dL_act_188 ?_
              refine lv_iload hx hb dL_act_189 (lv_at hl 4 rfl) ?_
              obtain ⟨j201, hj201, hF⟩ := jn_use hF
              have hJ201 : ∀ (s201 : Int32) (H : Heap) (locs : List Loc) (ls : Array Slot), va_P (dC, dI) vwCl (([[cI cyI qo 1 s156.2.1], (cXo x an tr s156.2.2.1), (cH cyO (x 1) (x 2) 2 fl), (cXk cyI x s156.2.2.1), (cH cyO (x 4) (x 5) 6 fs), (cT cyI x (X_text s156.2.2.1)), (cSo an s156.2.2.2.1), (cG cyI an (S_green s156.2.2.2.1)), (cV cyI an (S_score s156.2.2.2.1)), (cS cyI b0 s156.2.2.2.2.1), (cS cyI b1 s156.2.2.2.2.2.1), (cS cyI b2 s156.2.2.2.2.2.2.1), (cS cyI b3 s156.2.2.2.2.2.2.2.1), (cS cyI b4 s156.2.2.2.2.2.2.2.2.1), (cS cyI b5 s156.2.2.2.2.2.2.2.2.2)] : List va_W).flatten) H → va_D A (([[cI cyI qo 1 s156.2.1], (cXo x an tr s156.2.2.1), (cH cyO (x 1) (x 2) 2 fl), (cXk cyI x s156.2.2.1), (cH cyO (x 4) (x 5) 6 fs), (cT cyI x (X_text s156.2.2.1)), (cSo an s156.2.2.2.1), (cG cyI an (S_green s156.2.2.2.1)), (cV cyI an (S_score s156.2.2.2.1)), (cS cyI b0 s156.2.2.2.2.1), (cS cyI b1 s156.2.2.2.2.2.1), (cS cyI b2 s156.2.2.2.2.2.2.1), (cS cyI b3 s156.2.2.2.2.2.2.2.1), (cS cyI b4 s156.2.2.2.2.2.2.2.2.1), (cS cyI b5 s156.2.2.2.2.2.2.2.2.2)] : List va_W).flatten) → va_S A s.heap H locs → lv_has ls 9 [(0, .ref (x 0)), (2, .ref qo), (3, .int (p2 >>> ((5 : Int32) &&& 31))), (4, .int s21), (6, .int s70)] → j201 s201 = some out → W p l e (headSpec (Cond.code yL_act cL_act 9 (some .int) :: wT) ({ frames := 9, cells := 84, slots := 504, locals := 158 } : Room)).room s m ([.ref (x 0), .int p2, .ref qo] : List Value).toArray below meth c H locs 18 108 (MQ below (va_Qi (fun (r : Int32) (u : (Nat → Int32) × XV × SV × SV × SV × SV × SV × SV × SV) => (r, u) = out) (fun u t => va_P (dC, dI) vwCl (([[cI cyI qo 1 u.1], (cXo x an tr u.2.1), (cH cyO (x 1) (x 2) 2 fl), (cXk cyI x u.2.1), (cH cyO (x 4) (x 5) 6 fs), (cT cyI x (X_text u.2.1)), (cSo an u.2.2.1), (cG cyI an (S_green u.2.2.1)), (cV cyI an (S_score u.2.2.1)), (cS cyI b0 u.2.2.2.1), (cS cyI b1 u.2.2.2.2.1), (cS cyI b2 u.2.2.2.2.2.1), (cS cyI b3 u.2.2.2.2.2.2.1), (cS cyI b4 u.2.2.2.2.2.2.2.1), (cS cyI b5 u.2.2.2.2.2.2.2.2)] : List va_W).flatten) t.heap ∧ va_D A (([[cI cyI qo 1 u.1], (cXo x an tr u.2.1), (cH cyO (x 1) (x 2) 2 fl), (cXk cyI x u.2.1), (cH cyO (x 4) (x 5) 6 fs), (cT cyI x (X_text u.2.1)), (cSo an u.2.2.1), (cG cyI an (S_green u.2.2.1)), (cV cyI an (S_score u.2.2.1)), (cS cyI b0 u.2.2.2.1), (cS cyI b1 u.2.2.2.2.1), (cS cyI b2 u.2.2.2.2.2.1), (cS cyI b3 u.2.2.2.2.2.2.1), (cS cyI b4 u.2.2.2.2.2.2.2.1), (cS cyI b5 u.2.2.2.2.2.2.2.2)] : List va_W).flatten)) A) ([.ref (x 0), .int p2, .ref qo] : List Value).toArray s 84 504 A) (F0 m 201 ls [.int s201, .int ((p2 >>> ((5 : Int32) &&& 31)) >>> ((4 : Int32) &&& 31)), .int (15 : Int32)]) := by
                intro s201 H locs ls hP hD hS hl hF
                have hF := (congrFun hj201 s201).symm.trans hF
                obtain ⟨o64, h65, hF⟩ := obd hF
                refine wcRSi (As := [.int ((p2 >>> ((5 : Int32) &&& 31)) >>> ((4 : Int32) &&& 31)), .int s201]) (rest := [.int (15 : Int32)]) ⟨hx, hb, hml, hown, hts⟩ (met_L_low l dC dI cyI cyO  N  ((p2 >>> ((5 : Int32) &&& 31)) >>> ((4 : Int32) &&& 31)) s201 o64 h65) (va_cwS 2 hts (gS w_methodLink_L_68 w_static_L_low w_initialized_L w_code_L_low) rfl rfl rfl (by decide +kernel) ⟨Nat.le_of_ble_eq_true rfl, Nat.le_of_ble_eq_true rfl⟩) hP hK [] rfl rfl hl.1 (Nat.le_of_ble_eq_true rfl) dL_act_201 ⟨(show _ ≤ 84 from by omega), (show _ ≤ 504 from by omega)⟩ hS (fun r H locs hw hP hS => ?_)
                have hw := hw.symm
                subst hw
                refine lv_iadd hx hb dL_act_204 ?_
                refine W.widen (k := 18) (n := 108) (by omega) (by omega) ?_
                exact hJ205 ((15 : Int32) + o64) _ _ _ hP hD hS (lv_sub hl [0, 1, 2, 3, 4] rfl) hF
              refine lv_if_eq (tgt := 199) hx hb dL_act_191 (by decide) (fun c66 => ?_) (fun c66 => ?_)
              · have hF := itp c66 hF
                refine lv_bipush (v := 60) hx hb dL_act_199 (by decide) ?_
                refine W.widen (k := 18) (n := 108) (by omega) (by omega) ?_
                exact hJ201 (60 : Int32) _ _ _ hP hD hS (lv_sub hl [1, 2, 3, 4, 5] rfl) hF
              · have hF := itn c66 hF
                refine lv_bipush (v := 56) hx hb dL_act_194 (by decide) ?_
                refine lv_goto (tgt := 201) hx hb dL_act_196 (by decide) ?_
                refine W.widen (k := 18) (n := 108) (by omega) (by omega) ?_
                exact hJ201 (56 : Int32) _ _ _ hP hD hS (lv_sub hl [1, 2, 3, 4, 5] rfl) hF
            · have hF := itn c63 hF
              refine lv_iload hx hb dL_act_168 (lv_at hl 0 rfl) ?_
              refine lv_iconst (v := 2) hx hb dL_act_170 (by decide) ?_
              refine lv_isub hx hb dL_act_171 ?_
              refine lv_iload_n hx hb dL_act_172 rfl (lv_at hl 3 rfl) ?_
              refine lv_iconst (v := 4) hx hb dL_act_173 (by decide) ?_
              refine lv_ishr hx hb dL_act_174 ?_
              refine lv_bipush (v := 20) hx hb dL_act_175 (by decide) ?_
              obtain ⟨o67, h68, hF⟩ := obd hF
              refine wcRSi (As := [.int ((p2 >>> ((5 : Int32) &&& 31)) >>> ((4 : Int32) &&& 31)), .int (20 : Int32)]) (rest := [.int (s156.1 - (2 : Int32))]) ⟨hx, hb, hml, hown, hts⟩ (met_L_low l dC dI cyI cyO  N  ((p2 >>> ((5 : Int32) &&& 31)) >>> ((4 : Int32) &&& 31)) (20 : Int32) o67 h68) (va_cwS 2 hts (gS w_methodLink_L_68 w_static_L_low w_initialized_L w_code_L_low) rfl rfl rfl (by decide +kernel) ⟨Nat.le_of_ble_eq_true rfl, Nat.le_of_ble_eq_true rfl⟩) hP hK [] rfl rfl hl.1 (Nat.le_of_ble_eq_true rfl) dL_act_177 ⟨(show _ ≤ 84 from by omega), (show _ ≤ 504 from by omega)⟩ hS (fun r H locs hw hP hS => ?_)
              have hw := hw.symm
              subst hw
              refine lv_iadd hx hb dL_act_180 ?_
              refine lv_goto (tgt := 205) hx hb dL_act_181 (by decide) ?_
              refine W.widen (k := 18) (n := 108) (by omega) (by omega) ?_
              exact hJ205 ((s156.1 - (2 : Int32)) + o67) _ _ _ hP hD hS (lv_sub hl [1, 2, 3, 4, 5] rfl) hF
          refine lv_icmp_ne (tgt := 150) hx hb dL_act_142 (by decide) (fun c69 => ?_) (fun c69 => ?_)
          · have hF := itn c69 hF
            refine lv_aload_n hx hb dL_act_150 rfl (lv_at hl 0 rfl) ?_
            refine lv_iconst (v := 5) hx hb dL_act_151 (by decide) ?_
            refine lv_iconst (v := 0) hx hb dL_act_152 (by decide) ?_
            obtain ⟨o70, h71, hF⟩ := obd hF
            refine wcLi (As := [.ref (x 0), .int (5 : Int32), .int (0 : Int32)]) (rest := []) (wr := ([[cI cyI qo 1 fo], (cS cyI b0 v0), (cS cyI b1 v1), (cS cyI b2 v2), (cS cyI b3 v3), (cS cyI b4 v4), (cS cyI b5 v5)] : List va_W).flatten) ⟨hx, hb, hml, hown, hts⟩ (met_L_looks l z0 hst dC dI cyI cyO x tr an fl fs _ N o42.2.1 o42.2.2 (5 : Int32) (0 : Int32) o70 h71) (vx_cwSW 3 hts (gS w_methodLink_L_93 w_static_L_looks w_initialized_L w_codeW_L_looks) rfl rfl rfl (by decide +kernel) ⟨Nat.le_of_ble_eq_true rfl, Nat.le_of_ble_eq_true rfl⟩) hP hD hK hZ hAz hz0 (seg_perm (n := 15) (R := [[cI cyI qo 1 fo], (cS cyI b0 v0), (cS cyI b1 v1), (cS cyI b2 v2), (cS cyI b3 v3), (cS cyI b4 v4), (cS cyI b5 v5)]) (C := [(cXo x an tr o42.2.1), (cH cyO (x 1) (x 2) 2 fl), (cXk cyI x o42.2.1), (cH cyO (x 4) (x 5) 6 fs), (cT cyI x (X_text o42.2.1)), (cSo an o42.2.2), (cG cyI an (S_green o42.2.2)), (cV cyI an (S_score o42.2.2))]) [0, 9, 10, 11, 12, 13, 14] [1, 2, 3, 4, 5, 6, 7, 8] rfl rfl rfl (by decide) rfl) rfl hl.1 (Nat.le_of_ble_eq_true rfl) dL_act_153 ⟨(show _ ≤ 84 from by omega), (show _ ≤ 504 from by omega)⟩ hS hA (fun r u H locs hw hP hD hS => ?_)
            obtain rfl : r = o70.1 := congrArg Prod.fst hw
            obtain rfl : u = o70.2 := congrArg Prod.snd hw
            clear hw
            have hq := seg_permS (segs := [[cI cyI qo 1 fo], (cXo x an tr o70.2.1), (cH cyO (x 1) (x 2) 2 fl), (cXk cyI x o70.2.1), (cH cyO (x 4) (x 5) 6 fs), (cT cyI x (X_text o70.2.1)), (cSo an o70.2.2), (cG cyI an (S_green o70.2.2)), (cV cyI an (S_score o70.2.2)), (cS cyI b0 v0), (cS cyI b1 v1), (cS cyI b2 v2), (cS cyI b3 v3), (cS cyI b4 v4), (cS cyI b5 v5)]) (R := [[cI cyI qo 1 fo], (cS cyI b0 v0), (cS cyI b1 v1), (cS cyI b2 v2), (cS cyI b3 v3), (cS cyI b4 v4), (cS cyI b5 v5)]) (C := [(cXo x an tr o70.2.1), (cH cyO (x 1) (x 2) 2 fl), (cXk cyI x o70.2.1), (cH cyO (x 4) (x 5) 6 fs), (cT cyI x (X_text o70.2.1)), (cSo an o70.2.2), (cG cyI an (S_green o70.2.2)), (cV cyI an (S_score o70.2.2))]) (n := 15) [0, 9, 10, 11, 12, 13, 14] [1, 2, 3, 4, 5, 6, 7, 8] rfl rfl rfl (by decide)
            have hP : va_P (dC, dI) vwCl (([[cI cyI qo 1 fo], (cXo x an tr o70.2.1), (cH cyO (x 1) (x 2) 2 fl), (cXk cyI x o70.2.1), (cH cyO (x 4) (x 5) 6 fs), (cT cyI x (X_text o70.2.1)), (cSo an o70.2.2), (cG cyI an (S_green o70.2.2)), (cV cyI an (S_score o70.2.2)), (cS cyI b0 v0), (cS cyI b1 v1), (cS cyI b2 v2), (cS cyI b3 v3), (cS cyI b4 v4), (cS cyI b5 v5)] : List va_W).flatten) H := hP.perm hq
            have hD : va_D A (([[cI cyI qo 1 fo], (cXo x an tr o70.2.1), (cH cyO (x 1) (x 2) 2 fl), (cXk cyI x o70.2.1), (cH cyO (x 4) (x 5) 6 fs), (cT cyI x (X_text o70.2.1)), (cSo an o70.2.2), (cG cyI an (S_green o70.2.2)), (cV cyI an (S_score o70.2.2)), (cS cyI b0 v0), (cS cyI b1 v1), (cS cyI b2 v2), (cS cyI b3 v3), (cS cyI b4 v4), (cS cyI b5 v5)] : List va_W).flatten) := hD.perm hq
            clear hq
            refine W.widen (k := 18) (n := 108) (by omega) (by omega) ?_
            exact hJ156 (o70.1, fo, o70.2.1, o70.2.2, v0, v1, v2, v3, v4, v5) _ _ _ hP hD hS (lv_sub hl [0, 1, 2, 3, 4] rfl) hF
          · have hF := itp c69 hF
            refine lv_bipush (v := 30) hx hb dL_act_145 (by decide) ?_
            refine lv_goto (tgt := 156) hx hb dL_act_147 (by decide) ?_
            refine W.widen (k := 18) (n := 108) (by omega) (by omega) ?_
            exact hJ156 ((30 : Int32), fo, o42.2.1, o42.2.2, v0, v1, v2, v3, v4, v5) _ _ _ hP hD hS (lv_sub hl [0, 1, 2, 3, 4] rfl) hF
        refine lv_if_ne (tgt := 134) hx hb dL_act_76 (by decide) (fun c72 => ?_) (fun c72 => ?_)
        · have hF := itn c72 hF
          refine W.widen (k := 0) (n := 0) (by omega) (by omega) ?_
          exact hJ134 () _ _ _ hP hD hS (lv_sub hl [1, 2, 3, 4, 0] rfl) hF
        · have hF := itp c72 hF
          refine lv_iload hx hb dL_act_79 (lv_at hl 4 rfl) ?_
          refine lv_if_eq (tgt := 134) hx hb dL_act_81 (by decide) (fun c73 => ?_) (fun c73 => ?_)
          · have hF := itp c73 hF
            refine W.widen (k := 0) (n := 0) (by omega) (by omega) ?_
            exact hJ134 () _ _ _ hP hD hS (lv_sub hl [1, 2, 3, 4, 0] rfl) hF
          · have hF := itn c73 hF
            refine lv_aload_n hx hb dL_act_84 rfl (lv_at hl 1 rfl) ?_
            obtain ⟨o74, h75, hF⟩ := obd hF
            refine wcRVi (As := []) (rest := []) (b := (x 0)) ⟨hx, hb, hml, hown, hts⟩ (met_X5_isOver l dC dI cyI cyO x tr an fl fs N xv nv  o74 h75) (cwV 0 hts (gV w_methodLink_L_86 w_instanceMethod_X5_isOver w_selects_X5_isOver w_initialized_X5 w_code_X5_isOver) rfl rfl rfl (by decide +kernel) ⟨Nat.le_of_ble_eq_true rfl, Nat.le_of_ble_eq_true rfl⟩) (va_recv hK.1 hP (ci := 5) (q0 := 1) rfl rfl) hP hK [1, 2, 3, 4, 5, 6, 7, 8, 9, 10, 11, 12, 13, 14, 15, 16, 17, 18, 19, 20, 21] rfl rfl hl.1 (Nat.le_of_ble_eq_true rfl) dL_act_85 ⟨(show _ ≤ 84 from by omega), (show _ ≤ 504 from by omega)⟩ hS (fun r H locs hw hP hS => ?_)
            obtain ⟨hw, hz76⟩ := hw
            have hw := hw.symm
            subst hw
            obtain ⟨j133, hj133, hF⟩ := jn_use hF
            have hJ133 : ∀ (s133 : Int32 × (Nat → Int32) × XV × SV × SV × SV × SV × SV × SV × SV) (H : Heap) (locs : List Loc) (ls : Array Slot), va_P (dC, dI) vwCl (([[cI cyI qo 1 s133.2.1], (cXo x an tr s133.2.2.1), (cH cyO (x 1) (x 2) 2 fl), (cXk cyI x s133.2.2.1), (cH cyO (x 4) (x 5) 6 fs), (cT cyI x (X_text s133.2.2.1)), (cSo an s133.2.2.2.1), (cG cyI an (S_green s133.2.2.2.1)), (cV cyI an (S_score s133.2.2.2.1)), (cS cyI b0 s133.2.2.2.2.1), (cS cyI b1 s133.2.2.2.2.2.1), (cS cyI b2 s133.2.2.2.2.2.2.1), (cS cyI b3 s133.2.2.2.2.2.2.2.1), (cS cyI b4 s133.2.2.2.2.2.2.2.2.1), (cS cyI b5 s133.2.2.2.2.2.2.2.2.2)] : List va_W).flatten) H → va_D A (([[cI cyI qo 1 s133.2.1], (cXo x an tr s133.2.2.1), (cH cyO (x 1) (x 2) 2 fl), (cXk cyI x s133.2.2.1), (cH cyO (x 4) (x 5) 6 fs), (cT cyI x (X_text s133.2.2.1)), (cSo an s133.2.2.2.1), (cG cyI an (S_green s133.2.2.2.1)), (cV cyI an (S_score s133.2.2.2.1)), (cS cyI b0 s133.2.2.2.2.1), (cS cyI b1 s133.2.2.2.2.2.1), (cS cyI b2 s133.2.2.2.2.2.2.1), (cS cyI b3 s133.2.2.2.2.2.2.2.1), (cS cyI b4 s133.2.2.2.2.2.2.2.2.1), (cS cyI b5 s133.2.2.2.2.2.2.2.2.2)] : List va_W).flatten) → va_S A s.heap H locs → lv_has ls 9 [] → j133 s133 = some out → W p l e (headSpec (Cond.code yL_act cL_act 9 (some .int) :: wT) ({ frames := 9, cells := 84, slots := 504, locals := 158 } : Room)).room s m ([.ref (x 0), .int p2, .ref qo] : List Value).toArray below meth c H locs 12 72 (MQ below (va_Qi (fun (r : Int32) (u : (Nat → Int32) × XV × SV × SV × SV × SV × SV × SV × SV) => (r, u) = out) (fun u t => va_P (dC, dI) vwCl (([[cI cyI qo 1 u.1], (cXo x an tr u.2.1), (cH cyO (x 1) (x 2) 2 fl), (cXk cyI x u.2.1), (cH cyO (x 4) (x 5) 6 fs), (cT cyI x (X_text u.2.1)), (cSo an u.2.2.1), (cG cyI an (S_green u.2.2.1)), (cV cyI an (S_score u.2.2.1)), (cS cyI b0 u.2.2.2.1), (cS cyI b1 u.2.2.2.2.1), (cS cyI b2 u.2.2.2.2.2.1), (cS cyI b3 u.2.2.2.2.2.2.1), (cS cyI b4 u.2.2.2.2.2.2.2.1), (cS cyI b5 u.2.2.2.2.2.2.2.2)] : List va_W).flatten) t.heap ∧ va_D A (([[cI cyI qo 1 u.1], (cXo x an tr u.2.1), (cH cyO (x 1) (x 2) 2 fl), (cXk cyI x u.2.1), (cH cyO (x 4) (x 5) 6 fs), (cT cyI x (X_text u.2.1)), (cSo an u.2.2.1), (cG cyI an (S_green u.2.2.1)), (cV cyI an (S_score u.2.2.1)), (cS cyI b0 u.2.2.2.1), (cS cyI b1 u.2.2.2.2.1), (cS cyI b2 u.2.2.2.2.2.1), (cS cyI b3 u.2.2.2.2.2.2.1), (cS cyI b4 u.2.2.2.2.2.2.2.1), (cS cyI b5 u.2.2.2.2.2.2.2.2)] : List va_W).flatten)) A) ([.ref (x 0), .int p2, .ref qo] : List Value).toArray s 84 504 A) (F0 m 133 ls [.int s133.1]) := by
              intro s133 H locs ls hP hD hS hl hF
              have hF := (congrFun hj133 s133).symm.trans hF
              refine W.widen (k := 84) (n := 504) (by omega) (by omega) ?_
              exact W.iret (v := s133.1) hx hb hr (fun t ht hW => ⟨⟨_, (s133.2.1, s133.2.2.1, s133.2.2.2.1, s133.2.2.2.2.1, s133.2.2.2.2.2.1, s133.2.2.2.2.2.2.1, s133.2.2.2.2.2.2.2.1, s133.2.2.2.2.2.2.2.2.1, s133.2.2.2.2.2.2.2.2.2), rfl, Option.some.inj hF, by rw [ht]; exact hP, hD⟩, hS.F ht⟩) hS.2.2 dL_act_133
            obtain ⟨j116, hj116, hF⟩ := jn_use hF
            have hJ116 : ∀ (s116 : Unit) (H : Heap) (locs : List Loc) (ls : Array Slot), va_P (dC, dI) vwCl (([[cI cyI qo 1 fo], (cXo x an tr xv), (cH cyO (x 1) (x 2) 2 fl), (cXk cyI x xv), (cH cyO (x 4) (x 5) 6 fs), (cT cyI x (X_text xv)), (cSo an nv), (cG cyI an (S_green nv)), (cV cyI an (S_score nv)), (cS cyI b0 v0), (cS cyI b1 v1), (cS cyI b2 v2), (cS cyI b3 v3), (cS cyI b4 v4), (cS cyI b5 v5)] : List va_W).flatten) H → va_D A (([[cI cyI qo 1 fo], (cXo x an tr xv), (cH cyO (x 1) (x 2) 2 fl), (cXk cyI x xv), (cH cyO (x 4) (x 5) 6 fs), (cT cyI x (X_text xv)), (cSo an nv), (cG cyI an (S_green nv)), (cV cyI an (S_score nv)), (cS cyI b0 v0), (cS cyI b1 v1), (cS cyI b2 v2), (cS cyI b3 v3), (cS cyI b4 v4), (cS cyI b5 v5)] : List va_W).flatten) → va_S A s.heap H locs → lv_has ls 9 [(0, .ref (x 0)), (2, .ref qo), (3, .int (p2 >>> ((5 : Int32) &&& 31)))] → j116 s116 = some out → W p l e (headSpec (Cond.code yL_act cL_act 9 (some .int) :: wT) ({ frames := 9, cells := 84, slots := 504, locals := 158 } : Room)).room s m ([.ref (x 0), .int p2, .ref qo] : List Value).toArray below meth c H locs 0 0 (MQ below (va_Qi (fun (r : Int32) (u : (Nat → Int32) × XV × SV × SV × SV × SV × SV × SV × SV) => (r, u) = out) (fun u t => va_P (dC, dI) vwCl (([[cI cyI qo 1 u.1], (cXo x an tr u.2.1), (cH cyO (x 1) (x 2) 2 fl), (cXk cyI x u.2.1), (cH cyO (x 4) (x 5) 6 fs), (cT cyI x (X_text u.2.1)), (cSo an u.2.2.1), (cG cyI an (S_green u.2.2.1)), (cV cyI an (S_score u.2.2.1)), (cS cyI b0 u.2.2.2.1), (cS cyI b1 u.2.2.2.2.1), (cS cyI b2 u.2.2.2.2.2.1), (cS cyI b3 u.2.2.2.2.2.2.1), (cS cyI b4 u.2.2.2.2.2.2.2.1), (cS cyI b5 u.2.2.2.2.2.2.2.2)] : List va_W).flatten) t.heap ∧ va_D A (([[cI cyI qo 1 u.1], (cXo x an tr u.2.1), (cH cyO (x 1) (x 2) 2 fl), (cXk cyI x u.2.1), (cH cyO (x 4) (x 5) 6 fs), (cT cyI x (X_text u.2.1)), (cSo an u.2.2.1), (cG cyI an (S_green u.2.2.1)), (cV cyI an (S_score u.2.2.1)), (cS cyI b0 u.2.2.2.1), (cS cyI b1 u.2.2.2.2.1), (cS cyI b2 u.2.2.2.2.2.1), (cS cyI b3 u.2.2.2.2.2.2.1), (cS cyI b4 u.2.2.2.2.2.2.2.1), (cS cyI b5 u.2.2.2.2.2.2.2.2)] : List va_W).flatten)) A) ([.ref (x 0), .int p2, .ref qo] : List Value).toArray s 84 504 A) (F0 m 116 ls []) := by
              intro s116 H locs ls hP hD hS hl hF
              have hF := (congrFun hj116 s116).symm.trans hF
              refine lv_aload_n hx hb dL_act_116 rfl (lv_at hl 0 rfl) ?_
              refine lv_iconst (v := 0) hx hb dL_act_117 (by decide) ?_
              refine lv_bipush (v := 20) hx hb dL_act_118 (by decide) ?_
              refine lv_iload_n hx hb dL_act_120 rfl (lv_at hl 2 rfl) ?_
              refine lv_bipush (v := 31) hx hb dL_act_121 (by decide) ?_
              obtain ⟨o77, h78, hF⟩ := obd hF
              refine wcRSi (As := [.int (p2 >>> ((5 : Int32) &&& 31)), .int (31 : Int32)]) (rest := [.int (20 : Int32), .int (0 : Int32), .ref (x 0)]) ⟨hx, hb, hml, hown, hts⟩ (met_L_low l dC dI cyI cyO  N  (p2 >>> ((5 : Int32) &&& 31)) (31 : Int32) o77 h78) (va_cwS 2 hts (gS w_methodLink_L_68 w_static_L_low w_initialized_L w_code_L_low) rfl rfl rfl (by decide +kernel) ⟨Nat.le_of_ble_eq_true rfl, Nat.le_of_ble_eq_true rfl⟩) hP hK [] rfl rfl hl.1 (Nat.le_of_ble_eq_true rfl) dL_act_123 ⟨(show _ ≤ 84 from by omega), (show _ ≤ 504 from by omega)⟩ hS (fun r H locs hw hP hS => ?_)
              have hw := hw.symm
              subst hw
              refine lv_iadd hx hb dL_act_126 ?_
              refine lv_iconst (v := 0) hx hb dL_act_127 (by decide) ?_
              refine lv_iconst (v := 0) hx hb dL_act_128 (by decide) ?_
              refine lv_aload_n hx hb dL_act_129 rfl (lv_at hl 1 rfl) ?_
              obtain ⟨o79, h80, hF⟩ := obd hF
              refine wcLi (As := [.ref (x 0), .int (0 : Int32), .int ((20 : Int32) + o77), .int (0 : Int32), .int (0 : Int32), .ref qo]) (rest := []) (wr := ([] : List va_W).flatten) ⟨hx, hb, hml, hown, hts⟩ (met_L_changes l z0 hst dC dI cyI cyO qo x tr an b0 b1 b2 b3 b4 b5 fl fs _ N fo xv nv v0 v1 v2 v3 v4 v5 (0 : Int32) ((20 : Int32) + o77) (0 : Int32) (0 : Int32) hs0 hs1 hs2 hs3 hs4 hs5 o79 h80) (vx_cwSW 6 hts (gS w_methodLink_L_89 w_static_L_changes w_initialized_L w_codeW_L_changes) rfl rfl rfl (by decide +kernel) ⟨Nat.le_of_ble_eq_true rfl, Nat.le_of_ble_eq_true rfl⟩) hP hD hK hZ hAz hz0 (seg_perm (n := 15) (R := []) (C := [[cI cyI qo 1 fo], (cXo x an tr xv), (cH cyO (x 1) (x 2) 2 fl), (cXk cyI x xv), (cH cyO (x 4) (x 5) 6 fs), (cT cyI x (X_text xv)), (cSo an nv), (cG cyI an (S_green nv)), (cV cyI an (S_score nv)), (cS cyI b0 v0), (cS cyI b1 v1), (cS cyI b2 v2), (cS cyI b3 v3), (cS cyI b4 v4), (cS cyI b5 v5)]) [] [0, 1, 2, 3, 4, 5, 6, 7, 8, 9, 10, 11, 12, 13, 14] rfl rfl rfl (by decide) rfl) rfl hl.1 (Nat.le_of_ble_eq_true rfl) dL_act_130 ⟨(show _ ≤ 84 from by omega), (show _ ≤ 504 from by omega)⟩ hS hA (fun r u H locs hw hP hD hS => ?_)
              obtain rfl : r = o79.1 := congrArg Prod.fst hw
              obtain rfl : u = o79.2 := congrArg Prod.snd hw
              clear hw
              have hq := seg_permS (segs := [[cI cyI qo 1 o79.2.1], (cXo x an tr o79.2.2.1), (cH cyO (x 1) (x 2) 2 fl), (cXk cyI x o79.2.2.1), (cH cyO (x 4) (x 5) 6 fs), (cT cyI x (X_text o79.2.2.1)), (cSo an o79.2.2.2.1), (cG cyI an (S_green o79.2.2.2.1)), (cV cyI an (S_score o79.2.2.2.1)), (cS cyI b0 o79.2.2.2.2.1), (cS cyI b1 o79.2.2.2.2.2.1), (cS cyI b2 o79.2.2.2.2.2.2.1), (cS cyI b3 o79.2.2.2.2.2.2.2.1), (cS cyI b4 o79.2.2.2.2.2.2.2.2.1), (cS cyI b5 o79.2.2.2.2.2.2.2.2.2)]) (R := []) (C := [[cI cyI qo 1 o79.2.1], (cXo x an tr o79.2.2.1), (cH cyO (x 1) (x 2) 2 fl), (cXk cyI x o79.2.2.1), (cH cyO (x 4) (x 5) 6 fs), (cT cyI x (X_text o79.2.2.1)), (cSo an o79.2.2.2.1), (cG cyI an (S_green o79.2.2.2.1)), (cV cyI an (S_score o79.2.2.2.1)), (cS cyI b0 o79.2.2.2.2.1), (cS cyI b1 o79.2.2.2.2.2.1), (cS cyI b2 o79.2.2.2.2.2.2.1), (cS cyI b3 o79.2.2.2.2.2.2.2.1), (cS cyI b4 o79.2.2.2.2.2.2.2.2.1), (cS cyI b5 o79.2.2.2.2.2.2.2.2.2)]) (n := 15) [] [0, 1, 2, 3, 4, 5, 6, 7, 8, 9, 10, 11, 12, 13, 14] rfl rfl rfl (by decide)
              have hP : va_P (dC, dI) vwCl (([[cI cyI qo 1 o79.2.1], (cXo x an tr o79.2.2.1), (cH cyO (x 1) (x 2) 2 fl), (cXk cyI x o79.2.2.1), (cH cyO (x 4) (x 5) 6 fs), (cT cyI x (X_text o79.2.2.1)), (cSo an o79.2.2.2.1), (cG cyI an (S_green o79.2.2.2.1)), (cV cyI an (S_score o79.2.2.2.1)), (cS cyI b0 o79.2.2.2.2.1), (cS cyI b1 o79.2.2.2.2.2.1), (cS cyI b2 o79.2.2.2.2.2.2.1), (cS cyI b3 o79.2.2.2.2.2.2.2.1), (cS cyI b4 o79.2.2.2.2.2.2.2.2.1), (cS cyI b5 o79.2.2.2.2.2.2.2.2.2)] : List va_W).flatten) H := hP.perm hq
              have hD : va_D A (([[cI cyI qo 1 o79.2.1], (cXo x an tr o79.2.2.1), (cH cyO (x 1) (x 2) 2 fl), (cXk cyI x o79.2.2.1), (cH cyO (x 4) (x 5) 6 fs), (cT cyI x (X_text o79.2.2.1)), (cSo an o79.2.2.2.1), (cG cyI an (S_green o79.2.2.2.1)), (cV cyI an (S_score o79.2.2.2.1)), (cS cyI b0 o79.2.2.2.2.1), (cS cyI b1 o79.2.2.2.2.2.1), (cS cyI b2 o79.2.2.2.2.2.2.1), (cS cyI b3 o79.2.2.2.2.2.2.2.1), (cS cyI b4 o79.2.2.2.2.2.2.2.2.1), (cS cyI b5 o79.2.2.2.2.2.2.2.2.2)] : List va_W).flatten) := hD.perm hq
              clear hq
              refine W.widen (k := 12) (n := 72) (by omega) (by omega) ?_
              exact hJ133 (o79.1, o79.2.1, o79.2.2.1, o79.2.2.2.1, o79.2.2.2.2.1, o79.2.2.2.2.2.1, o79.2.2.2.2.2.2.1, o79.2.2.2.2.2.2.2.1, o79.2.2.2.2.2.2.2.2.1, o79.2.2.2.2.2.2.2.2.2) _ _ _ hP hD hS (lv_sub hl [] rfl) hF
            refine lv_if_eq (tgt := 116) hx hb dL_act_88 (by decide) (fun c81 => ?_) (fun c81 => ?_)
            · have hF := itp c81 hF
              refine W.widen (k := 0) (n := 0) (by omega) (by omega) ?_
              exact hJ116 () _ _ _ hP hD hS (lv_sub hl [1, 2, 3] rfl) hF
            · have hF := itn c81 hF
              refine lv_iload_n hx hb dL_act_91 rfl (lv_at hl 3 rfl) ?_
              refine lv_iconst (v := 1) hx hb dL_act_92 (by decide) ?_
              refine lv_iand hx hb dL_act_93 ?_
              refine lv_if_ne (tgt := 116) hx hb dL_act_94 (by decide) (fun c82 => ?_) (fun c82 => ?_)
              · have hF := itn c82 hF
                refine W.widen (k := 0) (n := 0) (by omega) (by omega) ?_
                exact hJ116 () _ _ _ hP hD hS (lv_sub hl [1, 2, 3] rfl) hF
              · have hF := itp c82 hF
                refine lv_aload_n hx hb dL_act_97 rfl (lv_at hl 1 rfl) ?_
                refine lv_iconst (v := 3) hx hb dL_act_98 (by decide) ?_
                refine lv_iconst (v := 1) hx hb dL_act_99 (by decide) ?_
                refine lv_iload_n hx hb dL_act_100 rfl (lv_at hl 3 rfl) ?_
                refine lv_bipush (v := 40) hx hb dL_act_101 (by decide) ?_
                obtain ⟨o83, h84, hF⟩ := obd hF
                refine wcRSi (As := [.int (p2 >>> ((5 : Int32) &&& 31)), .int (40 : Int32)]) (rest := [.int (1 : Int32), .int (3 : Int32), .ref (x 0)]) ⟨hx, hb, hml, hown, hts⟩ (met_L_low l dC dI cyI cyO  N  (p2 >>> ((5 : Int32) &&& 31)) (40 : Int32) o83 h84) (va_cwS 2 hts (gS w_methodLink_L_68 w_static_L_low w_initialized_L w_code_L_low) rfl rfl rfl (by decide +kernel) ⟨Nat.le_of_ble_eq_true rfl, Nat.le_of_ble_eq_true rfl⟩) hP hK [] rfl rfl hl.1 (Nat.le_of_ble_eq_true rfl) dL_act_103 ⟨(show _ ≤ 84 from by omega), (show _ ≤ 504 from by omega)⟩ hS (fun r H locs hw hP hS => ?_)
                have hw := hw.symm
                subst hw
                refine lv_iadd hx hb dL_act_106 ?_
                refine lv_iconst (v := 0) hx hb dL_act_107 (by decide) ?_
                refine lv_iconst (v := 0) hx hb dL_act_108 (by decide) ?_
                refine lv_aload_n hx hb dL_act_109 rfl (lv_at hl 2 rfl) ?_
                obtain ⟨o85, h86, hF⟩ := obd hF
                refine wcLi (As := [.ref (x 0), .int (3 : Int32), .int ((1 : Int32) + o83), .int (0 : Int32), .int (0 : Int32), .ref qo]) (rest := []) (wr := ([] : List va_W).flatten) ⟨hx, hb, hml, hown, hts⟩ (met_L_changes l z0 hst dC dI cyI cyO qo x tr an b0 b1 b2 b3 b4 b5 fl fs _ N fo xv nv v0 v1 v2 v3 v4 v5 (3 : Int32) ((1 : Int32) + o83) (0 : Int32) (0 : Int32) hs0 hs1 hs2 hs3 hs4 hs5 o85 h86) (vx_cwSW 6 hts (gS w_methodLink_L_89 w_static_L_changes w_initialized_L w_codeW_L_changes) rfl rfl rfl (by decide +kernel) ⟨Nat.le_of_ble_eq_true rfl, Nat.le_of_ble_eq_true rfl⟩) hP hD hK hZ hAz hz0 (seg_perm (n := 15) (R := []) (C := [[cI cyI qo 1 fo], (cXo x an tr xv), (cH cyO (x 1) (x 2) 2 fl), (cXk cyI x xv), (cH cyO (x 4) (x 5) 6 fs), (cT cyI x (X_text xv)), (cSo an nv), (cG cyI an (S_green nv)), (cV cyI an (S_score nv)), (cS cyI b0 v0), (cS cyI b1 v1), (cS cyI b2 v2), (cS cyI b3 v3), (cS cyI b4 v4), (cS cyI b5 v5)]) [] [0, 1, 2, 3, 4, 5, 6, 7, 8, 9, 10, 11, 12, 13, 14] rfl rfl rfl (by decide) rfl) rfl hl.1 (Nat.le_of_ble_eq_true rfl) dL_act_110 ⟨(show _ ≤ 84 from by omega), (show _ ≤ 504 from by omega)⟩ hS hA (fun r u H locs hw hP hD hS => ?_)
                obtain rfl : r = o85.1 := congrArg Prod.fst hw
                obtain rfl : u = o85.2 := congrArg Prod.snd hw
                clear hw
                have hq := seg_permS (segs := [[cI cyI qo 1 o85.2.1], (cXo x an tr o85.2.2.1), (cH cyO (x 1) (x 2) 2 fl), (cXk cyI x o85.2.2.1), (cH cyO (x 4) (x 5) 6 fs), (cT cyI x (X_text o85.2.2.1)), (cSo an o85.2.2.2.1), (cG cyI an (S_green o85.2.2.2.1)), (cV cyI an (S_score o85.2.2.2.1)), (cS cyI b0 o85.2.2.2.2.1), (cS cyI b1 o85.2.2.2.2.2.1), (cS cyI b2 o85.2.2.2.2.2.2.1), (cS cyI b3 o85.2.2.2.2.2.2.2.1), (cS cyI b4 o85.2.2.2.2.2.2.2.2.1), (cS cyI b5 o85.2.2.2.2.2.2.2.2.2)]) (R := []) (C := [[cI cyI qo 1 o85.2.1], (cXo x an tr o85.2.2.1), (cH cyO (x 1) (x 2) 2 fl), (cXk cyI x o85.2.2.1), (cH cyO (x 4) (x 5) 6 fs), (cT cyI x (X_text o85.2.2.1)), (cSo an o85.2.2.2.1), (cG cyI an (S_green o85.2.2.2.1)), (cV cyI an (S_score o85.2.2.2.1)), (cS cyI b0 o85.2.2.2.2.1), (cS cyI b1 o85.2.2.2.2.2.1), (cS cyI b2 o85.2.2.2.2.2.2.1), (cS cyI b3 o85.2.2.2.2.2.2.2.1), (cS cyI b4 o85.2.2.2.2.2.2.2.2.1), (cS cyI b5 o85.2.2.2.2.2.2.2.2.2)]) (n := 15) [] [0, 1, 2, 3, 4, 5, 6, 7, 8, 9, 10, 11, 12, 13, 14] rfl rfl rfl (by decide)
                have hP : va_P (dC, dI) vwCl (([[cI cyI qo 1 o85.2.1], (cXo x an tr o85.2.2.1), (cH cyO (x 1) (x 2) 2 fl), (cXk cyI x o85.2.2.1), (cH cyO (x 4) (x 5) 6 fs), (cT cyI x (X_text o85.2.2.1)), (cSo an o85.2.2.2.1), (cG cyI an (S_green o85.2.2.2.1)), (cV cyI an (S_score o85.2.2.2.1)), (cS cyI b0 o85.2.2.2.2.1), (cS cyI b1 o85.2.2.2.2.2.1), (cS cyI b2 o85.2.2.2.2.2.2.1), (cS cyI b3 o85.2.2.2.2.2.2.2.1), (cS cyI b4 o85.2.2.2.2.2.2.2.2.1), (cS cyI b5 o85.2.2.2.2.2.2.2.2.2)] : List va_W).flatten) H := hP.perm hq
                have hD : va_D A (([[cI cyI qo 1 o85.2.1], (cXo x an tr o85.2.2.1), (cH cyO (x 1) (x 2) 2 fl), (cXk cyI x o85.2.2.1), (cH cyO (x 4) (x 5) 6 fs), (cT cyI x (X_text o85.2.2.1)), (cSo an o85.2.2.2.1), (cG cyI an (S_green o85.2.2.2.1)), (cV cyI an (S_score o85.2.2.2.1)), (cS cyI b0 o85.2.2.2.2.1), (cS cyI b1 o85.2.2.2.2.2.1), (cS cyI b2 o85.2.2.2.2.2.2.1), (cS cyI b3 o85.2.2.2.2.2.2.2.1), (cS cyI b4 o85.2.2.2.2.2.2.2.2.1), (cS cyI b5 o85.2.2.2.2.2.2.2.2.2)] : List va_W).flatten) := hD.perm hq
                clear hq
                refine lv_goto (tgt := 133) hx hb dL_act_113 (by decide) ?_
                refine W.widen (k := 12) (n := 72) (by omega) (by omega) ?_
                exact hJ133 (o85.1, o85.2.1, o85.2.2.1, o85.2.2.2.1, o85.2.2.2.2.1, o85.2.2.2.2.2.1, o85.2.2.2.2.2.2.1, o85.2.2.2.2.2.2.2.1, o85.2.2.2.2.2.2.2.2.1, o85.2.2.2.2.2.2.2.2.2) _ _ _ hP hD hS (lv_sub hl [] rfl) hF
      obtain ⟨j69, hj69, hF⟩ := jn_use hF
      have hJ69 : ∀ (s69 : Unit) (H : Heap) (locs : List Loc) (ls : Array Slot), va_P (dC, dI) vwCl (([[cI cyI qo 1 fo], (cXo x an tr xv), (cH cyO (x 1) (x 2) 2 fl), (cXk cyI x xv), (cH cyO (x 4) (x 5) 6 fs), (cT cyI x (X_text xv)), (cSo an nv), (cG cyI an (S_green nv)), (cV cyI an (S_score nv)), (cS cyI b0 v0), (cS cyI b1 v1), (cS cyI b2 v2), (cS cyI b3 v3), (cS cyI b4 v4), (cS cyI b5 v5)] : List va_W).flatten) H → va_D A (([[cI cyI qo 1 fo], (cXo x an tr xv), (cH cyO (x 1) (x 2) 2 fl), (cXk cyI x xv), (cH cyO (x 4) (x 5) 6 fs), (cT cyI x (X_text xv)), (cSo an nv), (cG cyI an (S_green nv)), (cV cyI an (S_score nv)), (cS cyI b0 v0), (cS cyI b1 v1), (cS cyI b2 v2), (cS cyI b3 v3), (cS cyI b4 v4), (cS cyI b5 v5)] : List va_W).flatten) → va_S A s.heap H locs → lv_has ls 9 [(0, .ref (x 0)), (2, .ref qo), (3, .int (p2 >>> ((5 : Int32) &&& 31))), (4, .int s21)] → j69 s69 = some out → W p l e (headSpec (Cond.code yL_act cL_act 9 (some .int) :: wT) ({ frames := 9, cells := 84, slots := 504, locals := 158 } : Room)).room s m ([.ref (x 0), .int p2, .ref qo] : List Value).toArray below meth c H locs 0 0 (MQ below (va_Qi (fun (r : Int32) (u : (Nat → Int32) × XV × SV × SV × SV × SV × SV × SV × SV) => (r, u) = out) (fun u t => va_P (dC, dI) vwCl (([[cI cyI qo 1 u.1], (cXo x an tr u.2.1), (cH cyO (x 1) (x 2) 2 fl), (cXk cyI x u.2.1), (cH cyO (x 4) (x 5) 6 fs), (cT cyI x (X_text u.2.1)), (cSo an u.2.2.1), (cG cyI an (S_green u.2.2.1)), (cV cyI an (S_score u.2.2.1)), (cS cyI b0 u.2.2.2.1), (cS cyI b1 u.2.2.2.2.1), (cS cyI b2 u.2.2.2.2.2.1), (cS cyI b3 u.2.2.2.2.2.2.1), (cS cyI b4 u.2.2.2.2.2.2.2.1), (cS cyI b5 u.2.2.2.2.2.2.2.2)] : List va_W).flatten) t.heap ∧ va_D A (([[cI cyI qo 1 u.1], (cXo x an tr u.2.1), (cH cyO (x 1) (x 2) 2 fl), (cXk cyI x u.2.1), (cH cyO (x 4) (x 5) 6 fs), (cT cyI x (X_text u.2.1)), (cSo an u.2.2.1), (cG cyI an (S_green u.2.2.1)), (cV cyI an (S_score u.2.2.1)), (cS cyI b0 u.2.2.2.1), (cS cyI b1 u.2.2.2.2.1), (cS cyI b2 u.2.2.2.2.2.1), (cS cyI b3 u.2.2.2.2.2.2.1), (cS cyI b4 u.2.2.2.2.2.2.2.1), (cS cyI b5 u.2.2.2.2.2.2.2.2)] : List va_W).flatten)) A) ([.ref (x 0), .int p2, .ref qo] : List Value).toArray s 84 504 A) (F0 m 69 ls []) := by
        intro s69 H locs ls hP hD hS hl hF
        have hF := (congrFun hj69 s69).symm.trans hF
        refine lv_iconst (v := 0) hx hb dL_act_69 (by decide) ?_
        refine W.widen (k := 0) (n := 0) (by omega) (by omega) ?_
        exact hJ70 (0 : Int32) _ _ _ b01_0 hP hD hS (lv_sub hl [0, 1, 2, 3] rfl) hF
      refine lv_if_eq (tgt := 69) hx hb dL_act_42 (by decide) (fun c87 => ?_) (fun c87 => ?_)
      · have hF := itp c87 hF
        refine W.widen (k := 0) (n := 0) (by omega) (by omega) ?_
        exact hJ69 () _ _ _ hP hD hS (lv_sub hl [2, 4, 5, 1] rfl) hF
      · have hF := itn c87 hF
        refine lv_aload_n hx hb dL_act_45 rfl (lv_at hl 2 rfl) ?_
        obtain ⟨o88, h89, hF⟩ := obd hF
        refine wcRVi (As := []) (rest := []) (b := (x 0)) ⟨hx, hb, hml, hown, hts⟩ (met_X5_bowls l dC dI cyI cyO x tr an fl fs N xv nv  o88 h89) (cwV 0 hts (gV w_methodLink_L_77 w_instanceMethod_X5_bowls w_selects_X5_bowls w_initialized_X5 w_code_X5_bowls) rfl rfl rfl (by decide +kernel) ⟨Nat.le_of_ble_eq_true rfl, Nat.le_of_ble_eq_true rfl⟩) (va_recv hK.1 hP (ci := 5) (q0 := 1) rfl rfl) hP hK [1, 2, 3, 4, 5, 6, 7, 8, 9, 10, 11, 12, 13, 14, 15, 16, 17, 18, 19, 20, 21] rfl rfl hl.1 (Nat.le_of_ble_eq_true rfl) dL_act_46 ⟨(show _ ≤ 84 from by omega), (show _ ≤ 504 from by omega)⟩ hS (fun r H locs hw hP hS => ?_)
        have hw := hw.symm
        subst hw
        refine lv_iconst (v := 2) hx hb dL_act_49 (by decide) ?_
        refine lv_aload_n hx hb dL_act_50 rfl (lv_at hl 2 rfl) ?_
        obtain ⟨o90, h91, hF⟩ := obd hF
        refine wcRVi (As := []) (rest := [.int (2 : Int32), .int o88]) (b := (x 0)) ⟨hx, hb, hml, hown, hts⟩ (met_X5_bowlsOfSide l dC dI cyI cyO x tr an fl fs N xv nv  o90 h91) (cwV 0 hts (gV w_methodLink_L_80 w_instanceMethod_X5_bowlsOfSide w_selects_X5_bowlsOfSide w_initialized_X5 w_code_X5_bowlsOfSide) rfl rfl rfl (by decide +kernel) ⟨Nat.le_of_ble_eq_true rfl, Nat.le_of_ble_eq_true rfl⟩) (va_recv hK.1 hP (ci := 5) (q0 := 1) rfl rfl) hP hK [1, 2, 3, 4, 5, 6, 7, 8, 9, 10, 11, 12, 13, 14, 15, 16, 17, 18, 19, 20, 21] rfl rfl hl.1 (Nat.le_of_ble_eq_true rfl) dL_act_51 ⟨(show _ ≤ 84 from by omega), (show _ ≤ 504 from by omega)⟩ hS (fun r H locs hw hP hS => ?_)
        have hw := hw.symm
        subst hw
        refine lv_imul hx hb dL_act_54 ?_
        obtain ⟨j65, hj65, hF⟩ := jn_use hF
        have hJ65 : ∀ (s65 : Unit) (H : Heap) (locs : List Loc) (ls : Array Slot), va_P (dC, dI) vwCl (([[cI cyI qo 1 fo], (cXo x an tr xv), (cH cyO (x 1) (x 2) 2 fl), (cXk cyI x xv), (cH cyO (x 4) (x 5) 6 fs), (cT cyI x (X_text xv)), (cSo an nv), (cG cyI an (S_green nv)), (cV cyI an (S_score nv)), (cS cyI b0 v0), (cS cyI b1 v1), (cS cyI b2 v2), (cS cyI b3 v3), (cS cyI b4 v4), (cS cyI b5 v5)] : List va_W).flatten) H → va_D A (([[cI cyI qo 1 fo], (cXo x an tr xv), (cH cyO (x 1) (x 2) 2 fl), (cXk cyI x xv), (cH cyO (x 4) (x 5) 6 fs), (cT cyI x (X_text xv)), (cSo an nv), (cG cyI an (S_green nv)), (cV cyI an (S_score nv)), (cS cyI b0 v0), (cS cyI b1 v1), (cS cyI b2 v2), (cS cyI b3 v3), (cS cyI b4 v4), (cS cyI b5 v5)] : List va_W).flatten) → va_S A s.heap H locs → lv_has ls 9 [(0, .ref (x 0)), (2, .ref qo), (3, .int (p2 >>> ((5 : Int32) &&& 31))), (4, .int s21)] → j65 s65 = some out → W p l e (headSpec (Cond.code yL_act cL_act 9 (some .int) :: wT) ({ frames := 9, cells := 84, slots := 504, locals := 158 } : Room)).room s m ([.ref (x 0), .int p2, .ref qo] : List Value).toArray below meth c H locs 0 0 (MQ below (va_Qi (fun (r : Int32) (u : (Nat → Int32) × XV × SV × SV × SV × SV × SV × SV × SV) => (r, u) = out) (fun u t => va_P (dC, dI) vwCl (([[cI cyI qo 1 u.1], (cXo x an tr u.2.1), (cH cyO (x 1) (x 2) 2 fl), (cXk cyI x u.2.1), (cH cyO (x 4) (x 5) 6 fs), (cT cyI x (X_text u.2.1)), (cSo an u.2.2.1), (cG cyI an (S_green u.2.2.1)), (cV cyI an (S_score u.2.2.1)), (cS cyI b0 u.2.2.2.1), (cS cyI b1 u.2.2.2.2.1), (cS cyI b2 u.2.2.2.2.2.1), (cS cyI b3 u.2.2.2.2.2.2.1), (cS cyI b4 u.2.2.2.2.2.2.2.1), (cS cyI b5 u.2.2.2.2.2.2.2.2)] : List va_W).flatten) t.heap ∧ va_D A (([[cI cyI qo 1 u.1], (cXo x an tr u.2.1), (cH cyO (x 1) (x 2) 2 fl), (cXk cyI x u.2.1), (cH cyO (x 4) (x 5) 6 fs), (cT cyI x (X_text u.2.1)), (cSo an u.2.2.1), (cG cyI an (S_green u.2.2.1)), (cV cyI an (S_score u.2.2.1)), (cS cyI b0 u.2.2.2.1), (cS cyI b1 u.2.2.2.2.1), (cS cyI b2 u.2.2.2.2.2.1), (cS cyI b3 u.2.2.2.2.2.2.1), (cS cyI b4 u.2.2.2.2.2.2.2.1), (cS cyI b5 u.2.2.2.2.2.2.2.2)] : List va_W).flatten)) A) ([.ref (x 0), .int p2, .ref qo] : List Value).toArray s 84 504 A) (F0 m 65 ls []) := by
          intro s65 H locs ls hP hD hS hl hF
          have hF := (congrFun hj65 s65).symm.trans hF
          refine lv_iconst (v := 1) hx hb dL_act_65 (by decide) ?_
          refine lv_goto (tgt := 70) hx hb dL_act_66 (by decide) ?_
          refine W.widen (k := 0) (n := 0) (by omega) (by omega) ?_
          exact hJ70 (1 : Int32) _ _ _ b01_1 hP hD hS (lv_sub hl [0, 1, 2, 3] rfl) hF
        refine lv_icmp_eq (tgt := 65) hx hb dL_act_55 (by decide) (fun c92 => ?_) (fun c92 => ?_)
        · have hF := itp c92 hF
          refine W.widen (k := 0) (n := 0) (by omega) (by omega) ?_
          exact hJ65 () _ _ _ hP hD hS (lv_sub hl [2, 4, 5, 1] rfl) hF
        · have hF := itn c92 hF
          refine lv_aload_n hx hb dL_act_58 rfl (lv_at hl 2 rfl) ?_
          obtain ⟨o93, h94, hF⟩ := obd hF
          refine wcRVi (As := []) (rest := []) (b := (x 0)) ⟨hx, hb, hml, hown, hts⟩ (met_X5_isBurnt l dC dI cyI cyO x tr an fl fs N xv nv  o93 h94) (cwV 0 hts (gV w_methodLink_L_83 w_instanceMethod_X5_isBurnt w_selects_X5_isBurnt w_initialized_X5 w_code_X5_isBurnt) rfl rfl rfl (by decide +kernel) ⟨Nat.le_of_ble_eq_true rfl, Nat.le_of_ble_eq_true rfl⟩) (va_recv hK.1 hP (ci := 5) (q0 := 1) rfl rfl) hP hK [1, 2, 3, 4, 5, 6, 7, 8, 9, 10, 11, 12, 13, 14, 15, 16, 17, 18, 19, 20, 21] rfl rfl hl.1 (Nat.le_of_ble_eq_true rfl) dL_act_59 ⟨(show _ ≤ 84 from by omega), (show _ ≤ 504 from by omega)⟩ hS (fun r H locs hw hP hS => ?_)
          obtain ⟨hw, hz95⟩ := hw
          have hw := hw.symm
          subst hw
          refine lv_if_eq (tgt := 69) hx hb dL_act_62 (by decide) (fun c96 => ?_) (fun c96 => ?_)
          · have hF := itp c96 hF
            refine W.widen (k := 0) (n := 0) (by omega) (by omega) ?_
            exact hJ69 () _ _ _ hP hD hS (lv_sub hl [2, 4, 5, 1] rfl) hF
          · have hF := itn c96 hF
            refine W.widen (k := 0) (n := 0) (by omega) (by omega) ?_
            exact hJ65 () _ _ _ hP hD hS (lv_sub hl [2, 4, 5, 1] rfl) hF
  refine lv_if_le (tgt := 20) hx hb dL_act_13 (by decide) (fun c97 => ?_) (fun c97 => ?_)
  · have hF := itp c97 hF
    refine lv_iconst (v := 0) hx hb dL_act_20 (by decide) ?_
    refine W.widen (k := 0) (n := 0) (by omega) (by omega) ?_
    exact hJ21 (0 : Int32) _ _ _ b01_0 hP hD hS (lv_sub hl [1, 2, 3, 0] rfl) hF
  · have hF := itn c97 hF
    refine lv_iconst (v := 1) hx hb dL_act_16 (by decide) ?_
    refine lv_goto (tgt := 21) hx hb dL_act_17 (by decide) ?_
    refine W.widen (k := 0) (n := 0) (by omega) (by omega) ?_
    exact hJ21 (1 : Int32) _ _ _ b01_1 hP hD hS (lv_sub hl [1, 2, 3, 0] rfl) hF
