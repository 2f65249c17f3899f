/-! written by program from the bytecode: what each method computes, and its contract -/

theorem dX6_digest_0 : decode cX6_digest 0 = .ok (.aload_n 0, 1) := by decide +kernel
theorem dX6_digest_1 : decode cX6_digest 1 = .ok (.iconst 0, 1) := by decide +kernel
theorem dX6_digest_2 : decode cX6_digest 2 = .ok (.putfield 31, 3) := by decide +kernel
theorem dX6_digest_5 : decode cX6_digest 5 = .ok (.aload_n 0, 1) := by decide +kernel
theorem dX6_digest_6 : decode cX6_digest 6 = .ok (.ldc2_w 257, 3) := by decide +kernel
theorem dX6_digest_9 : decode cX6_digest 9 = .ok (.putfield 241, 3) := by decide +kernel
theorem dX6_digest_12 : decode cX6_digest 12 = .ok (.aload_n 0, 1) := by decide +kernel
theorem dX6_digest_13 : decode cX6_digest 13 = .ok (.aload_n 0, 1) := by decide +kernel
theorem dX6_digest_14 : decode cX6_digest 14 = .ok (.getfield 7, 3) := by decide +kernel
theorem dX6_digest_17 : decode cX6_digest 17 = .ok (.iconst 0, 1) := by decide +kernel
theorem dX6_digest_18 : decode cX6_digest 18 = .ok (.iaload, 1) := by decide +kernel
theorem dX6_digest_19 : decode cX6_digest 19 = .ok (.i2l, 1) := by decide +kernel
theorem dX6_digest_20 : decode cX6_digest 20 = .ok (.invokevirtual 251, 3) := by decide +kernel
theorem dX6_digest_23 : decode cX6_digest 23 = .ok (.aload_n 0, 1) := by decide +kernel
theorem dX6_digest_24 : decode cX6_digest 24 = .ok (.aload_n 0, 1) := by decide +kernel
theorem dX6_digest_25 : decode cX6_digest 25 = .ok (.getfield 7, 3) := by decide +kernel
theorem dX6_digest_28 : decode cX6_digest 28 = .ok (.iconst 0, 1) := by decide +kernel
theorem dX6_digest_29 : decode cX6_digest 29 = .ok (.iaload, 1) := by decide +kernel
theorem dX6_digest_30 : decode cX6_digest 30 = .ok (.iconst 1, 1) := by decide +kernel
theorem dX6_digest_31 : decode cX6_digest 31 = .ok (.if_icmp .ne 25, 3) := by decide +kernel
theorem dX6_digest_34 : decode cX6_digest 34 = .ok (.bipush 21, 2) := by decide +kernel
theorem dX6_digest_36 : decode cX6_digest 36 = .ok (.aload_n 0, 1) := by decide +kernel
theorem dX6_digest_37 : decode cX6_digest 37 = .ok (.getfield 7, 3) := by decide +kernel
theorem dX6_digest_40 : decode cX6_digest 40 = .ok (.iconst 1, 1) := by decide +kernel
theorem dX6_digest_41 : decode cX6_digest 41 = .ok (.iaload, 1) := by decide +kernel
theorem dX6_digest_42 : decode cX6_digest 42 = .ok (.imul, 1) := by decide +kernel
theorem dX6_digest_43 : decode cX6_digest 43 = .ok (.aload_n 0, 1) := by decide +kernel
theorem dX6_digest_44 : decode cX6_digest 44 = .ok (.getfield 7, 3) := by decide +kernel
theorem dX6_digest_47 : decode cX6_digest 47 = .ok (.iconst 2, 1) := by decide +kernel
theorem dX6_digest_48 : decode cX6_digest 48 = .ok (.iaload, 1) := by decide +kernel
theorem dX6_digest_49 : decode cX6_digest 49 = .ok (.iadd, 1) := by decide +kernel
theorem dX6_digest_50 : decode cX6_digest 50 = .ok (.iconst 1, 1) := by decide +kernel
theorem dX6_digest_51 : decode cX6_digest 51 = .ok (.iadd, 1) := by decide +kernel
theorem dX6_digest_52 : decode cX6_digest 52 = .ok (.i2l, 1) := by decide +kernel
theorem dX6_digest_53 : decode cX6_digest 53 = .ok (.goto 4, 3) := by decide +kernel
theorem dX6_digest_56 : decode cX6_digest 56 = .ok (.lconst 0, 1) := by decide +kernel
theorem dX6_digest_57 : decode cX6_digest 57 = .ok (.invokevirtual 251, 3) := by decide +kernel
theorem dX6_digest_60 : decode cX6_digest 60 = .ok (.aload_n 0, 1) := by decide +kernel
theorem dX6_digest_61 : decode cX6_digest 61 = .ok (.aload_n 0, 1) := by decide +kernel
theorem dX6_digest_62 : decode cX6_digest 62 = .ok (.invokevirtual 67, 3) := by decide +kernel
theorem dX6_digest_65 : decode cX6_digest 65 = .ok (.ifCond .eq 7, 3) := by decide +kernel
theorem dX6_digest_68 : decode cX6_digest 68 = .ok (.lconst 1, 1) := by decide +kernel
theorem dX6_digest_69 : decode cX6_digest 69 = .ok (.goto 4, 3) := by decide +kernel
theorem dX6_digest_72 : decode cX6_digest 72 = .ok (.lconst 0, 1) := by decide +kernel
theorem dX6_digest_73 : decode cX6_digest 73 = .ok (.invokevirtual 251, 3) := by decide +kernel
theorem dX6_digest_76 : decode cX6_digest 76 = .ok (.aload_n 0, 1) := by decide +kernel
theorem dX6_digest_77 : decode cX6_digest 77 = .ok (.aload_n 0, 1) := by decide +kernel
theorem dX6_digest_78 : decode cX6_digest 78 = .ok (.getfield 7, 3) := by decide +kernel
theorem dX6_digest_81 : decode cX6_digest 81 = .ok (.iconst 3, 1) := by decide +kernel
theorem dX6_digest_82 : decode cX6_digest 82 = .ok (.iaload, 1) := by decide +kernel
theorem dX6_digest_83 : decode cX6_digest 83 = .ok (.i2l, 1) := by decide +kernel
theorem dX6_digest_84 : decode cX6_digest 84 = .ok (.invokevirtual 251, 3) := by decide +kernel
theorem dX6_digest_87 : decode cX6_digest 87 = .ok (.aload_n 0, 1) := by decide +kernel
theorem dX6_digest_88 : decode cX6_digest 88 = .ok (.aload_n 0, 1) := by decide +kernel
theorem dX6_digest_89 : decode cX6_digest 89 = .ok (.getfield 7, 3) := by decide +kernel
theorem dX6_digest_92 : decode cX6_digest 92 = .ok (.bipush 60, 2) := by decide +kernel
theorem dX6_digest_94 : decode cX6_digest 94 = .ok (.iaload, 1) := by decide +kernel
theorem dX6_digest_95 : decode cX6_digest 95 = .ok (.i2l, 1) := by decide +kernel
theorem dX6_digest_96 : decode cX6_digest 96 = .ok (.invokevirtual 251, 3) := by decide +kernel
theorem dX6_digest_99 : decode cX6_digest 99 = .ok (.aload_n 0, 1) := by decide +kernel
theorem dX6_digest_100 : decode cX6_digest 100 = .ok (.aload_n 0, 1) := by decide +kernel
theorem dX6_digest_101 : decode cX6_digest 101 = .ok (.invokevirtual 120, 3) := by decide +kernel
theorem dX6_digest_104 : decode cX6_digest 104 = .ok (.ifCond .eq 19, 3) := by decide +kernel
theorem dX6_digest_107 : decode cX6_digest 107 = .ok (.aload_n 0, 1) := by decide +kernel
theorem dX6_digest_108 : decode cX6_digest 108 = .ok (.aload_n 0, 1) := by decide +kernel
theorem dX6_digest_109 : decode cX6_digest 109 = .ok (.getfield 7, 3) := by decide +kernel
theorem dX6_digest_112 : decode cX6_digest 112 = .ok (.iconst 3, 1) := by decide +kernel
theorem dX6_digest_113 : decode cX6_digest 113 = .ok (.iaload, 1) := by decide +kernel
theorem dX6_digest_114 : decode cX6_digest 114 = .ok (.invokevirtual 88, 3) := by decide +kernel
theorem dX6_digest_117 : decode cX6_digest 117 = .ok (.i2l, 1) := by decide +kernel
theorem dX6_digest_118 : decode cX6_digest 118 = .ok (.lconst 1, 1) := by decide +kernel
theorem dX6_digest_119 : decode cX6_digest 119 = .ok (.ladd, 1) := by decide +kernel
theorem dX6_digest_120 : decode cX6_digest 120 = .ok (.goto 4, 3) := by decide +kernel
theorem dX6_digest_123 : decode cX6_digest 123 = .ok (.lconst 0, 1) := by decide +kernel
theorem dX6_digest_124 : decode cX6_digest 124 = .ok (.invokevirtual 251, 3) := by decide +kernel
theorem dX6_digest_127 : decode cX6_digest 127 = .ok (.aload_n 0, 1) := by decide +kernel
theorem dX6_digest_128 : decode cX6_digest 128 = .ok (.invokevirtual 259, 3) := by decide +kernel
theorem dX6_digest_131 : decode cX6_digest 131 = .ok (.aload_n 0, 1) := by decide +kernel
theorem dX6_digest_132 : decode cX6_digest 132 = .ok (.aload_n 0, 1) := by decide +kernel
theorem dX6_digest_133 : decode cX6_digest 133 = .ok (.iconst 3, 1) := by decide +kernel
theorem dX6_digest_134 : decode cX6_digest 134 = .ok (.iconst (-1), 1) := by decide +kernel
theorem dX6_digest_135 : decode cX6_digest 135 = .ok (.bipush 40, 2) := by decide +kernel
theorem dX6_digest_137 : decode cX6_digest 137 = .ok (.invokevirtual 216, 3) := by decide +kernel
theorem dX6_digest_140 : decode cX6_digest 140 = .ok (.i2l, 1) := by decide +kernel
theorem dX6_digest_141 : decode cX6_digest 141 = .ok (.invokevirtual 251, 3) := by decide +kernel
theorem dX6_digest_144 : decode cX6_digest 144 = .ok (.aload_n 0, 1) := by decide +kernel
theorem dX6_digest_145 : decode cX6_digest 145 = .ok (.aload_n 0, 1) := by decide +kernel
theorem dX6_digest_146 : decode cX6_digest 146 = .ok (.iconst 3, 1) := by decide +kernel
theorem dX6_digest_147 : decode cX6_digest 147 = .ok (.iconst (-1), 1) := by decide +kernel
theorem dX6_digest_148 : decode cX6_digest 148 = .ok (.bipush 40, 2) := by decide +kernel
theorem dX6_digest_150 : decode cX6_digest 150 = .ok (.invokevirtual 216, 3) := by decide +kernel
theorem dX6_digest_153 : decode cX6_digest 153 = .ok (.i2l, 1) := by decide +kernel
theorem dX6_digest_154 : decode cX6_digest 154 = .ok (.invokevirtual 251, 3) := by decide +kernel
theorem dX6_digest_157 : decode cX6_digest 157 = .ok (.aload_n 0, 1) := by decide +kernel
theorem dX6_digest_158 : decode cX6_digest 158 = .ok (.aload_n 0, 1) := by decide +kernel
theorem dX6_digest_159 : decode cX6_digest 159 = .ok (.getfield 7, 3) := by decide +kernel
theorem dX6_digest_162 : decode cX6_digest 162 = .ok (.bipush 65, 2) := by decide +kernel
theorem dX6_digest_164 : decode cX6_digest 164 = .ok (.iaload, 1) := by decide +kernel
theorem dX6_digest_165 : decode cX6_digest 165 = .ok (.i2l, 1) := by decide +kernel
theorem dX6_digest_166 : decode cX6_digest 166 = .ok (.invokevirtual 251, 3) := by decide +kernel
theorem dX6_digest_169 : decode cX6_digest 169 = .ok (.aload_n 0, 1) := by decide +kernel
theorem dX6_digest_170 : decode cX6_digest 170 = .ok (.aload_n 0, 1) := by decide +kernel
theorem dX6_digest_171 : decode cX6_digest 171 = .ok (.getfield 7, 3) := by decide +kernel
theorem dX6_digest_174 : decode cX6_digest 174 = .ok (.bipush 66, 2) := by decide +kernel
theorem dX6_digest_176 : decode cX6_digest 176 = .ok (.iaload, 1) := by decide +kernel
theorem dX6_digest_177 : decode cX6_digest 177 = .ok (.i2l, 1) := by decide +kernel
theorem dX6_digest_178 : decode cX6_digest 178 = .ok (.invokevirtual 251, 3) := by decide +kernel
theorem dX6_digest_181 : decode cX6_digest 181 = .ok (.aload_n 0, 1) := by decide +kernel
theorem dX6_digest_182 : decode cX6_digest 182 = .ok (.aload_n 0, 1) := by decide +kernel
theorem dX6_digest_183 : decode cX6_digest 183 = .ok (.getfield 7, 3) := by decide +kernel
theorem dX6_digest_186 : decode cX6_digest 186 = .ok (.bipush 67, 2) := by decide +kernel
theorem dX6_digest_188 : decode cX6_digest 188 = .ok (.iaload, 1) := by decide +kernel
theorem dX6_digest_189 : decode cX6_digest 189 = .ok (.i2l, 1) := by decide +kernel
theorem dX6_digest_190 : decode cX6_digest 190 = .ok (.invokevirtual 251, 3) := by decide +kernel
theorem dX6_digest_193 : decode cX6_digest 193 = .ok (.aload_n 0, 1) := by decide +kernel
theorem dX6_digest_194 : decode cX6_digest 194 = .ok (.aload_n 0, 1) := by decide +kernel
theorem dX6_digest_195 : decode cX6_digest 195 = .ok (.invokevirtual 91, 3) := by decide +kernel
theorem dX6_digest_198 : decode cX6_digest 198 = .ok (.ifCond .eq 7, 3) := by decide +kernel
theorem dX6_digest_201 : decode cX6_digest 201 = .ok (.lconst 1, 1) := by decide +kernel
theorem dX6_digest_202 : decode cX6_digest 202 = .ok (.goto 4, 3) := by decide +kernel
theorem dX6_digest_205 : decode cX6_digest 205 = .ok (.lconst 0, 1) := by decide +kernel
theorem dX6_digest_206 : decode cX6_digest 206 = .ok (.invokevirtual 251, 3) := by decide +kernel
theorem dX6_digest_209 : decode cX6_digest 209 = .ok (.aload_n 0, 1) := by decide +kernel
theorem dX6_digest_210 : decode cX6_digest 210 = .ok (.aload_n 0, 1) := by decide +kernel
theorem dX6_digest_211 : decode cX6_digest 211 = .ok (.getfield 7, 3) := by decide +kernel
theorem dX6_digest_214 : decode cX6_digest 214 = .ok (.bipush 68, 2) := by decide +kernel
theorem dX6_digest_216 : decode cX6_digest 216 = .ok (.iaload, 1) := by decide +kernel
theorem dX6_digest_217 : decode cX6_digest 217 = .ok (.i2l, 1) := by decide +kernel
theorem dX6_digest_218 : decode cX6_digest 218 = .ok (.invokevirtual 251, 3) := by decide +kernel
theorem dX6_digest_221 : decode cX6_digest 221 = .ok (.aload_n 0, 1) := by decide +kernel
theorem dX6_digest_222 : decode cX6_digest 222 = .ok (.aload_n 0, 1) := by decide +kernel
theorem dX6_digest_223 : decode cX6_digest 223 = .ok (.getfield 7, 3) := by decide +kernel
theorem dX6_digest_226 : decode cX6_digest 226 = .ok (.bipush 69, 2) := by decide +kernel
theorem dX6_digest_228 : decode cX6_digest 228 = .ok (.iaload, 1) := by decide +kernel
theorem dX6_digest_229 : decode cX6_digest 229 = .ok (.i2l, 1) := by decide +kernel
theorem dX6_digest_230 : decode cX6_digest 230 = .ok (.invokevirtual 251, 3) := by decide +kernel
theorem dX6_digest_233 : decode cX6_digest 233 = .ok (.aload_n 0, 1) := by decide +kernel
theorem dX6_digest_234 : decode cX6_digest 234 = .ok (.aload_n 0, 1) := by decide +kernel
theorem dX6_digest_235 : decode cX6_digest 235 = .ok (.getfield 7, 3) := by decide +kernel
theorem dX6_digest_238 : decode cX6_digest 238 = .ok (.bipush 70, 2) := by decide +kernel
theorem dX6_digest_240 : decode cX6_digest 240 = .ok (.iaload, 1) := by decide +kernel
theorem dX6_digest_241 : decode cX6_digest 241 = .ok (.i2l, 1) := by decide +kernel
theorem dX6_digest_242 : decode cX6_digest 242 = .ok (.invokevirtual 251, 3) := by decide +kernel
theorem dX6_digest_245 : decode cX6_digest 245 = .ok (.iconst 0, 1) := by decide +kernel
theorem dX6_digest_246 : decode cX6_digest 246 = .ok (.istore_n 1, 1) := by decide +kernel
theorem dX6_digest_247 : decode cX6_digest 247 = .ok (.iload_n 1, 1) := by decide +kernel
theorem dX6_digest_248 : decode cX6_digest 248 = .ok (.aload_n 0, 1) := by decide +kernel
theorem dX6_digest_249 : decode cX6_digest 249 = .ok (.getfield 7, 3) := by decide +kernel
theorem dX6_digest_252 : decode cX6_digest 252 = .ok (.bipush 70, 2) := by decide +kernel
theorem dX6_digest_254 : decode cX6_digest 254 = .ok (.iaload, 1) := by decide +kernel
theorem dX6_digest_255 : decode cX6_digest 255 = .ok (.if_icmp .ge 23, 3) := by decide +kernel
theorem dX6_digest_258 : decode cX6_digest 258 = .ok (.aload_n 0, 1) := by decide +kernel
theorem dX6_digest_259 : decode cX6_digest 259 = .ok (.aload_n 0, 1) := by decide +kernel
theorem dX6_digest_260 : decode cX6_digest 260 = .ok (.getfield 7, 3) := by decide +kernel
theorem dX6_digest_263 : decode cX6_digest 263 = .ok (.bipush 71, 2) := by decide +kernel
theorem dX6_digest_265 : decode cX6_digest 265 = .ok (.iload_n 1, 1) := by decide +kernel
theorem dX6_digest_266 : decode cX6_digest 266 = .ok (.iadd, 1) := by decide +kernel
theorem dX6_digest_267 : decode cX6_digest 267 = .ok (.iaload, 1) := by decide +kernel
theorem dX6_digest_268 : decode cX6_digest 268 = .ok (.i2l, 1) := by decide +kernel
theorem dX6_digest_269 : decode cX6_digest 269 = .ok (.invokevirtual 251, 3) := by decide +kernel
theorem dX6_digest_272 : decode cX6_digest 272 = .ok (.iinc 1 1, 3) := by decide +kernel
theorem dX6_digest_275 : decode cX6_digest 275 = .ok (.goto (-28), 3) := by decide +kernel
theorem dX6_digest_278 : decode cX6_digest 278 = .ok (.iconst 0, 1) := by decide +kernel
theorem dX6_digest_279 : decode cX6_digest 279 = .ok (.istore_n 1, 1) := by decide +kernel
theorem dX6_digest_280 : decode cX6_digest 280 = .ok (.iload_n 1, 1) := by decide +kernel
theorem dX6_digest_281 : decode cX6_digest 281 = .ok (.bipush 17, 2) := by decide +kernel
theorem dX6_digest_283 : decode cX6_digest 283 = .ok (.if_icmp .ge 23, 3) := by decide +kernel
theorem dX6_digest_286 : decode cX6_digest 286 = .ok (.aload_n 0, 1) := by decide +kernel
theorem dX6_digest_287 : decode cX6_digest 287 = .ok (.aload_n 0, 1) := by decide +kernel
theorem dX6_digest_288 : decode cX6_digest 288 = .ok (.getfield 7, 3) := by decide +kernel
theorem dX6_digest_291 : decode cX6_digest 291 = .ok (.bipush 83, 2) := by decide +kernel
theorem dX6_digest_293 : decode cX6_digest 293 = .ok (.iload_n 1, 1) := by decide +kernel
theorem dX6_digest_294 : decode cX6_digest 294 = .ok (.iadd, 1) := by decide +kernel
theorem dX6_digest_295 : decode cX6_digest 295 = .ok (.iaload, 1) := by decide +kernel
theorem dX6_digest_296 : decode cX6_digest 296 = .ok (.i2l, 1) := by decide +kernel
theorem dX6_digest_297 : decode cX6_digest 297 = .ok (.invokevirtual 251, 3) := by decide +kernel
theorem dX6_digest_300 : decode cX6_digest 300 = .ok (.iinc 1 1, 3) := by decide +kernel
theorem dX6_digest_303 : decode cX6_digest 303 = .ok (.goto (-23), 3) := by decide +kernel
theorem dX6_digest_306 : decode cX6_digest 306 = .ok (.aload_n 0, 1) := by decide +kernel
theorem dX6_digest_307 : decode cX6_digest 307 = .ok (.aload_n 0, 1) := by decide +kernel
theorem dX6_digest_308 : decode cX6_digest 308 = .ok (.invokevirtual 232, 3) := by decide +kernel
theorem dX6_digest_311 : decode cX6_digest 311 = .ok (.i2l, 1) := by decide +kernel
theorem dX6_digest_312 : decode cX6_digest 312 = .ok (.invokevirtual 251, 3) := by decide +kernel
theorem dX6_digest_315 : decode cX6_digest 315 = .ok (.aload_n 0, 1) := by decide +kernel
theorem dX6_digest_316 : decode cX6_digest 316 = .ok (.aload_n 0, 1) := by decide +kernel
theorem dX6_digest_317 : decode cX6_digest 317 = .ok (.getfield 7, 3) := by decide +kernel
theorem dX6_digest_320 : decode cX6_digest 320 = .ok (.bipush 100, 2) := by decide +kernel
theorem dX6_digest_322 : decode cX6_digest 322 = .ok (.iaload, 1) := by decide +kernel
theorem dX6_digest_323 : decode cX6_digest 323 = .ok (.i2l, 1) := by decide +kernel
theorem dX6_digest_324 : decode cX6_digest 324 = .ok (.invokevirtual 251, 3) := by decide +kernel
theorem dX6_digest_327 : decode cX6_digest 327 = .ok (.aload_n 0, 1) := by decide +kernel
theorem dX6_digest_328 : decode cX6_digest 328 = .ok (.aload_n 0, 1) := by decide +kernel
theorem dX6_digest_329 : decode cX6_digest 329 = .ok (.getfield 7, 3) := by decide +kernel
theorem dX6_digest_332 : decode cX6_digest 332 = .ok (.bipush 101, 2) := by decide +kernel
theorem dX6_digest_334 : decode cX6_digest 334 = .ok (.iaload, 1) := by decide +kernel
theorem dX6_digest_335 : decode cX6_digest 335 = .ok (.i2l, 1) := by decide +kernel
theorem dX6_digest_336 : decode cX6_digest 336 = .ok (.invokevirtual 251, 3) := by decide +kernel
theorem dX6_digest_339 : decode cX6_digest 339 = .ok (.aload_n 0, 1) := by decide +kernel
theorem dX6_digest_340 : decode cX6_digest 340 = .ok (.aload_n 0, 1) := by decide +kernel
theorem dX6_digest_341 : decode cX6_digest 341 = .ok (.getfield 7, 3) := by decide +kernel
theorem dX6_digest_344 : decode cX6_digest 344 = .ok (.bipush 102, 2) := by decide +kernel
theorem dX6_digest_346 : decode cX6_digest 346 = .ok (.iaload, 1) := by decide +kernel
theorem dX6_digest_347 : decode cX6_digest 347 = .ok (.i2l, 1) := by decide +kernel
theorem dX6_digest_348 : decode cX6_digest 348 = .ok (.invokevirtual 251, 3) := by decide +kernel
theorem dX6_digest_351 : decode cX6_digest 351 = .ok (.aload_n 0, 1) := by decide +kernel
theorem dX6_digest_352 : decode cX6_digest 352 = .ok (.aload_n 0, 1) := by decide +kernel
theorem dX6_digest_353 : decode cX6_digest 353 = .ok (.getfield 7, 3) := by decide +kernel
theorem dX6_digest_356 : decode cX6_digest 356 = .ok (.bipush 61, 2) := by decide +kernel
theorem dX6_digest_358 : decode cX6_digest 358 = .ok (.iaload, 1) := by decide +kernel
theorem dX6_digest_359 : decode cX6_digest 359 = .ok (.i2l, 1) := by decide +kernel
theorem dX6_digest_360 : decode cX6_digest 360 = .ok (.invokevirtual 251, 3) := by decide +kernel
theorem dX6_digest_363 : decode cX6_digest 363 = .ok (.aload_n 0, 1) := by decide +kernel
theorem dX6_digest_364 : decode cX6_digest 364 = .ok (.aload_n 0, 1) := by decide +kernel
theorem dX6_digest_365 : decode cX6_digest 365 = .ok (.getfield 7, 3) := by decide +kernel
theorem dX6_digest_368 : decode cX6_digest 368 = .ok (.bipush 62, 2) := by decide +kernel
theorem dX6_digest_370 : decode cX6_digest 370 = .ok (.iaload, 1) := by decide +kernel
theorem dX6_digest_371 : decode cX6_digest 371 = .ok (.i2l, 1) := by decide +kernel
theorem dX6_digest_372 : decode cX6_digest 372 = .ok (.invokevirtual 251, 3) := by decide +kernel
theorem dX6_digest_375 : decode cX6_digest 375 = .ok (.aload_n 0, 1) := by decide +kernel
theorem dX6_digest_376 : decode cX6_digest 376 = .ok (.aload_n 0, 1) := by decide +kernel
theorem dX6_digest_377 : decode cX6_digest 377 = .ok (.getfield 7, 3) := by decide +kernel
theorem dX6_digest_380 : decode cX6_digest 380 = .ok (.bipush 63, 2) := by decide +kernel
theorem dX6_digest_382 : decode cX6_digest 382 = .ok (.iaload, 1) := by decide +kernel
theorem dX6_digest_383 : decode cX6_digest 383 = .ok (.i2l, 1) := by decide +kernel
theorem dX6_digest_384 : decode cX6_digest 384 = .ok (.invokevirtual 251, 3) := by decide +kernel
theorem dX6_digest_387 : decode cX6_digest 387 = .ok (.aload_n 0, 1) := by decide +kernel
theorem dX6_digest_388 : decode cX6_digest 388 = .ok (.aload_n 0, 1) := by decide +kernel
theorem dX6_digest_389 : decode cX6_digest 389 = .ok (.getfield 7, 3) := by decide +kernel
theorem dX6_digest_392 : decode cX6_digest 392 = .ok (.bipush 64, 2) := by decide +kernel
theorem dX6_digest_394 : decode cX6_digest 394 = .ok (.iaload, 1) := by decide +kernel
theorem dX6_digest_395 : decode cX6_digest 395 = .ok (.i2l, 1) := by decide +kernel
theorem dX6_digest_396 : decode cX6_digest 396 = .ok (.invokevirtual 251, 3) := by decide +kernel
theorem dX6_digest_399 : decode cX6_digest 399 = .ok (.aload_n 0, 1) := by decide +kernel
theorem dX6_digest_400 : decode cX6_digest 400 = .ok (.aload_n 0, 1) := by decide +kernel
theorem dX6_digest_401 : decode cX6_digest 401 = .ok (.getfield 39, 3) := by decide +kernel
theorem dX6_digest_404 : decode cX6_digest 404 = .ok (.i2l, 1) := by decide +kernel
theorem dX6_digest_405 : decode cX6_digest 405 = .ok (.invokevirtual 251, 3) := by decide +kernel
theorem dX6_digest_408 : decode cX6_digest 408 = .ok (.aload_n 0, 1) := by decide +kernel
theorem dX6_digest_409 : decode cX6_digest 409 = .ok (.aload_n 0, 1) := by decide +kernel
theorem dX6_digest_410 : decode cX6_digest 410 = .ok (.invokevirtual 235, 3) := by decide +kernel
theorem dX6_digest_413 : decode cX6_digest 413 = .ok (.invokestatic 262, 3) := by decide +kernel
theorem dX6_digest_416 : decode cX6_digest 416 = .ok (.invokevirtual 251, 3) := by decide +kernel
theorem dX6_digest_419 : decode cX6_digest 419 = .ok (.aload_n 0, 1) := by decide +kernel
theorem dX6_digest_420 : decode cX6_digest 420 = .ok (.aload_n 0, 1) := by decide +kernel
theorem dX6_digest_421 : decode cX6_digest 421 = .ok (.getfield 192, 3) := by decide +kernel
theorem dX6_digest_424 : decode cX6_digest 424 = .ok (.iconst 1, 1) := by decide +kernel
theorem dX6_digest_425 : decode cX6_digest 425 = .ok (.iand, 1) := by decide +kernel
theorem dX6_digest_426 : decode cX6_digest 426 = .ok (.i2l, 1) := by decide +kernel
theorem dX6_digest_427 : decode cX6_digest 427 = .ok (.invokevirtual 251, 3) := by decide +kernel
theorem dX6_digest_430 : decode cX6_digest 430 = .ok (.aload_n 0, 1) := by decide +kernel
theorem dX6_digest_431 : decode cX6_digest 431 = .ok (.aload_n 0, 1) := by decide +kernel
theorem dX6_digest_432 : decode cX6_digest 432 = .ok (.getfield 192, 3) := by decide +kernel
theorem dX6_digest_435 : decode cX6_digest 435 = .ok (.iconst 1, 1) := by decide +kernel
theorem dX6_digest_436 : decode cX6_digest 436 = .ok (.ishr, 1) := by decide +kernel
theorem dX6_digest_437 : decode cX6_digest 437 = .ok (.iconst 1, 1) := by decide +kernel
theorem dX6_digest_438 : decode cX6_digest 438 = .ok (.iand, 1) := by decide +kernel
theorem dX6_digest_439 : decode cX6_digest 439 = .ok (.i2l, 1) := by decide +kernel
theorem dX6_digest_440 : decode cX6_digest 440 = .ok (.invokevirtual 251, 3) := by decide +kernel
theorem dX6_digest_443 : decode cX6_digest 443 = .ok (.aload_n 0, 1) := by decide +kernel
theorem dX6_digest_444 : decode cX6_digest 444 = .ok (.aload_n 0, 1) := by decide +kernel
theorem dX6_digest_445 : decode cX6_digest 445 = .ok (.getfield 135, 3) := by decide +kernel
theorem dX6_digest_448 : decode cX6_digest 448 = .ok (.i2l, 1) := by decide +kernel
theorem dX6_digest_449 : decode cX6_digest 449 = .ok (.invokevirtual 251, 3) := by decide +kernel
theorem dX6_digest_452 : decode cX6_digest 452 = .ok (.iconst 0, 1) := by decide +kernel
theorem dX6_digest_453 : decode cX6_digest 453 = .ok (.istore_n 1, 1) := by decide +kernel
theorem dX6_digest_454 : decode cX6_digest 454 = .ok (.iload_n 1, 1) := by decide +kernel
theorem dX6_digest_455 : decode cX6_digest 455 = .ok (.aload_n 0, 1) := by decide +kernel
theorem dX6_digest_456 : decode cX6_digest 456 = .ok (.getfield 135, 3) := by decide +kernel
theorem dX6_digest_459 : decode cX6_digest 459 = .ok (.if_icmp .ge 20, 3) := by decide +kernel
theorem dX6_digest_462 : decode cX6_digest 462 = .ok (.aload_n 0, 1) := by decide +kernel
theorem dX6_digest_463 : decode cX6_digest 463 = .ok (.aload_n 0, 1) := by decide +kernel
theorem dX6_digest_464 : decode cX6_digest 464 = .ok (.getfield 25, 3) := by decide +kernel
theorem dX6_digest_467 : decode cX6_digest 467 = .ok (.iload_n 1, 1) := by decide +kernel
theorem dX6_digest_468 : decode cX6_digest 468 = .ok (.iaload, 1) := by decide +kernel
theorem dX6_digest_469 : decode cX6_digest 469 = .ok (.i2l, 1) := by decide +kernel
theorem dX6_digest_470 : decode cX6_digest 470 = .ok (.invokevirtual 251, 3) := by decide +kernel
theorem dX6_digest_473 : decode cX6_digest 473 = .ok (.iinc 1 1, 3) := by decide +kernel
theorem dX6_digest_476 : decode cX6_digest 476 = .ok (.goto (-22), 3) := by decide +kernel
theorem dX6_digest_479 : decode cX6_digest 479 = .ok (.aload_n 0, 1) := by decide +kernel
theorem dX6_digest_480 : decode cX6_digest 480 = .ok (.getfield 241, 3) := by decide +kernel
theorem dX6_digest_483 : decode cX6_digest 483 = .ok (.lreturn, 1) := by decide +kernel
def f_X6_digest (N : Nat) (v : MV) : Option (Int64 × MV) :=
  (f_X6_takesIn N (M_set_hash (M_set_thrown v (0 : Int32)) (4423 : Int64)) (((M_s v) (0 : Int32).toNatClampNeg).toInt64)).bind (fun o3 => jn (fun (s57 : Int64) => (f_X6_takesIn N o3 s57).bind (fun o6 => (f_X6_isBurntNow N o6).bind (fun o8 => jn (fun (s73 : Int64) => (f_X6_takesIn N o6 s73).bind (fun o11 => (f_X6_takesIn N o11 (((M_s o11) (3 : Int32).toNatClampNeg).toInt64)).bind (fun o14 => (f_X6_takesIn N o14 (((M_s o14) (60 : Int32).toNatClampNeg).toInt64)).bind (fun o17 => (f_X6_canPlay N o17).bind (fun o19 => jn (fun (s124 : Int64) => (f_X6_takesIn N o17 s124).bind (fun o22 => (f_X6_takesBowls N o22).bind (fun o24 => (f_X6_curve N o24 (3 : Int32) (-1 : Int32) (40 : Int32)).bind (fun o26 => (f_X6_takesIn N o24 ((o26).toInt64)).bind (fun o28 => (f_X6_curve N o28 (3 : Int32) (-1 : Int32) (40 : Int32)).bind (fun o30 => (f_X6_takesIn N o28 ((o30).toInt64)).bind (fun o32 => (f_X6_takesIn N o32 (((M_s o32) (65 : Int32).toNatClampNeg).toInt64)).bind (fun o35 => (f_X6_takesIn N o35 (((M_s o35) (66 : Int32).toNatClampNeg).toInt64)).bind (fun o38 => (f_X6_takesIn N o38 (((M_s o38) (67 : Int32).toNatClampNeg).toInt64)).bind (fun o41 => (f_X6_isOverNow N o41).bind (fun o43 => jn (fun (s206 : Int64) => (f_X6_takesIn N o41 s206).bind (fun o46 => (f_X6_takesIn N o46 (((M_s o46) (68 : Int32).toNatClampNeg).toInt64)).bind (fun o49 => (f_X6_takesIn N o49 (((M_s o49) (69 : Int32).toNatClampNeg).toInt64)).bind (fun o52 => (f_X6_takesIn N o52 (((M_s o52) (70 : Int32).toNatClampNeg).toInt64)).bind (fun o55 => lpN (fun (s247 : Int32 × MV) (k247 : (Int32 × MV) → Option (Int64 × MV)) => (if ((M_s s247.2) (70 : Int32).toNatClampNeg) ≤ s247.1 then lpN (fun (s280 : Int32 × MV) (k280 : (Int32 × MV) → Option (Int64 × MV)) => (if (17 : Int32) ≤ s280.1 then (f_X6_row N s280.2).bind (fun o60 => (f_X6_takesIn N s280.2 ((o60).toInt64)).bind (fun o62 => (f_X6_takesIn N o62 (((M_s o62) (100 : Int32).toNatClampNeg).toInt64)).bind (fun o65 => (f_X6_takesIn N o65 (((M_s o65) (101 : Int32).toNatClampNeg).toInt64)).bind (fun o68 => (f_X6_takesIn N o68 (((M_s o68) (102 : Int32).toNatClampNeg).toInt64)).bind (fun o71 => (f_X6_takesIn N o71 (((M_s o71) (61 : Int32).toNatClampNeg).toInt64)).bind (fun o74 => (f_X6_takesIn N o74 (((M_s o74) (62 : Int32).toNatClampNeg).toInt64)).bind (fun o77 => (f_X6_takesIn N o77 (((M_s o77) (63 : Int32).toNatClampNeg).toInt64)).bind (fun o80 => (f_X6_takesIn N o80 (((M_s o80) (64 : Int32).toNatClampNeg).toInt64)).bind (fun o83 => (f_X6_takesIn N o83 ((M_savedMany o83).toInt64)).bind (fun o85 => (f_X6_mean N o85).bind (fun o87 => (f_X6_bitsOf N o87).bind (fun o89 => (f_X6_takesIn N o85 o89).bind (fun o91 => (f_X6_takesIn N o91 (((M_kept o91) &&& (1 : Int32)).toInt64)).bind (fun o93 => (f_X6_takesIn N o93 ((((M_kept o93) >>> ((1 : Int32) &&& 31)) &&& (1 : Int32)).toInt64)).bind (fun o95 => (f_X6_takesIn N o95 ((M_length o95).toInt64)).bind (fun o97 => lpN (fun (s454 : Int32 × MV) (k454 : (Int32 × MV) → Option (Int64 × MV)) => (if (M_length s454.2) ≤ s454.1 then some ((M_hash s454.2), s454.2) else gd (ixok s454.1 60) ((f_X6_takesIn N s454.2 (((M_buffer s454.2) s454.1.toNatClampNeg).toInt64)).bind (fun o101 => k454 ((s454.1 + (1 : Int32)), o101))))) N ((0 : Int32), o97))))))))))))))))) else gd (ixok ((83 : Int32) + s280.1) 103) ((f_X6_takesIn N s280.2 (((M_s s280.2) ((83 : Int32) + s280.1).toNatClampNeg).toInt64)).bind (fun o104 => k280 ((s280.1 + (1 : Int32)), o104))))) N ((0 : Int32), s247.2) else gd (ixok ((71 : Int32) + s247.1) 103) ((f_X6_takesIn N s247.2 (((M_s s247.2) ((71 : Int32) + s247.1).toNatClampNeg).toInt64)).bind (fun o107 => k247 ((s247.1 + (1 : Int32)), o107))))) N ((0 : Int32), o55)))))) (fun (j206 : (Int64) → Option (Int64 × MV)) => (if o43 = 0 then j206 (0 : Int64) else j206 (1 : Int64)))))))))))))) (fun (j124 : (Int64) → Option (Int64 × MV)) => (if o19 = 0 then j124 (0 : Int64) else (f_X6_sideNow N o17 ((M_s o17) (3 : Int32).toNatClampNeg)).bind (fun o112 => j124 (((o112).toInt64) + (1 : Int64)))))))))) (fun (j73 : (Int64) → Option (Int64 × MV)) => (if o8 = 0 then j73 (0 : Int64) else j73 (1 : Int64)))))) (fun (j57 : (Int64) → Option (Int64 × MV)) => (if ((M_s o3) (0 : Int32).toNatClampNeg) = (1 : Int32) then j57 (((((21 : Int32) * ((M_s o3) (1 : Int32).toNatClampNeg)) + ((M_s o3) (2 : Int32).toNatClampNeg)) + (1 : Int32)).toInt64) else j57 (0 : Int64))))
set_option maxHeartbeats 4000000 in
set_option maxRecDepth 100000 in
theorem met_X6_digest (l : Launch) (dC : Nat → ClassId) (dI : Nat → Nat → Nat) (cyI cyO cyL : ClassId) (a : Nat → Nat) (sz : Nat) (N : Nat) (v : MV) (out : Int64 × MV) (hF : f_X6_digest N v = some out) : Met l yX6_digest (Cond.code yX6_digest cX6_digest 2 (some .long) :: wT) ({ frames := 5, cells := 0, slots := 0, locals := 114 } : Room) (wWr dC dI cyI cyO cyL [.ref (a 0)] (cM cyI a v) sz) (va_Ql (fun (r : Int64) (u : MV) => (r, u) = out) (fun u t => va_P (dC, dI) vwCl (cM cyI a u) t.heap ∧ va_D (va_A (cM cyI a v) sz) (cM cyI a u)) (va_A (cM cyI a v) sz)) 0 0 (va_A (cM cyI a v) sz) := by
  refine Met.ofW (cc := cX6_digest) (maxL := 2) (ret := (some .long)) (by decide) rfl ?_
  intro p e s m args below meth c s₁ B hml hv
  obtain ⟨rfl, hsz, hP, hK, hD0⟩ := hv
  have hx := B.exec
  have hb := B.bytes
  have hr := B.returns
  have hts0 := atoms_spec (ws := (Cond.code yX6_digest cX6_digest 2 (some .long) :: wT)) B.pre
  have hts := fun w h => hts0 w (List.mem_cons_of_mem _ h)
  clear hts0
  have hown : s.vm.findClass RX6 = some m.cls := findClass_of_methodNamed B.named
  have hlocks := B.notSynchronized
  subst hsz
  have hD := hD0.self (sz := s.heap.size)
  generalize hAe : va_A (cM cyI a v) s.heap.size = A at hD ⊢
  have hA : ∀ q : Nat, s.heap.size ≤ q → A q := fun q h => by rw [← hAe]; exact Or.inr h
  clear hD0
  have hS : va_S A s.heap s.heap [] := va_S.rf
  have hl := lv_entry [.ref (a 0)] (n := 2) (Nat.le_of_ble_eq_true rfl)
  rw [lg_entry_eq]
  generalize (lg_sl [.ref (a 0)] ++ List.replicate (2 - (lg_sl [.ref (a 0)]).length) Slot.unset).toArray = ls at hl ⊢
  have hl : lv_has ls 2 [(0, .ref (a 0))] := hl
  unfold f_X6_digest at hF
  refine lv_aload_n hx hb dX6_digest_0 rfl (lv_at hl 0 rfl) ?_
  refine lv_iconst (v := 0) hx hb dX6_digest_1 (by decide) ?_
  refine va_put (D := (dC, dI)) (ci := 6) (v := .int (0 : Int32)) (ty := .int) (C := RX6) (T := TX6) (N := 23) hx hb hts inX6 tyX6 tyX6_ok nmX6 hown hK.1 hP hD hS 0 rfl rfl 0 (by decide) (hts _ w_fieldLink_X6_31) (fun _ h9 => h9) rfl (by decide +kernel) rfl rfl (Nat.le_of_ble_eq_true rfl) dX6_digest_2 (fun H locs hP hD hS => ?_)
  have hP : va_P (dC, dI) vwCl (cM cyI a (M_set_thrown v (0 : Int32))) H := hP
  have hD : va_D A (cM cyI a (M_set_thrown v (0 : Int32))) := hD
  refine lv_aload_n hx hb dX6_digest_5 rfl (lv_at hl 0 rfl) ?_
  refine lv_ldc2 (v := 4423) hx hb hown (hts _ w_constantLong_X6_257) dX6_digest_6 ?_
  refine lv_topl (fun y1 ey1 => ?_)
  refine va_put (D := (dC, dI)) (ci := 6) (v := .long y1) (ty := .long) (C := RX6) (T := TX6) (N := 23) hx hb hts inX6 tyX6 tyX6_ok nmX6 hown hK.1 hP hD hS 0 rfl rfl 22 (by decide) (hts _ w_fieldLink_X6_241) (fun _ h9 => h9) rfl (by decide +kernel) rfl rfl (Nat.le_of_ble_eq_true rfl) dX6_digest_9 (fun H locs hP hD hS => ?_)
  have hP : va_P (dC, dI) vwCl (cM cyI a (M_set_hash (M_set_thrown v (0 : Int32)) y1)) H := hP
  have hD : va_D A (cM cyI a (M_set_hash (M_set_thrown v (0 : Int32)) y1)) := hD
  subst ey1
  refine lv_aload_n hx hb dX6_digest_12 rfl (lv_at hl 0 rfl) ?_
  refine lv_aload_n hx hb dX6_digest_13 rfl (lv_at hl 0 rfl) ?_
  refine va_get (D := (dC, dI)) (ci := 6) (v := .ref (a 1)) (C := RX6) (T := TX6) (N := 23) hx hb hts inX6 hown hK.1 hP 0 rfl rfl 1 (by decide) (hts _ w_fieldLink_X6_7) (fun _ h9 => h9) rfl dX6_digest_14 ?_
  refine lv_iconst (v := 0) hx hb dX6_digest_17 (by decide) ?_
  refine va_iald hx hb hK.1 hP 1 0 rfl rfl (i := (0 : Int32)) (show ixok (0 : Int32) 103 by decide) dX6_digest_18 ?_
  refine lv_i2l (v := ((M_s v) (0 : Int32).toNatClampNeg).toInt64) hx hb dX6_digest_19 rfl ?_
  obtain ⟨o3, h4, hF⟩ := obd hF
  refine wcWVv (As := [.long (((M_s v) (0 : Int32).toNatClampNeg).toInt64)]) (rest := []) (wr := []) (b := (a 0)) ⟨hx, hb, hml, hown, hts⟩ (met_X6_takesIn l dC dI cyI cyO cyL a _ N (M_set_hash (M_set_thrown v (0 : Int32)) (4423 : Int64)) (((M_s v) (0 : Int32).toNatClampNeg).toInt64) o3 h4) (cwV 1 hts (gV w_methodLink_X6_251 w_instanceMethod_X6_takesIn w_selects_X6_takesIn w_initialized_X6 w_code_X6_takesIn) rfl rfl rfl (by decide +kernel) ⟨Nat.le_of_ble_eq_true rfl, Nat.le_of_ble_eq_true rfl⟩) (va_recv hK.1 hP (ci := 6) (q0 := 0) rfl rfl) hP hD hK [0, 1, 2, 3, 4, 5, 6, 7] [] rfl rfl (by decide) (by decide) (by decide) rfl hl.1 (Nat.le_of_ble_eq_true rfl) dX6_digest_20 ⟨Nat.le_of_ble_eq_true rfl, Nat.le_of_ble_eq_true rfl⟩ hS hA (fun u H locs hw hP hD hS => ?_)
  have hw := hw.symm
  subst hw
  have hP : va_P (dC, dI) vwCl (cM cyI a o3) H := hP
  have hD : va_D A (cM cyI a o3) := hD
  refine lv_aload_n hx hb dX6_digest_23 rfl (lv_at hl 0 rfl) ?_
  refine lv_aload_n hx hb dX6_digest_24 rfl (lv_at hl 0 rfl) ?_
  refine va_get (D := (dC, dI)) (ci := 6) (v := .ref (a 1)) (C := RX6) (T := TX6) (N := 23) hx hb hts inX6 hown hK.1 hP 0 rfl rfl 1 (by decide) (hts _ w_fieldLink_X6_7) (fun _ h9 => h9) rfl dX6_digest_25 ?_
  refine lv_iconst (v := 0) hx hb dX6_digest_28 (by decide) ?_
  refine va_iald hx hb hK.1 hP 1 0 rfl rfl (i := (0 : Int32)) (show ixok (0 : Int32) 103 by decide) dX6_digest_29 ?_
  refine lv_iconst (v := 1) hx hb dX6_digest_30 (by decide) ?_
  obtain ⟨j57, hj57, hF⟩ := jn_use hF
  have hJ57 : ∀ (s57 : Int64) (H : Heap) (locs : List Loc) (ls : Array Slot), va_P (dC, dI) vwCl (cM cyI a o3) H → va_D A (cM cyI a o3) → va_S A s.heap H locs → lv_has ls 2 [(0, .ref (a 0))] → j57 s57 = some out → W p l e (headSpec (Cond.code yX6_digest cX6_digest 2 (some .long) :: wT) ({ frames := 5, cells := 0, slots := 0, locals := 114 } : Room)).room s m ([.ref (a 0)] : List Value).toArray below meth c H locs 0 0 (MQ below (va_Ql (fun (r : Int64) (u : MV) => (r, u) = out) (fun u t => va_P (dC, dI) vwCl (cM cyI a u) t.heap ∧ va_D A (cM cyI a u)) A) ([.ref (a 0)] : List Value).toArray s 0 0 A) (F0 m 57 ls [.long s57, .ref (a 0)]) := by
    intro s57 H locs ls hP hD hS hl hF
    have hF := (congrFun hj57 s57).symm.trans hF
    obtain ⟨o6, h7, hF⟩ := obd hF
    refine wcWVv (As := [.long s57]) (rest := []) (wr := []) (b := (a 0)) ⟨hx, hb, hml, hown, hts⟩ (met_X6_takesIn l dC dI cyI cyO cyL a _ N o3 s57 o6 h7) (cwV 1 hts (gV w_methodLink_X6_251 w_instanceMethod_X6_takesIn w_selects_X6_takesIn w_initialized_X6 w_code_X6_takesIn) rfl rfl rfl (by decide +kernel) ⟨Nat.le_of_ble_eq_true rfl, Nat.le_of_ble_eq_true rfl⟩) (va_recv hK.1 hP (ci := 6) (q0 := 0) rfl rfl) hP hD hK [0, 1, 2, 3, 4, 5, 6, 7] [] rfl rfl (by decide) (by decide) (by decide) rfl hl.1 (Nat.le_of_ble_eq_true rfl) dX6_digest_57 ⟨Nat.le_of_ble_eq_true rfl, Nat.le_of_ble_eq_true rfl⟩ hS hA (fun u H locs hw hP hD hS => ?_)
    have hw := hw.symm
    subst hw
    have hP : va_P (dC, dI) vwCl (cM cyI a o6) H := hP
    have hD : va_D A (cM cyI a o6) := hD
    refine lv_aload_n hx hb dX6_digest_60 rfl (lv_at hl 0 rfl) ?_
    refine lv_aload_n hx hb dX6_digest_61 rfl (lv_at hl 0 rfl) ?_
    obtain ⟨o8, h9, hF⟩ := obd hF
    refine wcRVi (As := []) (rest := [.ref (a 0)]) (b := (a 0)) ⟨hx, hb, hml, hown, hts⟩ (met_X6_isBurntNow l dC dI cyI cyO cyL a N o6  o8 h9) (cwV 0 hts (gV w_methodLink_X6_67 w_instanceMethod_X6_isBurntNow w_selects_X6_isBurntNow w_initialized_X6 w_code_X6_isBurntNow) rfl rfl rfl (by decide +kernel) ⟨Nat.le_of_ble_eq_true rfl, Nat.le_of_ble_eq_true rfl⟩) (va_recv hK.1 hP (ci := 6) (q0 := 0) rfl rfl) hP hK [0, 1, 2, 3, 4, 5, 6, 7] rfl rfl hl.1 (Nat.le_of_ble_eq_true rfl) dX6_digest_62 ⟨Nat.le_of_ble_eq_true rfl, Nat.le_of_ble_eq_true rfl⟩ hS (fun r H locs hw hP hS => ?_)
    obtain ⟨hw, hz10⟩ := hw
    have hw := hw.symm
    subst hw
    obtain ⟨j73, hj73, hF⟩ := jn_use hF
    have hJ73 : ∀ (s73 : Int64) (H : Heap) (locs : List Loc) (ls : Array Slot), va_P (dC, dI) vwCl (cM cyI a o6) H → va_D A (cM cyI a o6) → va_S A s.heap H locs → lv_has ls 2 [(0, .ref (a 0))] → j73 s73 = some out → W p l e (headSpec (Cond.code yX6_digest cX6_digest 2 (some .long) :: wT) ({ frames := 5, cells := 0, slots := 0, locals := 114 } : Room)).room s m ([.ref (a 0)] : List Value).toArray below meth c H locs 0 0 (MQ below (va_Ql (fun (r : Int64) (u : MV) => (r, u) = out) (fun u t => va_P (dC, dI) vwCl (cM cyI a u) t.heap ∧ va_D A (cM cyI a u)) A) ([.ref (a 0)] : List Value).toArray s 0 0 A) (F0 m 73 ls [.long s73, .ref (a 0)]) := by
      intro s73 H locs ls hP hD hS hl hF
      have hF := (congrFun hj73 s73).symm.trans hF
      obtain ⟨o11, h12, hF⟩ := obd hF
      refine wcWVv (As := [.long s73]) (rest := []) (wr := []) (b := (a 0)) ⟨hx, hb, hml, hown, hts⟩ (met_X6_takesIn l dC dI cyI cyO cyL a _ N o6 s73 o11 h12) (cwV 1 hts (gV w_methodLink_X6_251 w_instanceMethod_X6_takesIn w_selects_X6_takesIn w_initialized_X6 w_code_X6_takesIn) rfl rfl rfl (by decide +kernel) ⟨Nat.le_of_ble_eq_true rfl, Nat.le_of_ble_eq_true rfl⟩) (va_recv hK.1 hP (ci := 6) (q0 := 0) rfl rfl) hP hD hK [0, 1, 2, 3, 4, 5, 6, 7] [] rfl rfl (by decide) (by decide) (by decide) rfl hl.1 (Nat.le_of_ble_eq_true rfl) dX6_digest_73 ⟨Nat.le_of_ble_eq_true rfl, Nat.le_of_ble_eq_true rfl⟩ hS hA (fun u H locs hw hP hD hS => ?_)
      have hw := hw.symm
      subst hw
      have hP : va_P (dC, dI) vwCl (cM cyI a o11) H := hP
      have hD : va_D A (cM cyI a o11) := hD
      refine lv_aload_n hx hb dX6_digest_76 rfl (lv_at hl 0 rfl) ?_
      refine lv_aload_n hx hb dX6_digest_77 rfl (lv_at hl 0 rfl) ?_
      refine va_get (D := (dC, dI)) (ci := 6) (v := .ref (a 1)) (C := RX6) (T := TX6) (N := 23) hx hb hts inX6 hown hK.1 hP 0 rfl rfl 1 (by decide) (hts _ w_fieldLink_X6_7) (fun _ h9 => h9) rfl dX6_digest_78 ?_
      refine lv_iconst (v := 3) hx hb dX6_digest_81 (by decide) ?_
      refine va_iald hx hb hK.1 hP 1 0 rfl rfl (i := (3 : Int32)) (show ixok (3 : Int32) 103 by decide) dX6_digest_82 ?_
      refine lv_i2l (v := ((M_s o11) (3 : Int32).toNatClampNeg).toInt64) hx hb dX6_digest_83 rfl ?_
      obtain ⟨o14, h15, hF⟩ := obd hF
      refine wcWVv (As := [.long (((M_s o11) (3 : Int32).toNatClampNeg).toInt64)]) (rest := []) (wr := []) (b := (a 0)) ⟨hx, hb, hml, hown, hts⟩ (met_X6_takesIn l dC dI cyI cyO cyL a _ N o11 (((M_s o11) (3 : Int32).toNatClampNeg).toInt64) o14 h15) (cwV 1 hts (gV w_methodLink_X6_251 w_instanceMethod_X6_takesIn w_selects_X6_takesIn w_initialized_X6 w_code_X6_takesIn) rfl rfl rfl (by decide +kernel) ⟨Nat.le_of_ble_eq_true rfl, Nat.le_of_ble_eq_true rfl⟩) (va_recv hK.1 hP (ci := 6) (q0 := 0) rfl rfl) hP hD hK [0, 1, 2, 3, 4, 5, 6, 7] [] rfl rfl (by decide) (by decide) (by decide) rfl hl.1 (Nat.le_of_ble_eq_true rfl) dX6_digest_84 ⟨Nat.le_of_ble_eq_true rfl, Nat.le_of_ble_eq_true rfl⟩ hS hA (fun u H locs hw hP hD hS => ?_)
      have hw := hw.symm
      subst hw
      have hP : va_P (dC, dI) vwCl (cM cyI a o14) H := hP
      have hD : va_D A (cM cyI a o14) := hD
      refine lv_aload_n hx hb dX6_digest_87 rfl (lv_at hl 0 rfl) ?_
      refine lv_aload_n hx hb dX6_digest_88 rfl (lv_at hl 0 rfl) ?_
      refine va_get (D := (dC, dI)) (ci := 6) (v := .ref (a 1)) (C := RX6) (T := TX6) (N := 23) hx hb hts inX6 hown hK.1 hP 0 rfl rfl 1 (by decide) (hts _ w_fieldLink_X6_7) (fun _ h9 => h9) rfl dX6_digest_89 ?_
      refine lv_bipush (v := 60) hx hb dX6_digest_92 (by decide) ?_
      refine va_iald hx hb hK.1 hP 1 0 rfl rfl (i := (60 : Int32)) (show ixok (60 : Int32) 103 by decide) dX6_digest_94 ?_
      refine lv_i2l (v := ((M_s o14) (60 : Int32).toNatClampNeg).toInt64) hx hb dX6_digest_95 rfl ?_
      obtain ⟨o17, h18, hF⟩ := obd hF
      refine wcWVv (As := [.long (((M_s o14) (60 : Int32).toNatClampNeg).toInt64)]) (rest := []) (wr := []) (b := (a 0)) ⟨hx, hb, hml, hown, hts⟩ (met_X6_takesIn l dC dI cyI cyO cyL a _ N o14 (((M_s o14) (60 : Int32).toNatClampNeg).toInt64) o17 h18) (cwV 1 hts (gV w_methodLink_X6_251 w_instanceMethod_X6_takesIn w_selects_X6_takesIn w_initialized_X6 w_code_X6_takesIn) rfl rfl rfl (by decide +kernel) ⟨Nat.le_of_ble_eq_true rfl, Nat.le_of_ble_eq_true rfl⟩) (va_recv hK.1 hP (ci := 6) (q0 := 0) rfl rfl) hP hD hK [0, 1, 2, 3, 4, 5, 6, 7] [] rfl rfl (by decide) (by decide) (by decide) rfl hl.1 (Nat.le_of_ble_eq_true rfl) dX6_digest_96 ⟨Nat.le_of_ble_eq_true rfl, Nat.le_of_ble_eq_true rfl⟩ hS hA (fun u H locs hw hP hD hS => ?_)
      have hw := hw.symm
      subst hw
      have hP : va_P (dC, dI) vwCl (cM cyI a o17) H := hP
      have hD : va_D A (cM cyI a o17) := hD
      refine lv_aload_n hx hb dX6_digest_99 rfl (lv_at hl 0 rfl) ?_
      refine lv_aload_n hx hb dX6_digest_100 rfl (lv_at hl 0 rfl) ?_
      obtain ⟨o19, h20, hF⟩ := obd hF
      refine wcRVi (As := []) (rest := [.ref (a 0)]) (b := (a 0)) ⟨hx, hb, hml, hown, hts⟩ (met_X6_canPlay l dC dI cyI cyO cyL a N o17  o19 h20) (cwV 0 hts (gV w_methodLink_X6_120 w_instanceMethod_X6_canPlay w_selects_X6_canPlay w_initialized_X6 w_code_X6_canPlay) rfl rfl rfl (by decide +kernel) ⟨Nat.le_of_ble_eq_true rfl, Nat.le_of_ble_eq_true rfl⟩) (va_recv hK.1 hP (ci := 6) (q0 := 0) rfl rfl) hP hK [0, 1, 2, 3, 4, 5, 6, 7] rfl rfl hl.1 (Nat.le_of_ble_eq_true rfl) dX6_digest_101 ⟨Nat.le_of_ble_eq_true rfl, Nat.le_of_ble_eq_true rfl⟩ hS (fun r H locs hw hP hS => ?_)
      obtain ⟨hw, hz21⟩ := hw
      have hw := hw.symm
      subst hw
      obtain ⟨j124, hj124, hF⟩ := jn_use hF
      have hJ124 : ∀ (s124 : Int64) (H : Heap) (locs : List Loc) (ls : Array Slot), va_P (dC, dI) vwCl (cM cyI a o17) H → va_D A (cM cyI a o17) → va_S A s.heap H locs → lv_has ls 2 [(0, .ref (a 0))] → j124 s124 = some out → W p l e (headSpec (Cond.code yX6_digest cX6_digest 2 (some .long) :: wT) ({ frames := 5, cells := 0, slots := 0, locals := 114 } : Room)).room s m ([.ref (a 0)] : List Value).toArray below meth c H locs 0 0 (MQ below (va_Ql (fun (r : Int64) (u : MV) => (r, u) = out) (fun u t => va_P (dC, dI) vwCl (cM cyI a u) t.heap ∧ va_D A (cM cyI a u)) A) ([.ref (a 0)] : List Value).toArray s 0 0 A) (F0 m 124 ls [.long s124, .ref (a 0)]) := by
        intro s124 H locs ls hP hD hS hl hF
        have hF := (congrFun hj124 s124).symm.trans hF
        obtain ⟨o22, h23, hF⟩ := obd hF
        refine wcWVv (As := [.long s124]) (rest := []) (wr := []) (b := (a 0)) ⟨hx, hb, hml, hown, hts⟩ (met_X6_takesIn l dC dI cyI cyO cyL a _ N o17 s124 o22 h23) (cwV 1 hts (gV w_methodLink_X6_251 w_instanceMethod_X6_takesIn w_selects_X6_takesIn w_initialized_X6 w_code_X6_takesIn) rfl rfl rfl (by decide +kernel) ⟨Nat.le_of_ble_eq_true rfl, Nat.le_of_ble_eq_true rfl⟩) (va_recv hK.1 hP (ci := 6) (q0 := 0) rfl rfl) hP hD hK [0, 1, 2, 3, 4, 5, 6, 7] [] rfl rfl (by decide) (by decide) (by decide) rfl hl.1 (Nat.le_of_ble_eq_true rfl) dX6_digest_124 ⟨Nat.le_of_ble_eq_true rfl, Nat.le_of_ble_eq_true rfl⟩ hS hA (fun u H locs hw hP hD hS => ?_)
        have hw := hw.symm
        subst hw
        have hP : va_P (dC, dI) vwCl (cM cyI a o22) H := hP
        have hD : va_D A (cM cyI a o22) := hD
        refine lv_aload_n hx hb dX6_digest_127 rfl (lv_at hl 0 rfl) ?_
        obtain ⟨o24, h25, hF⟩ := obd hF
        refine wcWVv (As := []) (rest := []) (wr := []) (b := (a 0)) ⟨hx, hb, hml, hown, hts⟩ (met_X6_takesBowls l dC dI cyI cyO cyL a _ N o22  o24 h25) (cwV 0 hts (gV w_methodLink_X6_259 w_instanceMethod_X6_takesBowls w_selects_X6_takesBowls w_initialized_X6 w_code_X6_takesBowls) rfl rfl rfl (by decide +kernel) ⟨Nat.le_of_ble_eq_true rfl, Nat.le_of_ble_eq_true rfl⟩) (va_recv hK.1 hP (ci := 6) (q0 := 0) rfl rfl) hP hD hK [0, 1, 2, 3, 4, 5, 6, 7] [] rfl rfl (by decide) (by decide) (by decide) rfl hl.1 (Nat.le_of_ble_eq_true rfl) dX6_digest_128 ⟨Nat.le_of_ble_eq_true rfl, Nat.le_of_ble_eq_true rfl⟩ hS hA (fun u H locs hw hP hD hS => ?_)
        have hw := hw.symm
        subst hw
        have hP : va_P (dC, dI) vwCl (cM cyI a o24) H := hP
        have hD : va_D A (cM cyI a o24) := hD
        refine lv_aload_n hx hb dX6_digest_131 rfl (lv_at hl 0 rfl) ?_
        refine lv_aload_n hx hb dX6_digest_132 rfl (lv_at hl 0 rfl) ?_
        refine lv_iconst (v := 3) hx hb dX6_digest_133 (by decide) ?_
        refine lv_iconst (v := -1) hx hb dX6_digest_134 (by decide) ?_
        refine lv_bipush (v := 40) hx hb dX6_digest_135 (by decide) ?_
        obtain ⟨o26, h27, hF⟩ := obd hF
        refine wcRVi (As := [.int (3 : Int32), .int (-1 : Int32), .int (40 : Int32)]) (rest := [.ref (a 0)]) (b := (a 0)) ⟨hx, hb, hml, hown, hts⟩ (met_X6_curve l dC dI cyI cyO cyL a N o24 (3 : Int32) (-1 : Int32) (40 : Int32) o26 h27) (cwV 3 hts (gV w_methodLink_X6_216 w_instanceMethod_X6_curve w_selects_X6_curve w_initialized_X6 w_code_X6_curve) rfl rfl rfl (by decide +kernel) ⟨Nat.le_of_ble_eq_true rfl, Nat.le_of_ble_eq_true rfl⟩) (va_recv hK.1 hP (ci := 6) (q0 := 0) rfl rfl) hP hK [0, 1, 2, 3, 4, 5, 6, 7] rfl rfl hl.1 (Nat.le_of_ble_eq_true rfl) dX6_digest_137 ⟨Nat.le_of_ble_eq_true rfl, Nat.le_of_ble_eq_true rfl⟩ hS (fun r H locs hw hP hS => ?_)
        have hw := hw.symm
        subst hw
        refine lv_i2l (v := (o26).toInt64) hx hb dX6_digest_140 rfl ?_
        obtain ⟨o28, h29, hF⟩ := obd hF
        refine wcWVv (As := [.long ((o26).toInt64)]) (rest := []) (wr := []) (b := (a 0)) ⟨hx, hb, hml, hown, hts⟩ (met_X6_takesIn l dC dI cyI cyO cyL a _ N o24 ((o26).toInt64) o28 h29) (cwV 1 hts (gV w_methodLink_X6_251 w_instanceMethod_X6_takesIn w_selects_X6_takesIn w_initialized_X6 w_code_X6_takesIn) rfl rfl rfl (by decide +kernel) ⟨Nat.le_of_ble_eq_true rfl, Nat.le_of_ble_eq_true rfl⟩) (va_recv hK.1 hP (ci := 6) (q0 := 0) rfl rfl) hP hD hK [0, 1, 2, 3, 4, 5, 6, 7] [] rfl rfl (by decide) (by decide) (by decide) rfl hl.1 (Nat.le_of_ble_eq_true rfl) dX6_digest_141 ⟨Nat.le_of_ble_eq_true rfl, Nat.le_of_ble_eq_true rfl⟩ hS hA (fun u H locs hw hP hD hS => ?_)
        have hw := hw.symm
        subst hw
        have hP : va_P (dC, dI) vwCl (cM cyI a o28) H := hP
        have hD : va_D A (cM cyI a o28) := hD
        refine lv_aload_n hx hb dX6_digest_144 rfl (lv_at hl 0 rfl) ?_
        refine lv_aload_n hx hb dX6_digest_145 rfl (lv_at hl 0 rfl) ?_
        refine lv_iconst (v := 3) hx hb dX6_digest_146 (by decide) ?_
        refine lv_iconst (v := -1) hx hb dX6_digest_147 (by decide) ?_
        refine lv_bipush (v := 40) hx hb dX6_digest_148 (by decide) ?_
        obtain ⟨o30, h31, hF⟩ := obd hF
        refine wcRVi (As := [.int (3 : Int32), .int (-1 : Int32), .int (40 : Int32)]) (rest := [.ref (a 0)]) (b := (a 0)) ⟨hx, hb, hml, hown, hts⟩ (met_X6_curve l dC dI cyI cyO cyL a N o28 (3 : Int32) (-1 : Int32) (40 : Int32) o30 h31) (cwV 3 hts (gV w_methodLink_X6_216 w_instanceMethod_X6_curve w_selects_X6_curve w_initialized_X6 w_code_X6_curve) rfl rfl rfl (by decide +kernel) ⟨Nat.le_of_ble_eq_true rfl, Nat.le_of_ble_eq_true rfl⟩) (va_recv hK.1 hP (ci := 6) (q0 := 0) rfl rfl) hP hK [0, 1, 2, 3, 4, 5, 6, 7] rfl rfl hl.1 (Nat.le_of_ble_eq_true rfl) dX6_digest_150 ⟨Nat.le_of_ble_eq_true rfl, Nat.le_of_ble_eq_true rfl⟩ hS (fun r H locs hw hP hS => ?_)
        have hw := hw.symm
        subst hw
        refine lv_i2l (v := (o30).toInt64) hx hb dX6_digest_153 rfl ?_
        obtain ⟨o32, h33, hF⟩ := obd hF
        refine wcWVv (As := [.long ((o30).toInt64)]) (rest := []) (wr := []) (b := (a 0)) ⟨hx, hb, hml, hown, hts⟩ (met_X6_takesIn l dC dI cyI cyO cyL a _ N o28 ((o30).toInt64) o32 h33) (cwV 1 hts (gV w_methodLink_X6_251 w_instanceMethod_X6_takesIn w_selects_X6_takesIn w_initialized_X6 w_code_X6_takesIn) rfl rfl rfl (by decide +kernel) ⟨Nat.le_of_ble_eq_true rfl, Nat.le_of_ble_eq_true rfl⟩) (va_recv hK.1 hP (ci := 6) (q0 := 0) rfl rfl) hP hD hK [0, 1, 2, 3, 4, 5, 6, 7] [] rfl rfl (by decide) (by decide) (by decide) rfl hl.1 (Nat.le_of_ble_eq_true rfl) dX6_digest_154 ⟨Nat.le_of_ble_eq_true rfl, Nat.le_of_ble_eq_true rfl⟩ hS hA (fun u H locs hw hP hD hS => ?_)
        have hw := hw.symm
        subst hw
        have hP : va_P (dC, dI) vwCl (cM cyI a o32) H := hP
        have hD : va_D A (cM cyI a o32) := hD
        refine lv_aload_n hx hb dX6_digest_157 rfl (lv_at hl 0 rfl) ?_
        refine lv_aload_n hx hb dX6_digest_158 rfl (lv_at hl 0 rfl) ?_
        refine va_get (D := (dC, dI)) (ci := 6) (v := .ref (a 1)) (C := RX6) (T := TX6) (N := 23) hx hb hts inX6 hown hK.1 hP 0 rfl rfl 1 (by decide) (hts _ w_fieldLink_X6_7) (fun _ h9 => h9) rfl dX6_digest_159 ?_
        refine lv_bipush (v := 65) hx hb dX6_digest_162 (by decide) ?_
        refine va_iald hx hb hK.1 hP 1 0 rfl rfl (i := (65 : Int32)) (show ixok (65 : Int32) 103 by decide) dX6_digest_164 ?_
        refine lv_i2l (v := ((M_s o32) (65 : Int32).toNatClampNeg).toInt64) hx hb dX6_digest_165 rfl ?_
        obtain ⟨o35, h36, hF⟩ := obd hF
        refine wcWVv (As := [.long (((M_s o32) (65 : Int32).toNatClampNeg).toInt64)]) (rest := []) (wr := []) (b := (a 0)) ⟨hx, hb, hml, hown, hts⟩ (met_X6_takesIn l dC dI cyI cyO cyL a _ N o32 (((M_s o32) (65 : Int32).toNatClampNeg).toInt64) o35 h36) (cwV 1 hts (gV w_methodLink_X6_251 w_instanceMethod_X6_takesIn w_selects_X6_takesIn w_initialized_X6 w_code_X6_takesIn) rfl rfl rfl (by decide +kernel) ⟨Nat.le_of_ble_eq_true rfl, Nat.le_of_ble_eq_true rfl⟩) (va_recv hK.1 hP (ci := 6) (q0 := 0) rfl rfl) hP hD hK [0, 1, 2, 3, 4, 5, 6, 7] [] rfl rfl (by decide) (by decide) (by decide) rfl hl.1 (Nat.le_of_ble_eq_true rfl) dX6_digest_166 ⟨Nat.le_of_ble_eq_true rfl, Nat.le_of_ble_eq_true rfl⟩ hS hA (fun u H locs hw hP hD hS => ?_)
        have hw := hw.symm
        subst hw
        have hP : va_P (dC, dI) vwCl (cM cyI a o35) H := hP
        have hD : va_D A (cM cyI a o35) := hD
        refine lv_aload_n hx hb dX6_digest_169 rfl (lv_at hl 0 rfl) ?_
        refine lv_aload_n hx hb dX6_digest_170 rfl (lv_at hl 0 rfl) ?_
        refine va_get (D := (dC, dI)) (ci := 6) (v := .ref (a 1)) (C := RX6) (T := TX6) (N := 23) hx hb hts inX6 hown hK.1 hP 0 rfl rfl 1 (by decide) (hts _ w_fieldLink_X6_7) (fun _ h9 => h9) rfl dX6_digest_171 ?_
        refine lv_bipush (v := 66) hx hb dX6_digest_174 (by decide) ?_
        refine va_iald hx hb hK.1 hP 1 0 rfl rfl (i := (66 : Int32)) (show ixok (66 : Int32) 103 by decide) dX6_digest_176 ?_
        refine lv_i2l (v := ((M_s o35) (66 : Int32).toNatClampNeg).toInt64) hx hb dX6_digest_177 rfl ?_
        obtain ⟨o38, h39, hF⟩ := obd hF
        refine wcWVv (As := [.long (((M_s o35) (66 : Int32).toNatClampNeg).toInt64)]) (rest := []) (wr := []) (b := (a 0)) ⟨hx, hb, hml, hown, hts⟩ (met_X6_takesIn l dC dI cyI cyO cyL a _ N o35 (((M_s o35) (66 : Int32).toNatClampNeg).toInt64) o38 h39) (cwV 1 hts (gV w_methodLink_X6_251 w_instanceMethod_X6_takesIn w_selects_X6_takesIn w_initialized_X6 w_code_X6_takesIn) rfl rfl rfl (by decide +kernel) ⟨Nat.le_of_ble_eq_true rfl, Nat.le_of_ble_eq_true rfl⟩) (va_recv hK.1 hP (ci := 6) (q0 := 0) rfl rfl) hP hD hK [0, 1, 2, 3, 4, 5, 6, 7] [] rfl rfl (by decide) (by decide) (by decide) rfl hl.1 (Nat.le_of_ble_eq_true rfl) dX6_digest_178 ⟨Nat.le_of_ble_eq_true rfl, Nat.le_of_ble_eq_true rfl⟩ hS hA (fun u H locs hw hP hD hS => ?_)
        have hw := hw.symm
        subst hw
        have hP : va_P (dC, dI) vwCl (cM cyI a o38) H := hP
        have hD : va_D A (cM cyI a o38) := hD
        refine lv_aload_n hx hb dX6_digest_181 rfl (lv_at hl 0 rfl) ?_
        refine lv_aload_n hx hb dX6_digest_182 rfl (lv_at hl 0 rfl) ?_
        refine va_get (D := (dC, dI)) (ci := 6) (v := .ref (a 1)) (C := RX6) (T := TX6) (N := 23) hx hb hts inX6 hown hK.1 hP 0 rfl rfl 1 (by decide) (hts _ w_fieldLink_X6_7) (fun _ h9 => h9) rfl dX6_digest_183 ?_
        refine lv_bipush (v := 67) hx hb dX6_digest_186 (by decide) ?_
        refine va_iald hx hb hK.1 hP 1 0 rfl rfl (i := (67 : Int32)) (show ixok (67 : Int32) 103 by decide) dX6_digest_188 ?_
        refine lv_i2l (v := ((M_s o38) (67 : Int32).toNatClampNeg).toInt64) hx hb dX6_digest_189 rfl ?_
        obtain ⟨o41, h42, hF⟩ := obd hF
        refine wcWVv (As := [.long (((M_s o38) (67 : Int32).toNatClampNeg).toInt64)]) (rest := []) (wr := []) (b := (a 0)) ⟨hx, hb, hml, hown, hts⟩ (met_X6_takesIn l dC dI cyI cyO cyL a _ N o38 (((M_s o38) (67 : Int32).toNatClampNeg).toInt64) o41 h42) (cwV 1 hts (gV w_methodLink_X6_251 w_instanceMethod_X6_takesIn w_selects_X6_takesIn w_initialized_X6 w_code_X6_takesIn) rfl rfl rfl (by decide +kernel) ⟨Nat.le_of_ble_eq_true rfl, Nat.le_of_ble_eq_true rfl⟩) (va_recv hK.1 hP (ci := 6) (q0 := 0) rfl rfl) hP hD hK [0, 1, 2, 3, 4, 5, 6, 7] [] rfl rfl (by decide) (by decide) (by decide) rfl hl.1 (Nat.le_of_ble_eq_true rfl) dX6_digest_190 ⟨Nat.le_of_ble_eq_true rfl, Nat.le_of_ble_eq_true rfl⟩ hS hA (fun u H locs hw hP hD hS => ?_)
        have hw := hw.symm
        subst hw
        have hP : va_P (dC, dI) vwCl (cM cyI a o41) H := hP
        have hD : va_D A (cM cyI a o41) := hD
        refine lv_aload_n hx hb dX6_digest_193 rfl (lv_at hl 0 rfl) ?_
        refine lv_aload_n hx hb dX6_digest_194 rfl (lv_at hl 0 rfl) ?_
        obtain ⟨o43, h44, hF⟩ := obd hF
        refine wcRVi (As := []) (rest := [.ref (a 0)]) (b := (a 0)) ⟨hx, hb, hml, hown, hts⟩ (met_X6_isOverNow l dC dI cyI cyO cyL a N o41  o43 h44) (cwV 0 hts (gV w_methodLink_X6_91 w_instanceMethod_X6_isOverNow w_selects_X6_isOverNow w_initialized_X6 w_code_X6_isOverNow) rfl rfl rfl (by decide +kernel) ⟨Nat.le_of_ble_eq_true rfl, Nat.le_of_ble_eq_true rfl⟩) (va_recv hK.1 hP (ci := 6) (q0 := 0) rfl rfl) hP hK [0, 1, 2, 3, 4, 5, 6, 7] rfl rfl hl.1 (Nat.le_of_ble_eq_true rfl) dX6_digest_195 ⟨Nat.le_of_ble_eq_true rfl, Nat.le_of_ble_eq_true rfl⟩ hS (fun r H locs hw hP hS => ?_)
        obtain ⟨hw, hz45⟩ := hw
        have hw := hw.symm
        subst hw
        obtain ⟨j206, hj206, hF⟩ := jn_use hF
        have hJ206 : ∀ (s206 : Int64) (H : Heap) (locs : List Loc) (ls : Array Slot), va_P (dC, dI) vwCl (cM cyI a o41) H → va_D A (cM cyI a o41) → va_S A s.heap H locs → lv_has ls 2 [(0, .ref (a 0))] → j206 s206 = some out → W p l e (headSpec (Cond.code yX6_digest cX6_digest 2 (some .long) :: wT) ({ frames := 5, cells := 0, slots := 0, locals := 114 } : Room)).room s m ([.ref (a 0)] : List Value).toArray below meth c H locs 0 0 (MQ below (va_Ql (fun (r : Int64) (u : MV) => (r, u) = out) (fun u t => va_P (dC, dI) vwCl (cM cyI a u) t.heap ∧ va_D A (cM cyI a u)) A) ([.ref (a 0)] : List Value).toArray s 0 0 A) (F0 m 206 ls [.long s206, .ref (a 0)]) := by
          intro s206 H locs ls hP hD hS hl hF
          have hF := (congrFun hj206 s206).symm.trans hF
          obtain ⟨o46, h47, hF⟩ := obd hF
          refine wcWVv (As := [.long s206]) (rest := []) (wr := []) (b := (a 0)) ⟨hx, hb, hml, hown, hts⟩ (met_X6_takesIn l dC dI cyI cyO cyL a _ N o41 s206 o46 h47) (cwV 1 hts (gV w_methodLink_X6_251 w_instanceMethod_X6_takesIn w_selects_X6_takesIn w_initialized_X6 w_code_X6_takesIn) rfl rfl rfl (by decide +kernel) ⟨Nat.le_of_ble_eq_true rfl, Nat.le_of_ble_eq_true rfl⟩) (va_recv hK.1 hP (ci := 6) (q0 := 0) rfl rfl) hP hD hK [0, 1, 2, 3, 4, 5, 6, 7] [] rfl rfl (by decide) (by decide) (by decide) rfl hl.1 (Nat.le_of_ble_eq_true rfl) dX6_digest_206 ⟨Nat.le_of_ble_eq_true rfl, Nat.le_of_ble_eq_true rfl⟩ hS hA (fun u H locs hw hP hD hS => ?_)
          have hw := hw.symm
          subst hw
          have hP : va_P (dC, dI) vwCl (cM cyI a o46) H := hP
          have hD : va_D A (cM cyI a o46) := hD
          refine lv_aload_n hx hb dX6_digest_209 rfl (lv_at hl 0 rfl) ?_
          refine lv_aload_n hx hb dX6_digest_210 rfl (lv_at hl 0 rfl) ?_
          refine va_get (D := (dC, dI)) (ci := 6) (v := .ref (a 1)) (C := RX6) (T := TX6) (N := 23) hx hb hts inX6 hown hK.1 hP 0 rfl rfl 1 (by decide) (hts _ w_fieldLink_X6_7) (fun _ h9 => h9) rfl dX6_digest_211 ?_
          refine lv_bipush (v := 68) hx hb dX6_digest_214 (by decide) ?_
          refine va_iald hx hb hK.1 hP 1 0 rfl rfl (i := (68 : Int32)) (show ixok (68 : Int32) 103 by decide) dX6_digest_216 ?_
          refine lv_i2l (v := ((M_s o46) (68 : Int32).toNatClampNeg).toInt64) hx hb dX6_digest_217 rfl ?_
          obtain ⟨o49, h50, hF⟩ := obd hF
          refine wcWVv (As := [.long (((M_s o46) (68 : Int32).toNatClampNeg).toInt64)]) (rest := []) (wr := []) (b := (a 0)) ⟨hx, hb, hml, hown, hts⟩ (met_X6_takesIn l dC dI cyI cyO cyL a _ N o46 (((M_s o46) (68 : Int32).toNatClampNeg).toInt64) o49 h50) (cwV 1 hts (gV w_methodLink_X6_251 w_instanceMethod_X6_takesIn w_selects_X6_takesIn w_initialized_X6 w_code_X6_takesIn) rfl rfl rfl (by decide +kernel) ⟨Nat.le_of_ble_eq_true rfl, Nat.le_of_ble_eq_true rfl⟩) (va_recv hK.1 hP (ci := 6) (q0 := 0) rfl rfl) hP hD hK [0, 1, 2, 3, 4, 5, 6, 7] [] rfl rfl (by decide) (by decide) (by decide) rfl hl.1 (Nat.le_of_ble_eq_true rfl) dX6_digest_218 ⟨Nat.le_of_ble_eq_true rfl, Nat.le_of_ble_eq_true rfl⟩ hS hA (fun u H locs hw hP hD hS => ?_)
          have hw := hw.symm
          subst hw
          have hP : va_P (dC, dI) vwCl (cM cyI a o49) H := hP
          have hD : va_D A (cM cyI a o49) := hD
          refine lv_aload_n hx hb dX6_digest_221 rfl (lv_at hl 0 rfl) ?_
          refine lv_aload_n hx hb dX6_digest_222 rfl (lv_at hl 0 rfl) ?_
          refine va_get (D := (dC, dI)) (ci := 6) (v := .ref (a 1)) (C := RX6) (T := TX6) (N := 23) hx hb hts inX6 hown hK.1 hP 0 rfl rfl 1 (by decide) (hts _ w_fieldLink_X6_7) (fun _ h9 => h9) rfl dX6_digest_223 ?_
          refine lv_bipush (v := 69) hx hb dX6_digest_226 (by decide) ?_
          refine va_iald hx hb hK.1 hP 1 0 rfl rfl (i := (69 : Int32)) (show ixok (69 : Int32) 103 by decide) dX6_digest_228 ?_
          refine lv_i2l (v := ((M_s o49) (69 : Int32).toNatClampNeg).toInt64) hx hb dX6_digest_229 rfl ?_
          obtain ⟨o52, h53, hF⟩ := obd hF
          refine wcWVv (As := [.long (((M_s o49) (69 : Int32).toNatClampNeg).toInt64)]) (rest := []) (wr := []) (b := (a 0)) ⟨hx, hb, hml, hown, hts⟩ (met_X6_takesIn l dC dI cyI cyO cyL a _ N o49 (((M_s o49) (69 : Int32).toNatClampNeg).toInt64) o52 h53) (cwV 1 hts (gV w_methodLink_X6_251 w_instanceMethod_X6_takesIn w_selects_X6_takesIn w_initialized_X6 w_code_X6_takesIn) rfl rfl rfl (by decide +kernel) ⟨Nat.le_of_ble_eq_true rfl, Nat.le_of_ble_eq_true rfl⟩) (va_recv hK.1 hP (ci := 6) (q0 := 0) rfl rfl) hP hD hK [0, 1, 2, 3, 4, 5, 6, 7] [] rfl rfl (by decide) (by decide) (by decide) rfl hl.1 (Nat.le_of_ble_eq_true rfl) dX6_digest_230 ⟨Nat.le_of_ble_eq_true rfl, Nat.le_of_ble_eq_true rfl⟩ hS hA (fun u H locs hw hP hD hS => ?_)
          have hw := hw.symm
          subst hw
          have hP : va_P (dC, dI) vwCl (cM cyI a o52) H := hP
          have hD : va_D A (cM cyI a o52) := hD
          refine lv_aload_n hx hb dX6_digest_233 rfl (lv_at hl 0 rfl) ?_
          refine lv_aload_n hx hb dX6_digest_234 rfl (lv_at hl 0 rfl) ?_
          refine va_get (D := (dC, dI)) (ci := 6) (v := .ref (a 1)) (C := RX6) (T := TX6) (N := 23) hx hb hts inX6 hown hK.1 hP 0 rfl rfl 1 (by decide) (hts _ w_fieldLink_X6_7) (fun _ h9 => h9) rfl dX6_digest_235 ?_
          refine lv_bipush (v := 70) hx hb dX6_digest_238 (by decide) ?_
          refine va_iald hx hb hK.1 hP 1 0 rfl rfl (i := (70 : Int32)) (show ixok (70 : Int32) 103 by decide) dX6_digest_240 ?_
          refine lv_i2l (v := ((M_s o52) (70 : Int32).toNatClampNeg).toInt64) hx hb dX6_digest_241 rfl ?_
          obtain ⟨o55, h56, hF⟩ := obd hF
          refine wcWVv (As := [.long (((M_s o52) (70 : Int32).toNatClampNeg).toInt64)]) (rest := []) (wr := []) (b := (a 0)) ⟨hx, hb, hml, hown, hts⟩ (met_X6_takesIn l dC dI cyI cyO cyL a _ N o52 (((M_s o52) (70 : Int32).toNatClampNeg).toInt64) o55 h56) (cwV 1 hts (gV w_methodLink_X6_251 w_instanceMethod_X6_takesIn w_selects_X6_takesIn w_initialized_X6 w_code_X6_takesIn) rfl rfl rfl (by decide +kernel) ⟨Nat.le_of_ble_eq_true rfl, Nat.le_of_ble_eq_true rfl⟩) (va_recv hK.1 hP (ci := 6) (q0 := 0) rfl rfl) hP hD hK [0, 1, 2, 3, 4, 5, 6, 7] [] rfl rfl (by decide) (by decide) (by decide) rfl hl.1 (Nat.le_of_ble_eq_true rfl) dX6_digest_242 ⟨Nat.le_of_ble_eq_true rfl, Nat.le_of_ble_eq_true rfl⟩ hS hA (fun u H locs hw hP hD hS => ?_)
          have hw := hw.symm
          subst hw
          have hP : va_P (dC, dI) vwCl (cM cyI a o55) H := hP
          have hD : va_D A (cM cyI a o55) := hD
          refine lv_iconst (v := 0) hx hb dX6_digest_245 (by decide) ?_
          refine lv_istore_n (lv' := [(1, .int (0 : Int32)), (0, .ref (a 0))]) hx hb dX6_digest_246 rfl hl (by decide) rfl (fun ls hl => ?_)
          obtain ⟨st247, hst247, hF⟩ := lpN_use hF
          have hL247 : ∀ (n : Nat) (s247 : Int32 × MV) (H : Heap) (locs : List Loc) (ls : Array Slot), va_P (dC, dI) vwCl (cM cyI a s247.2) H → va_D A (cM cyI a s247.2) → va_S A s.heap H locs → lv_has ls 2 [(0, .ref (a 0)), (1, .int s247.1)] → lpN st247 n s247 = some out → W p l e (headSpec (Cond.code yX6_digest cX6_digest 2 (some .long) :: wT) ({ frames := 5, cells := 0, slots := 0, locals := 114 } : Room)).room s m ([.ref (a 0)] : List Value).toArray below meth c H locs 0 0 (MQ below (va_Ql (fun (r : Int64) (u : MV) => (r, u) = out) (fun u t => va_P (dC, dI) vwCl (cM cyI a u) t.heap ∧ va_D A (cM cyI a u)) A) ([.ref (a 0)] : List Value).toArray s 0 0 A) (F0 m 247 ls []) := by
            intro n
            induction n with
            | zero => intro s247 H locs ls hP hD hS hl hF; exact lpN_0 hF
            | succ n ih247 =>
              intro s247 H locs ls hP hD hS hl hF
              have hF := (congrFun (congrFun hst247 s247) (lpN st247 n)).symm.trans (lpN_s hF)
              refine lv_iload_n hx hb dX6_digest_247 rfl (lv_at hl 1 rfl) ?_
              refine lv_aload_n hx hb dX6_digest_248 rfl (lv_at hl 0 rfl) ?_
              refine va_get (D := (dC, dI)) (ci := 6) (v := .ref (a 1)) (C := RX6) (T := TX6) (N := 23) hx hb hts inX6 hown hK.1 hP 0 rfl rfl 1 (by decide) (hts _ w_fieldLink_X6_7) (fun _ h9 => h9) rfl dX6_digest_249 ?_
              refine lv_bipush (v := 70) hx hb dX6_digest_252 (by decide) ?_
              refine va_iald hx hb hK.1 hP 1 0 rfl rfl (i := (70 : Int32)) (show ixok (70 : Int32) 103 by decide) dX6_digest_254 ?_
              refine lv_icmp_ge (tgt := 278) hx hb dX6_digest_255 (by decide) (fun c58 => ?_) (fun c58 => ?_)
              · have hF := itp c58 hF
                refine lv_iconst (v := 0) hx hb dX6_digest_278 (by decide) ?_
                refine lv_istore_n (lv' := [(1, .int (0 : Int32)), (0, .ref (a 0))]) hx hb dX6_digest_279 rfl hl (by decide) rfl (fun ls hl => ?_)
                obtain ⟨st280, hst280, hF⟩ := lpN_use hF
                have hL280 : ∀ (n : Nat) (s280 : Int32 × MV) (H : Heap) (locs : List Loc) (ls : Array Slot), va_P (dC, dI) vwCl (cM cyI a s280.2) H → va_D A (cM cyI a s280.2) → va_S A s.heap H locs → lv_has ls 2 [(0, .ref (a 0)), (1, .int s280.1)] → lpN st280 n s280 = some out → W p l e (headSpec (Cond.code yX6_digest cX6_digest 2 (some .long) :: wT) ({ frames := 5, cells := 0, slots := 0, locals := 114 } : Room)).room s m ([.ref (a 0)] : List Value).toArray below meth c H locs 0 0 (MQ below (va_Ql (fun (r : Int64) (u : MV) => (r, u) = out) (fun u t => va_P (dC, dI) vwCl (cM cyI a u) t.heap ∧ va_D A (cM cyI a u)) A) ([.ref (a 0)] : List Value).toArray s 0 0 A) (F0 m 280 ls []) := by
                  intro n
                  induction n with
                  | zero => intro s280 H locs ls hP hD hS hl hF; exact lpN_0 hF
                  | succ n ih280 =>
                    intro s280 H locs ls hP hD hS hl hF
                    have hF := (congrFun (congrFun hst280 s280) (lpN st280 n)).symm.trans (lpN_s hF)
                    refine lv_iload_n hx hb dX6_digest_280 rfl (lv_at hl 1 rfl) ?_
                    refine lv_bipush (v := 17) hx hb dX6_digest_281 (by decide) ?_
                    refine lv_icmp_ge (tgt := 306) hx hb dX6_digest_283 (by decide) (fun c59 => ?_) (fun c59 => ?_)
                    · have hF := itp c59 hF
                      refine lv_aload_n hx hb dX6_digest_306 rfl (lv_at hl 0 rfl) ?_
                      refine lv_aload_n hx hb dX6_digest_307 rfl (lv_at hl 0 rfl) ?_
                      obtain ⟨o60, h61, hF⟩ := obd hF
                      refine wcRVi (As := []) (rest := [.ref (a 0)]) (b := (a 0)) ⟨hx, hb, hml, hown, hts⟩ (met_X6_row l dC dI cyI cyO cyL a N s280.2  o60 h61) (cwV 0 hts (gV w_methodLink_X6_232 w_instanceMethod_X6_row w_selects_X6_row w_initialized_X6 w_code_X6_row) rfl rfl rfl (by decide +kernel) ⟨Nat.le_of_ble_eq_true rfl, Nat.le_of_ble_eq_true rfl⟩) (va_recv hK.1 hP (ci := 6) (q0 := 0) rfl rfl) hP hK [0, 1, 2, 3, 4, 5, 6, 7] rfl rfl hl.1 (Nat.le_of_ble_eq_true rfl) dX6_digest_308 ⟨Nat.le_of_ble_eq_true rfl, Nat.le_of_ble_eq_true rfl⟩ hS (fun r H locs hw hP hS => ?_)
                      have hw := hw.symm
                      subst hw
                      refine lv_i2l (v := (o60).toInt64) hx hb dX6_digest_311 rfl ?_
                      obtain ⟨o62, h63, hF⟩ := obd hF
                      refine wcWVv (As := [.long ((o60).toInt64)]) (rest := []) (wr := []) (b := (a 0)) ⟨hx, hb, hml, hown, hts⟩ (met_X6_takesIn l dC dI cyI cyO cyL a _ N s280.2 ((o60).toInt64) o62 h63) (cwV 1 hts (gV w_methodLink_X6_251 w_instanceMethod_X6_takesIn w_selects_X6_takesIn w_initialized_X6 w_code_X6_takesIn) rfl rfl rfl (by decide +kernel) ⟨Nat.le_of_ble_eq_true rfl, Nat.le_of_ble_eq_true rfl⟩) (va_recv hK.1 hP (ci := 6) (q0 := 0) rfl rfl) hP hD hK [0, 1, 2, 3, 4, 5, 6, 7] [] rfl rfl (by decide) (by decide) (by decide) rfl hl.1 (Nat.le_of_ble_eq_true rfl) dX6_digest_312 ⟨Nat.le_of_ble_eq_true rfl, Nat.le_of_ble_eq_true rfl⟩ hS hA (fun u H locs hw hP hD hS => ?_)
                      have hw := hw.symm
                      subst hw
                      have hP : va_P (dC, dI) vwCl (cM cyI a o62) H := hP
                      have hD : va_D A (cM cyI a o62) := hD
                      refine lv_aload_n hx hb dX6_digest_315 rfl (lv_at hl 0 rfl) ?_
                      refine lv_aload_n hx hb dX6_digest_316 rfl (lv_at hl 0 rfl) ?_
                      refine va_get (D := (dC, dI)) (ci := 6) (v := .ref (a 1)) (C := RX6) (T := TX6) (N := 23) hx hb hts inX6 hown hK.1 hP 0 rfl rfl 1 (by decide) (hts _ w_fieldLink_X6_7) (fun _ h9 => h9) rfl dX6_digest_317 ?_
                      refine lv_bipush (v := 100) hx hb dX6_digest_320 (by decide) ?_
                      refine va_iald hx hb hK.1 hP 1 0 rfl rfl (i := (100 : Int32)) (show ixok (100 : Int32) 103 by decide) dX6_digest_322 ?_
                      refine lv_i2l (v := ((M_s o62) (100 : Int32).toNatClampNeg).toInt64) hx hb dX6_digest_323 rfl ?_
                      obtain ⟨o65, h66, hF⟩ := obd hF
                      refine wcWVv (As := [.long (((M_s o62) (100 : Int32).toNatClampNeg).toInt64)]) (rest := []) (wr := []) (b := (a 0)) ⟨hx, hb, hml, hown, hts⟩ (met_X6_takesIn l dC dI cyI cyO cyL a _ N o62 (((M_s o62) (100 : Int32).toNatClampNeg).toInt64) o65 h66) (cwV 1 hts (gV w_methodLink_X6_251 w_instanceMethod_X6_takesIn w_selects_X6_takesIn w_initialized_X6 w_code_X6_takesIn) rfl rfl rfl (by decide +kernel) ⟨Nat.le_of_ble_eq_true rfl, Nat.le_of_ble_eq_true rfl⟩) (va_recv hK.1 hP (ci := 6) (q0 := 0) rfl rfl) hP hD hK [0, 1, 2, 3, 4, 5, 6, 7] [] rfl rfl (by decide) (by decide) (by decide) rfl hl.1 (Nat.le_of_ble_eq_true rfl) dX6_digest_324 ⟨Nat.le_of_ble_eq_true rfl, Nat.le_of_ble_eq_true rfl⟩ hS hA (fun u H locs hw hP hD hS => ?_)
                      have hw := hw.symm
                      subst hw
                      have hP : va_P (dC, dI) vwCl (cM cyI a o65) H := hP
                      have hD : va_D A (cM cyI a o65) := hD
                      refine lv_aload_n hx hb dX6_digest_327 rfl (lv_at hl 0 rfl) ?_
                      refine lv_aload_n hx hb dX6_digest_328 rfl (lv_at hl 0 rfl) ?_
                      refine va_get (D := (dC, dI)) (ci := 6) (v := .ref (a 1)) (C := RX6) (T := TX6) (N := 23) hx hb hts inX6 hown hK.1 hP 0 rfl rfl 1 (by decide) (hts _ w_fieldLink_X6_7) (fun _ h9 => h9) rfl dX6_digest_329 ?_
                      refine lv_bipush (v := 101) hx hb dX6_digest_332 (by decide) ?_
                      refine va_iald hx hb hK.1 hP 1 0 rfl rfl (i := (101 : Int32)) (show ixok (101 : Int32) 103 by decide) dX6_digest_334 ?_
                      refine lv_i2l (v := ((M_s o65) (101 : Int32).toNatClampNeg).toInt64) hx hb dX6_digest_335 rfl ?_
                      obtain ⟨o68, h69, hF⟩ := obd hF
                      refine wcWVv (As := [.long (((M_s o65) (101 : Int32).toNatClampNeg).toInt64)]) (rest := []) (wr := []) (b := (a 0)) ⟨hx, hb, hml, hown, hts⟩ (met_X6_takesIn l dC dI cyI cyO cyL a _ N o65 (((M_s o65) (101 : Int32).toNatClampNeg).toInt64) o68 h69) (cwV 1 hts (gV w_methodLink_X6_251 w_instanceMethod_X6_takesIn w_selects_X6_takesIn w_initialized_X6 w_code_X6_takesIn) rfl rfl rfl (by decide +kernel) ⟨Nat.le_of_ble_eq_true rfl, Nat.le_of_ble_eq_true rfl⟩) (va_recv hK.1 hP (ci := 6) (q0 := 0) rfl rfl) hP hD hK [0, 1, 2, 3, 4, 5, 6, 7] [] rfl rfl (by decide) (by decide) (by decide) rfl hl.1 (Nat.le_of_ble_eq_true rfl) dX6_digest_336 ⟨Nat.le_of_ble_eq_true rfl, Nat.le_of_ble_eq_true rfl⟩ hS hA (fun u H locs hw hP hD hS => ?_)
                      have hw := hw.symm
                      subst hw
                      have hP : va_P (dC, dI) vwCl (cM cyI a o68) H := hP
                      have hD : va_D A (cM cyI a o68) := hD
                      refine lv_aload_n hx hb dX6_digest_339 rfl (lv_at hl 0 rfl) ?_
                      refine lv_aload_n hx hb dX6_digest_340 rfl (lv_at hl 0 rfl) ?_
                      refine va_get (D := (dC, dI)) (ci := 6) (v := .ref (a 1)) (C := RX6) (T := TX6) (N := 23) hx hb hts inX6 hown hK.1 hP 0 rfl rfl 1 (by decide) (hts _ w_fieldLink_X6_7) (fun _ h9 => h9) rfl dX6_digest_341 ?_
                      refine lv_bipush (v := 102) hx hb dX6_digest_344 (by decide) ?_
                      refine va_iald hx hb hK.1 hP 1 0 rfl rfl (i := (102 : Int32)) (show ixok (102 : Int32) 103 by decide) dX6_digest_346 ?_
                      refine lv_i2l (v := ((M_s o68) (102 : Int32).toNatClampNeg).toInt64) hx hb dX6_digest_347 rfl ?_
                      obtain ⟨o71, h72, hF⟩ := obd hF
                      refine wcWVv (As := [.long (((M_s o68) (102 : Int32).toNatClampNeg).toInt64)]) (rest := []) (wr := []) (b := (a 0)) ⟨hx, hb, hml, hown, hts⟩ (met_X6_takesIn l dC dI cyI cyO cyL a _ N o68 (((M_s o68) (102 : Int32).toNatClampNeg).toInt64) o71 h72) (cwV 1 hts (gV w_methodLink_X6_251 w_instanceMethod_X6_takesIn w_selects_X6_takesIn w_initialized_X6 w_code_X6_takesIn) rfl rfl rfl (by decide +kernel) ⟨Nat.le_of_ble_eq_true rfl, Nat.le_of_ble_eq_true rfl⟩) (va_recv hK.1 hP (ci := 6) (q0 := 0) rfl rfl) hP hD hK [0, 1, 2, 3, 4, 5, 6, 7] [] rfl rfl (by decide) (by decide) (by decide) rfl hl.1 (Nat.le_of_ble_eq_true rfl) dX6_digest_348 ⟨Nat.le_of_ble_eq_true rfl, Nat.le_of_ble_eq_true rfl⟩ hS hA (fun u H locs hw hP hD hS => ?_)
                      have hw := hw.symm
                      subst hw
                      have hP : va_P (dC, dI) vwCl (cM cyI a o71) H := hP
                      have hD : va_D A (cM cyI a o71) := hD
                      refine lv_aload_n hx hb dX6_digest_351 rfl (lv_at hl 0 rfl) ?_
                      refine lv_aload_n hx hb dX6_digest_352 rfl (lv_at hl 0 rfl) ?_
                      refine va_get (D := (dC, dI)) (ci := 6) (v := .ref (a 1)) (C := RX6) (T := TX6) (N := 23) hx hb hts inX6 hown hK.1 hP 0 rfl rfl 1 (by decide) (hts _ w_fieldLink_X6_7) (fun _ h9 => h9) rfl dX6_digest_353 ?_
                      refine lv_bipush (v := 61) hx hb dX6_digest_356 (by decide) ?_
                      refine va_iald hx hb hK.1 hP 1 0 rfl rfl (i := (61 : Int32)) (show ixok (61 : Int32) 103 by decide) dX6_digest_358 ?_
                      refine lv_i2l (v := ((M_s o71) (61 : Int32).toNatClampNeg).toInt64) hx hb dX6_digest_359 rfl ?_
                      obtain ⟨o74, h75, hF⟩ := obd hF
                      refine wcWVv (As := [.long (((M_s o71) (61 : Int32).toNatClampNeg).toInt64)]) (rest := []) (wr := []) (b := (a 0)) ⟨hx, hb, hml, hown, hts⟩ (met_X6_takesIn l dC dI cyI cyO cyL a _ N o71 (((M_s o71) (61 : Int32).toNatClampNeg).toInt64) o74 h75) (cwV 1 hts (gV w_methodLink_X6_251 w_instanceMethod_X6_takesIn w_selects_X6_takesIn w_initialized_X6 w_code_X6_takesIn) rfl rfl rfl (by decide +kernel) ⟨Nat.le_of_ble_eq_true rfl, Nat.le_of_ble_eq_true rfl⟩) (va_recv hK.1 hP (ci := 6) (q0 := 0) rfl rfl) hP hD hK [0, 1, 2, 3, 4, 5, 6, 7] [] rfl rfl (by decide) (by decide) (by decide) rfl hl.1 (Nat.le_of_ble_eq_true rfl) dX6_digest_360 ⟨Nat.le_of_ble_eq_true rfl, Nat.le_of_ble_eq_true rfl⟩ hS hA (fun u H locs hw hP hD hS => ?_)
                      have hw := hw.symm
                      subst hw
                      have hP : va_P (dC, dI) vwCl (cM cyI a o74) H := hP
                      have hD : va_D A (cM cyI a o74) := hD
                      refine lv_aload_n hx hb dX6_digest_363 rfl (lv_at hl 0 rfl) ?_
                      refine lv_aload_n hx hb dX6_digest_364 rfl (lv_at hl 0 rfl) ?_
                      refine va_get (D := (dC, dI)) (ci := 6) (v := .ref (a 1)) (C := RX6) (T := TX6) (N := 23) hx hb hts inX6 hown hK.1 hP 0 rfl rfl 1 (by decide) (hts _ w_fieldLink_X6_7) (fun _ h9 => h9) rfl dX6_digest_365 ?_
                      refine lv_bipush (v := 62) hx hb dX6_digest_368 (by decide) ?_
                      refine va_iald hx hb hK.1 hP 1 0 rfl rfl (i := (62 : Int32)) (show ixok (62 : Int32) 103 by decide) dX6_digest_370 ?_
                      refine lv_i2l (v := ((M_s o74) (62 : Int32).toNatClampNeg).toInt64) hx hb dX6_digest_371 rfl ?_
                      obtain ⟨o77, h78, hF⟩ := obd hF
                      refine wcWVv (As := [.long (((M_s o74) (62 : Int32).toNatClampNeg).toInt64)]) (rest := []) (wr := []) (b := (a 0)) ⟨hx, hb, hml, hown, hts⟩ (met_X6_takesIn l dC dI cyI cyO cyL a _ N o74 (((M_s o74) (62 : Int32).toNatClampNeg).toInt64) o77 h78) (cwV 1 hts (gV w_methodLink_X6_251 w_instanceMethod_X6_takesIn w_selects_X6_takesIn w_initialized_X6 w_code_X6_takesIn) rfl rfl rfl (by decide +kernel) ⟨Nat.le_of_ble_eq_true rfl, Nat.le_of_ble_eq_true rfl⟩) (va_recv hK.1 hP (ci := 6) (q0 := 0) rfl rfl) hP hD hK [0, 1, 2, 3, 4, 5, 6, 7] [] rfl rfl (by decide) (by decide) (by decide) rfl hl.1 (Nat.le_of_ble_eq_true rfl) dX6_digest_372 ⟨Nat.le_of_ble_eq_true rfl, Nat.le_of_ble_eq_true rfl⟩ hS hA (fun u H locs hw hP hD hS => ?_)
                      have hw := hw.symm
                      subst hw
                      have hP : va_P (dC, dI) vwCl (cM cyI a o77) H := hP
                      have hD : va_D A (cM cyI a o77) := hD
                      refine lv_aload_n hx hb dX6_digest_375 rfl (lv_at hl 0 rfl) ?_
                      refine lv_aload_n hx hb dX6_digest_376 rfl (lv_at hl 0 rfl) ?_
                      refine va_get (D := (dC, dI)) (ci := 6) (v := .ref (a 1)) (C := RX6) (T := TX6) (N := 23) hx hb hts inX6 hown hK.1 hP 0 rfl rfl 1 (by decide) (hts _ w_fieldLink_X6_7) (fun _ h9 => h9) rfl dX6_digest_377 ?_
                      refine lv_bipush (v := 63) hx hb dX6_digest_380 (by decide) ?_
                      refine va_iald hx hb hK.1 hP 1 0 rfl rfl (i := (63 : Int32)) (show ixok (63 : Int32) 103 by decide) dX6_digest_382 ?_
                      refine lv_i2l (v := ((M_s o77) (63 : Int32).toNatClampNeg).toInt64) hx hb dX6_digest_383 rfl ?_
                      obtain ⟨o80, h81, hF⟩ := obd hF
                      refine wcWVv (As := [.long (((M_s o77) (63 : Int32).toNatClampNeg).toInt64)]) (rest := []) (wr := []) (b := (a 0)) ⟨hx, hb, hml, hown, hts⟩ (met_X6_takesIn l dC dI cyI cyO cyL a _ N o77 (((M_s o77) (63 : Int32).toNatClampNeg).toInt64) o80 h81) (cwV 1 hts (gV w_methodLink_X6_251 w_instanceMethod_X6_takesIn w_selects_X6_takesIn w_initialized_X6 w_code_X6_takesIn) rfl rfl rfl (by decide +kernel) ⟨Nat.le_of_ble_eq_true rfl, Nat.le_of_ble_eq_true rfl⟩) (va_recv hK.1 hP (ci := 6) (q0 := 0) rfl rfl) hP hD hK [0, 1, 2, 3, 4, 5, 6, 7] [] rfl rfl (by decide) (by decide) (by decide) rfl hl.1 (Nat.le_of_ble_eq_true rfl) dX6_digest_384 ⟨Nat.le_of_ble_eq_true rfl, Nat.le_of_ble_eq_true rfl⟩ hS hA (fun u H locs hw hP hD hS => ?_)
                      have hw := hw.symm
                      subst hw
                      have hP : va_P (dC, dI) vwCl (cM cyI a o80) H := hP
                      have hD : va_D A (cM cyI a o80) := hD
                      refine lv_aload_n hx hb dX6_digest_387 rfl (lv_at hl 0 rfl) ?_
                      refine lv_aload_n hx hb dX6_digest_388 rfl (lv_at hl 0 rfl) ?_
                      refine va_get (D := (dC, dI)) (ci := 6) (v := .ref (a 1)) (C := RX6) (T := TX6) (N := 23) hx hb hts inX6 hown hK.1 hP 0 rfl rfl 1 (by decide) (hts _ w_fieldLink_X6_7) (fun _ h9 => h9) rfl dX6_digest_389 ?_
                      refine lv_bipush (v := 64) hx hb dX6_digest_392 (by decide) ?_
                      refine va_iald hx hb hK.1 hP 1 0 rfl rfl (i := (64 : Int32)) (show ixok (64 : Int32) 103 by decide) dX6_digest_394 ?_
                      refine lv_i2l (v := ((M_s o80) (64 : Int32).toNatClampNeg).toInt64) hx hb dX6_digest_395 rfl ?_
                      obtain ⟨o83, h84, hF⟩ := obd hF
                      refine wcWVv (As := [.long (((M_s o80) (64 : Int32).toNatClampNeg).toInt64)]) (rest := []) (wr := []) (b := (a 0)) ⟨hx, hb, hml, hown, hts⟩ (met_X6_takesIn l dC dI cyI cyO cyL a _ N o80 (((M_s o80) (64 : Int32).toNatClampNeg).toInt64) o83 h84) (cwV 1 hts (gV w_methodLink_X6_251 w_instanceMethod_X6_takesIn w_selects_X6_takesIn w_initialized_X6 w_code_X6_takesIn) rfl rfl rfl (by decide +kernel) ⟨Nat.le_of_ble_eq_true rfl, Nat.le_of_ble_eq_true rfl⟩) (va_recv hK.1 hP (ci := 6) (q0 := 0) rfl rfl) hP hD hK [0, 1, 2, 3, 4, 5, 6, 7] [] rfl rfl (by decide) (by decide) (by decide) rfl hl.1 (Nat.le_of_ble_eq_true rfl) dX6_digest_396 ⟨Nat.le_of_ble_eq_true rfl, Nat.le_of_ble_eq_true rfl⟩ hS hA (fun u H locs hw hP hD hS => ?_)
                      have hw := hw.symm
                      subst hw
                      have hP : va_P (dC, dI) vwCl (cM cyI a o83) H := hP
                      have hD : va_D A (cM cyI a o83) := hD
                      refine lv_aload_n hx hb dX6_digest_399 rfl (lv_at hl 0 rfl) ?_
                      refine lv_aload_n hx hb dX6_digest_400 rfl (lv_at hl 0 rfl) ?_
                      refine va_get (D := (dC, dI)) (ci := 6) (v := .int (M_savedMany o83)) (C := RX6) (T := TX6) (N := 23) hx hb hts inX6 hown hK.1 hP 0 rfl rfl 5 (by decide) (hts _ w_fieldLink_X6_39) (fun _ h9 => h9) rfl dX6_digest_401 ?_
                      refine lv_i2l (v := (M_savedMany o83).toInt64) hx hb dX6_digest_404 rfl ?_
                      obtain ⟨o85, h86, hF⟩ := obd hF
                      refine wcWVv (As := [.long ((M_savedMany o83).toInt64)]) (rest := []) (wr := []) (b := (a 0)) ⟨hx, hb, hml, hown, hts⟩ (met_X6_takesIn l dC dI cyI cyO cyL a _ N o83 ((M_savedMany o83).toInt64) o85 h86) (cwV 1 hts (gV w_methodLink_X6_251 w_instanceMethod_X6_takesIn w_selects_X6_takesIn w_initialized_X6 w_code_X6_takesIn) rfl rfl rfl (by decide +kernel) ⟨Nat.le_of_ble_eq_true rfl, Nat.le_of_ble_eq_true rfl⟩) (va_recv hK.1 hP (ci := 6) (q0 := 0) rfl rfl) hP hD hK [0, 1, 2, 3, 4, 5, 6, 7] [] rfl rfl (by decide) (by decide) (by decide) rfl hl.1 (Nat.le_of_ble_eq_true rfl) dX6_digest_405 ⟨Nat.le_of_ble_eq_true rfl, Nat.le_of_ble_eq_true rfl⟩ hS hA (fun u H locs hw hP hD hS => ?_)
                      have hw := hw.symm
                      subst hw
                      have hP : va_P (dC, dI) vwCl (cM cyI a o85) H := hP
                      have hD : va_D A (cM cyI a o85) := hD
                      refine lv_aload_n hx hb dX6_digest_408 rfl (lv_at hl 0 rfl) ?_
                      refine lv_aload_n hx hb dX6_digest_409 rfl (lv_at hl 0 rfl) ?_
                      obtain ⟨o87, h88, hF⟩ := obd hF
                      refine wcRVd (As := []) (rest := [.ref (a 0)]) (b := (a 0)) ⟨hx, hb, hml, hown, hts⟩ (met_X6_mean l dC dI cyI cyO cyL a N o85  o87 h88) (cwV 0 hts (gV w_methodLink_X6_235 w_instanceMethod_X6_mean w_selects_X6_mean w_initialized_X6 w_code_X6_mean) rfl rfl rfl (by decide +kernel) ⟨Nat.le_of_ble_eq_true rfl, Nat.le_of_ble_eq_true rfl⟩) (va_recv hK.1 hP (ci := 6) (q0 := 0) rfl rfl) hP hK [0, 1, 2, 3, 4, 5, 6, 7] rfl rfl hl.1 (Nat.le_of_ble_eq_true rfl) dX6_digest_410 ⟨Nat.le_of_ble_eq_true rfl, Nat.le_of_ble_eq_true rfl⟩ hS (fun r H locs hw hP hS => ?_)
                      have hw := hw.symm
                      subst hw
                      obtain ⟨o89, h90, hF⟩ := obd hF
                      refine wcRSl (As := [.double o87]) (rest := [.ref (a 0)]) ⟨hx, hb, hml, hown, hts⟩ (met_X6_bitsOf l dC dI cyI cyO cyL  N  o87 o89 h90) (va_cwS 1 hts (gS w_methodLink_X6_262 w_static_X6_bitsOf w_initialized_X6 w_code_X6_bitsOf) rfl rfl rfl (by decide +kernel) ⟨Nat.le_of_ble_eq_true rfl, Nat.le_of_ble_eq_true rfl⟩) hP hK [] rfl rfl hl.1 (Nat.le_of_ble_eq_true rfl) dX6_digest_413 ⟨Nat.le_of_ble_eq_true rfl, Nat.le_of_ble_eq_true rfl⟩ hS (fun r H locs hw hP hS => ?_)
                      have hw := hw.symm
                      subst hw
                      obtain ⟨o91, h92, hF⟩ := obd hF
                      refine wcWVv (As := [.long o89]) (rest := []) (wr := []) (b := (a 0)) ⟨hx, hb, hml, hown, hts⟩ (met_X6_takesIn l dC dI cyI cyO cyL a _ N o85 o89 o91 h92) (cwV 1 hts (gV w_methodLink_X6_251 w_instanceMethod_X6_takesIn w_selects_X6_takesIn w_initialized_X6 w_code_X6_takesIn) rfl rfl rfl (by decide +kernel) ⟨Nat.le_of_ble_eq_true rfl, Nat.le_of_ble_eq_true rfl⟩) (va_recv hK.1 hP (ci := 6) (q0 := 0) rfl rfl) hP hD hK [0, 1, 2, 3, 4, 5, 6, 7] [] rfl rfl (by decide) (by decide) (by decide) rfl hl.1 (Nat.le_of_ble_eq_true rfl) dX6_digest_416 ⟨Nat.le_of_ble_eq_true rfl, Nat.le_of_ble_eq_true rfl⟩ hS hA (fun u H locs hw hP hD hS => ?_)
                      have hw := hw.symm
                      subst hw
                      have hP : va_P (dC, dI) vwCl (cM cyI a o91) H := hP
                      have hD : va_D A (cM cyI a o91) := hD
                      refine lv_aload_n hx hb dX6_digest_419 rfl (lv_at hl 0 rfl) ?_
                      refine lv_aload_n hx hb dX6_digest_420 rfl (lv_at hl 0 rfl) ?_
                      refine va_get (D := (dC, dI)) (ci := 6) (v := .int (M_kept o91)) (C := RX6) (T := TX6) (N := 23) hx hb hts inX6 hown hK.1 hP 0 rfl rfl 7 (by decide) (hts _ w_fieldLink_X6_192) (fun _ h9 => h9) rfl dX6_digest_421 ?_
                      refine lv_iconst (v := 1) hx hb dX6_digest_424 (by decide) ?_
                      refine lv_iand hx hb dX6_digest_425 ?_
                      refine lv_i2l (v := ((M_kept o91) &&& (1 : Int32)).toInt64) hx hb dX6_digest_426 rfl ?_
                      obtain ⟨o93, h94, hF⟩ := obd hF
                      refine wcWVv (As := [.long (((M_kept o91) &&& (1 : Int32)).toInt64)]) (rest := []) (wr := []) (b := (a 0)) ⟨hx, hb, hml, hown, hts⟩ (met_X6_takesIn l dC dI cyI cyO cyL a _ N o91 (((M_kept o91) &&& (1 : Int32)).toInt64) o93 h94) (cwV 1 hts (gV w_methodLink_X6_251 w_instanceMethod_X6_takesIn w_selects_X6_takesIn w_initialized_X6 w_code_X6_takesIn) rfl rfl rfl (by decide +kernel) ⟨Nat.le_of_ble_eq_true rfl, Nat.le_of_ble_eq_true rfl⟩) (va_recv hK.1 hP (ci := 6) (q0 := 0) rfl rfl) hP hD hK [0, 1, 2, 3, 4, 5, 6, 7] [] rfl rfl (by decide) (by decide) (by decide) rfl hl.1 (Nat.le_of_ble_eq_true rfl) dX6_digest_427 ⟨Nat.le_of_ble_eq_true rfl, Nat.le_of_ble_eq_true rfl⟩ hS hA (fun u H locs hw hP hD hS => ?_)
                      have hw := hw.symm
                      subst hw
                      have hP : va_P (dC, dI) vwCl (cM cyI a o93) H := hP
                      have hD : va_D A (cM cyI a o93) := hD
                      refine lv_aload_n hx hb dX6_digest_430 rfl (lv_at hl 0 rfl) ?_
                      refine lv_aload_n hx hb dX6_digest_431 rfl (lv_at hl 0 rfl) ?_
                      refine va_get (D := (dC, dI)) (ci := 6) (v := .int (M_kept o93)) (C := RX6) (T := TX6) (N := 23) hx hb hts inX6 hown hK.1 hP 0 rfl rfl 7 (by decide) (hts _ w_fieldLink_X6_192) (fun _ h9 => h9) rfl dX6_digest_432 ?_
                      refine lv_iconst (v := 1) hx hb dX6_digest_435 (by decide) ?_
                      refine lv_ishr hx hb dX6_digest_436 ?_
                      refine lv_iconst (v := 1) hx hb dX6_digest_437 (by decide) ?_
                      refine lv_iand hx hb dX6_digest_438 ?_
                      refine lv_i2l (v := (((M_kept o93) >>> ((1 : Int32) &&& 31)) &&& (1 : Int32)).toInt64) hx hb dX6_digest_439 rfl ?_
                      obtain ⟨o95, h96, hF⟩ := obd hF
                      refine wcWVv (As := [.long ((((M_kept o93) >>> ((1 : Int32) &&& 31)) &&& (1 : Int32)).toInt64)]) (rest := []) (wr := []) (b := (a 0)) ⟨hx, hb, hml, hown, hts⟩ (met_X6_takesIn l dC dI cyI cyO cyL a _ N o93 ((((M_kept o93) >>> ((1 : Int32) &&& 31)) &&& (1 : Int32)).toInt64) o95 h96) (cwV 1 hts (gV w_methodLink_X6_251 w_instanceMethod_X6_takesIn w_selects_X6_takesIn w_initialized_X6 w_code_X6_takesIn) rfl rfl rfl (by decide +kernel) ⟨Nat.le_of_ble_eq_true rfl, Nat.le_of_ble_eq_true rfl⟩) (va_recv hK.1 hP (ci := 6) (q0 := 0) rfl rfl) hP hD hK [0, 1, 2, 3, 4, 5, 6, 7] [] rfl rfl (by decide) (by decide) (by decide) rfl hl.1 (Nat.le_of_ble_eq_true rfl) dX6_digest_440 ⟨Nat.le_of_ble_eq_true rfl, Nat.le_of_ble_eq_true rfl⟩ hS hA (fun u H locs hw hP hD hS => ?_)
                      have hw := hw.symm
                      subst hw
                      have hP : va_P (dC, dI) vwCl (cM cyI a o95) H := hP
                      have hD : va_D A (cM cyI a o95) := hD
                      refine lv_aload_n hx hb dX6_digest_443 rfl (lv_at hl 0 rfl) ?_
                      refine lv_aload_n hx hb dX6_digest_444 rfl (lv_at hl 0 rfl) ?_
                      refine va_get (D := (dC, dI)) (ci := 6) (v := .int (M_length o95)) (C := RX6) (T := TX6) (N := 23) hx hb hts inX6 hown hK.1 hP 0 rfl rfl 9 (by decide) (hts _ w_fieldLink_X6_135) (fun _ h9 => h9) rfl dX6_digest_445 ?_
                      refine lv_i2l (v := (M_length o95).toInt64) hx hb dX6_digest_448 rfl ?_
                      obtain ⟨o97, h98, hF⟩ := obd hF
                      refine wcWVv (As := [.long ((M_length o95).toInt64)]) (rest := []) (wr := []) (b := (a 0)) ⟨hx, hb, hml, hown, hts⟩ (met_X6_takesIn l dC dI cyI cyO cyL a _ N o95 ((M_length o95).toInt64) o97 h98) (cwV 1 hts (gV w_methodLink_X6_251 w_instanceMethod_X6_takesIn w_selects_X6_takesIn w_initialized_X6 w_code_X6_takesIn) rfl rfl rfl (by decide +kernel) ⟨Nat.le_of_ble_eq_true rfl, Nat.le_of_ble_eq_true rfl⟩) (va_recv hK.1 hP (ci := 6) (q0 := 0) rfl rfl) hP hD hK [0, 1, 2, 3, 4, 5, 6, 7] [] rfl rfl (by decide) (by decide) (by decide) rfl hl.1 (Nat.le_of_ble_eq_true rfl) dX6_digest_449 ⟨Nat.le_of_ble_eq_true rfl, Nat.le_of_ble_eq_true rfl⟩ hS hA (fun u H locs hw hP hD hS => ?_)
                      have hw := hw.symm
                      subst hw
                      have hP : va_P (dC, dI) vwCl (cM cyI a o97) H := hP
                      have hD : va_D A (cM cyI a o97) := hD
                      refine lv_iconst (v := 0) hx hb dX6_digest_452 (by decide) ?_
                      refine lv_istore_n (lv' := [(1, .int (0 : Int32)), (0, .ref (a 0))]) hx hb dX6_digest_453 rfl hl (by decide) rfl (fun ls hl => ?_)
                      obtain ⟨st454, hst454, hF⟩ := lpN_use hF
                      have hL454 : ∀ (n : Nat) (s454 : Int32 × MV) (H : Heap) (locs : List Loc) (ls : Array Slot), va_P (dC, dI) vwCl (cM cyI a s454.2) H → va_D A (cM cyI a s454.2) → va_S A s.heap H locs → lv_has ls 2 [(0, .ref (a 0)), (1, .int s454.1)] → lpN st454 n s454 = some out → W p l e (headSpec (Cond.code yX6_digest cX6_digest 2 (some .long) :: wT) ({ frames := 5, cells := 0, slots := 0, locals := 114 } : Room)).room s m ([.ref (a 0)] : List Value).toArray below meth c H locs 0 0 (MQ below (va_Ql (fun (r : Int64) (u : MV) => (r, u) = out) (fun u t => va_P (dC, dI) vwCl (cM cyI a u) t.heap ∧ va_D A (cM cyI a u)) A) ([.ref (a 0)] : List Value).toArray s 0 0 A) (F0 m 454 ls []) := by
                        intro n
                        induction n with
                        | zero => intro s454 H locs ls hP hD hS hl hF; exact lpN_0 hF
                        | succ n ih454 =>
                          intro s454 H locs ls hP hD hS hl hF
                          have hF := (congrFun (congrFun hst454 s454) (lpN st454 n)).symm.trans (lpN_s hF)
                          refine lv_iload_n hx hb dX6_digest_454 rfl (lv_at hl 1 rfl) ?_
                          refine lv_aload_n hx hb dX6_digest_455 rfl (lv_at hl 0 rfl) ?_
                          refine va_get (D := (dC, dI)) (ci := 6) (v := .int (M_length s454.2)) (C := RX6) (T := TX6) (N := 23) hx hb hts inX6 hown hK.1 hP 0 rfl rfl 9 (by decide) (hts _ w_fieldLink_X6_135) (fun _ h9 => h9) rfl dX6_digest_456 ?_
                          refine lv_icmp_ge (tgt := 479) hx hb dX6_digest_459 (by decide) (fun c99 => ?_) (fun c99 => ?_)
                          · have hF := itp c99 hF
                            refine lv_aload_n hx hb dX6_digest_479 rfl (lv_at hl 0 rfl) ?_
                            refine va_get (D := (dC, dI)) (ci := 6) (v := .long (M_hash s454.2)) (C := RX6) (T := TX6) (N := 23) hx hb hts inX6 hown hK.1 hP 0 rfl rfl 22 (by decide) (hts _ w_fieldLink_X6_241) (fun _ h9 => h9) rfl dX6_digest_480 ?_
                            exact W.lret (v := (M_hash s454.2)) hx hb hr (fun t ht hW => ⟨⟨_, s454.2, rfl, Option.some.inj hF, by rw [ht]; exact hP, hD⟩, hS.F ht⟩) hS.2.2 dX6_digest_483
                          · have hF := itn c99 hF
                            refine lv_aload_n hx hb dX6_digest_462 rfl (lv_at hl 0 rfl) ?_
                            refine lv_aload_n hx hb dX6_digest_463 rfl (lv_at hl 0 rfl) ?_
                            refine va_get (D := (dC, dI)) (ci := 6) (v := .ref (a 6)) (C := RX6) (T := TX6) (N := 23) hx hb hts inX6 hown hK.1 hP 0 rfl rfl 8 (by decide) (hts _ w_fieldLink_X6_25) (fun _ h9 => h9) rfl dX6_digest_464 ?_
                            refine lv_iload_n hx hb dX6_digest_467 rfl (lv_at hl 1 rfl) ?_
                            obtain ⟨hg100, hF⟩ := gd_use hF
                            refine va_iald hx hb hK.1 hP 6 0 rfl rfl (i := s454.1) hg100 dX6_digest_468 ?_
                            refine lv_i2l (v := ((M_buffer s454.2) s454.1.toNatClampNeg).toInt64) hx hb dX6_digest_469 rfl ?_
                            obtain ⟨o101, h102, hF⟩ := obd hF
                            refine wcWVv (As := [.long (((M_buffer s454.2) s454.1.toNatClampNeg).toInt64)]) (rest := []) (wr := []) (b := (a 0)) ⟨hx, hb, hml, hown, hts⟩ (met_X6_takesIn l dC dI cyI cyO cyL a _ N s454.2 (((M_buffer s454.2) s454.1.toNatClampNeg).toInt64) o101 h102) (cwV 1 hts (gV w_methodLink_X6_251 w_instanceMethod_X6_takesIn w_selects_X6_takesIn w_initialized_X6 w_code_X6_takesIn) rfl rfl rfl (by decide +kernel) ⟨Nat.le_of_ble_eq_true rfl, Nat.le_of_ble_eq_true rfl⟩) (va_recv hK.1 hP (ci := 6) (q0 := 0) rfl rfl) hP hD hK [0, 1, 2, 3, 4, 5, 6, 7] [] rfl rfl (by decide) (by decide) (by decide) rfl hl.1 (Nat.le_of_ble_eq_true rfl) dX6_digest_470 ⟨Nat.le_of_ble_eq_true rfl, Nat.le_of_ble_eq_true rfl⟩ hS hA (fun u H locs hw hP hD hS => ?_)
                            have hw := hw.symm
                            subst hw
                            have hP : va_P (dC, dI) vwCl (cM cyI a o101) H := hP
                            have hD : va_D A (cM cyI a o101) := hD
                            refine lv_iinc (v := (s454.1 + (1 : Int32))) (lv' := [(1, .int (s454.1 + (1 : Int32))), (0, .ref (a 0))]) hx hb dX6_digest_473 hl (k := 1) rfl rfl (by decide) rfl (fun ls hl => ?_)
                            refine lv_goto (tgt := 454) hx hb dX6_digest_476 (by decide) ?_
                            exact ih454 ((s454.1 + (1 : Int32)), o101) _ _ _ hP hD hS (lv_sub hl [1, 0] rfl) hF
                      exact hL454 N ((0 : Int32), o97) _ _ _ hP hD hS (lv_sub hl [1, 0] rfl) hF
                    · have hF := itn c59 hF
                      refine lv_aload_n hx hb dX6_digest_286 rfl (lv_at hl 0 rfl) ?_
                      refine lv_aload_n hx hb dX6_digest_287 rfl (lv_at hl 0 rfl) ?_
                      refine va_get (D := (dC, dI)) (ci := 6) (v := .ref (a 1)) (C := RX6) (T := TX6) (N := 23) hx hb hts inX6 hown hK.1 hP 0 rfl rfl 1 (by decide) (hts _ w_fieldLink_X6_7) (fun _ h9 => h9) rfl dX6_digest_288 ?_
                      refine lv_bipush (v := 83) hx hb dX6_digest_291 (by decide) ?_
                      refine lv_iload_n hx hb dX6_digest_293 rfl (lv_at hl 1 rfl) ?_
                      refine lv_iadd hx hb dX6_digest_294 ?_
                      obtain ⟨hg103, hF⟩ := gd_use hF
                      refine va_iald hx hb hK.1 hP 1 0 rfl rfl (i := ((83 : Int32) + s280.1)) hg103 dX6_digest_295 ?_
                      refine lv_i2l (v := ((M_s s280.2) ((83 : Int32) + s280.1).toNatClampNeg).toInt64) hx hb dX6_digest_296 rfl ?_
                      obtain ⟨o104, h105, hF⟩ := obd hF
                      refine wcWVv (As := [.long (((M_s s280.2) ((83 : Int32) + s280.1).toNatClampNeg).toInt64)]) (rest := []) (wr := []) (b := (a 0)) ⟨hx, hb, hml, hown, hts⟩ (met_X6_takesIn l dC dI cyI cyO cyL a _ N s280.2 (((M_s s280.2) ((83 : Int32) + s280.1).toNatClampNeg).toInt64) o104 h105) (cwV 1 hts (gV w_methodLink_X6_251 w_instanceMethod_X6_takesIn w_selects_X6_takesIn w_initialized_X6 w_code_X6_takesIn) rfl rfl rfl (by decide +kernel) ⟨Nat.le_of_ble_eq_true rfl, Nat.le_of_ble_eq_true rfl⟩) (va_recv hK.1 hP (ci := 6) (q0 := 0) rfl rfl) hP hD hK [0, 1, 2, 3, 4, 5, 6, 7] [] rfl rfl (by decide) (by decide) (by decide) rfl hl.1 (Nat.le_of_ble_eq_true rfl) dX6_digest_297 ⟨Nat.le_of_ble_eq_true rfl, Nat.le_of_ble_eq_true rfl⟩ hS hA (fun u H locs hw hP hD hS => ?_)
                      have hw := hw.symm
                      subst hw
                      have hP : va_P (dC, dI) vwCl (cM cyI a o104) H := hP
                      have hD : va_D A (cM cyI a o104) := hD
                      refine lv_iinc (v := (s280.1 + (1 : Int32))) (lv' := [(1, .int (s280.1 + (1 : Int32))), (0, .ref (a 0))]) hx hb dX6_digest_300 hl (k := 1) rfl rfl (by decide) rfl (fun ls hl => ?_)
                      refine lv_goto (tgt := 280) hx hb dX6_digest_303 (by decide) ?_
                      exact ih280 ((s280.1 + (1 : Int32)), o104) _ _ _ hP hD hS (lv_sub hl [1, 0] rfl) hF
                exact hL280 N ((0 : Int32), s247.2) _ _ _ hP hD hS (lv_sub hl [1, 0] rfl) hF
              · have hF := itn c58 hF
                refine lv_aload_n hx hb dX6_digest_258 rfl (lv_at hl 0 rfl) ?_
                refine lv_aload_n hx hb dX6_digest_259 rfl (lv_at hl 0 rfl) ?_
                refine va_get (D := (dC, dI)) (ci := 6) (v := .ref (a 1)) (C := RX6) (T := TX6) (N := 23) hx hb hts inX6 hown hK.1 hP 0 rfl rfl 1 (by decide) (hts _ w_fieldLink_X6_7) (fun _ h9 => h9) rfl dX6_digest_260 ?_
                refine lv_bipush (v := 71) hx hb dX6_digest_263 (by decide) ?_
                refine lv_iload_n hx hb dX6_digest_265 rfl (lv_at hl 1 rfl) ?_
                refine lv_iadd hx hb dX6_digest_266 ?_
                obtain ⟨hg106, hF⟩ := gd_use hF
                refine va_iald hx hb hK.1 hP 1 0 rfl rfl (i := ((71 : Int32) + s247.1)) hg106 dX6_digest_267 ?_
                refine lv_i2l (v := ((M_s s247.2) ((71 : Int32) + s247.1).toNatClampNeg).toInt64) hx hb dX6_digest_268 rfl ?_
                obtain ⟨o107, h108, hF⟩ := obd hF
                refine wcWVv (As := [.long (((M_s s247.2) ((71 : Int32) + s247.1).toNatClampNeg).toInt64)]) (rest := []) (wr := []) (b := (a 0)) ⟨hx, hb, hml, hown, hts⟩ (met_X6_takesIn l dC dI cyI cyO cyL a _ N s247.2 (((M_s s247.2) ((71 : Int32) + s247.1).toNatClampNeg).toInt64) o107 h108) (cwV 1 hts (gV w_methodLink_X6_251 w_instanceMethod_X6_takesIn w_selects_X6_takesIn w_initialized_X6 w_code_X6_takesIn) rfl rfl rfl (by decide +kernel) ⟨Nat.le_of_ble_eq_true rfl, Nat.le_of_ble_eq_true rfl⟩) (va_recv hK.1 hP (ci := 6) (q0 := 0) rfl rfl) hP hD hK [0, 1, 2, 3, 4, 5, 6, 7] [] rfl rfl (by decide) (by decide) (by decide) rfl hl.1 (Nat.le_of_ble_eq_true rfl) dX6_digest_269 ⟨Nat.le_of_ble_eq_true rfl, Nat.le_of_ble_eq_true rfl⟩ hS hA (fun u H locs hw hP hD hS => ?_)
                have hw := hw.symm
                subst hw
                have hP : va_P (dC, dI) vwCl (cM cyI a o107) H := hP
                have hD : va_D A (cM cyI a o107) := hD
                refine lv_iinc (v := (s247.1 + (1 : Int32))) (lv' := [(1, .int (s247.1 + (1 : Int32))), (0, .ref (a 0))]) hx hb dX6_digest_272 hl (k := 1) rfl rfl (by decide) rfl (fun ls hl => ?_)
                refine lv_goto (tgt := 247) hx hb dX6_digest_275 (by decide) ?_
                exact ih247 ((s247.1 + (1 : Int32)), o107) _ _ _ hP hD hS (lv_sub hl [1, 0] rfl) hF
          exact hL247 N ((0 : Int32), o55) _ _ _ hP hD hS (lv_sub hl [1, 0] rfl) hF
        refine lv_if_eq (tgt := 205) hx hb dX6_digest_198 (by decide) (fun c109 => ?_) (fun c109 => ?_)
        · have hF := itp c109 hF
          refine lv_lconst (v := 0) hx hb dX6_digest_205 (by decide) ?_
          exact hJ206 (0 : Int64) _ _ _ hP hD hS (lv_sub hl [0] rfl) hF
        · have hF := itn c109 hF
          refine lv_lconst (v := 1) hx hb dX6_digest_201 (by decide) ?_
          refine lv_goto (tgt := 206) hx hb dX6_digest_202 (by decide) ?_
          exact hJ206 (1 : Int64) _ _ _ hP hD hS (lv_sub hl [0] rfl) hF
      refine lv_if_eq (tgt := 123) hx hb dX6_digest_104 (by decide) (fun c110 => ?_) (fun c110 => ?_)
      · have hF := itp c110 hF
        refine lv_lconst (v := 0) hx hb dX6_digest_123 (by decide) ?_
        exact hJ124 (0 : Int64) _ _ _ hP hD hS (lv_sub hl [0] rfl) hF
      · have hF := itn c110 hF
        refine lv_aload_n hx hb dX6_digest_107 rfl (lv_at hl 0 rfl) ?_
        refine lv_aload_n hx hb dX6_digest_108 rfl (lv_at hl 0 rfl) ?_
        refine va_get (D := (dC, dI)) (ci := 6) (v := .ref (a 1)) (C := RX6) (T := TX6) (N := 23) hx hb hts inX6 hown hK.1 hP 0 rfl rfl 1 (by decide) (hts _ w_fieldLink_X6_7) (fun _ h9 => h9) rfl dX6_digest_109 ?_
        refine lv_iconst (v := 3) hx hb dX6_digest_112 (by decide) ?_
        refine va_iald hx hb hK.1 hP 1 0 rfl rfl (i := (3 : Int32)) (show ixok (3 : Int32) 103 by decide) dX6_digest_113 ?_
        obtain ⟨o112, h113, hF⟩ := obd hF
        refine wcRVi (As := [.int ((M_s o17) (3 : Int32).toNatClampNeg)]) (rest := [.ref (a 0)]) (b := (a 0)) ⟨hx, hb, hml, hown, hts⟩ (met_X6_sideNow l dC dI cyI cyO cyL a N o17 ((M_s o17) (3 : Int32).toNatClampNeg) o112 h113) (cwV 1 hts (gV w_methodLink_X6_88 w_instanceMethod_X6_sideNow w_selects_X6_sideNow w_initialized_X6 w_code_X6_sideNow) rfl rfl rfl (by decide +kernel) ⟨Nat.le_of_ble_eq_true rfl, Nat.le_of_ble_eq_true rfl⟩) (va_recv hK.1 hP (ci := 6) (q0 := 0) rfl rfl) hP hK [0, 1, 2, 3, 4, 5, 6, 7] rfl rfl hl.1 (Nat.le_of_ble_eq_true rfl) dX6_digest_114 ⟨Nat.le_of_ble_eq_true rfl, Nat.le_of_ble_eq_true rfl⟩ hS (fun r H locs hw hP hS => ?_)
        have hw := hw.symm
        subst hw
        refine lv_i2l (v := (o112).toInt64) hx hb dX6_digest_117 rfl ?_
        refine lv_lconst (v := 1) hx hb dX6_digest_118 (by decide) ?_
        refine lv_ladd hx hb dX6_digest_119 ?_
        refine lv_goto (tgt := 124) hx hb dX6_digest_120 (by decide) ?_
        exact hJ124 (((o112).toInt64) + (1 : Int64)) _ _ _ hP hD hS (lv_sub hl [0] rfl) hF
    refine lv_if_eq (tgt := 72) hx hb dX6_digest_65 (by decide) (fun c114 => ?_) (fun c114 => ?_)
    · have hF := itp c114 hF
      refine lv_lconst (v := 0) hx hb dX6_digest_72 (by decide) ?_
      exact hJ73 (0 : Int64) _ _ _ hP hD hS (lv_sub hl [0] rfl) hF
    · have hF := itn c114 hF
      refine lv_lconst (v := 1) hx hb dX6_digest_68 (by decide) ?_
      refine lv_goto (tgt := 73) hx hb dX6_digest_69 (by decide) ?_
      exact hJ73 (1 : Int64) _ _ _ hP hD hS (lv_sub hl [0] rfl) hF
  refine lv_icmp_ne (tgt := 56) hx hb dX6_digest_31 (by decide) (fun c115 => ?_) (fun c115 => ?_)
  · have hF := itn c115 hF
    refine lv_lconst (v := 0) hx hb dX6_digest_56 (by decide) ?_
    exact hJ57 (0 : Int64) _ _ _ hP hD hS (lv_sub hl [0] rfl) hF
  · have hF := itp c115 hF
    refine lv_bipush (v := 21) hx hb dX6_digest_34 (by decide) ?_
    refine lv_aload_n hx hb dX6_digest_36 rfl (lv_at hl 0 rfl) ?_
    refine va_get (D := (dC, dI)) (ci := 6) (v := .ref (a 1)) (C := RX6) (T := TX6) (N := 23) hx hb hts inX6 hown hK.1 hP 0 rfl rfl 1 (by decide) (hts _ w_fieldLink_X6_7) (fun _ h9 => h9) rfl dX6_digest_37 ?_
    refine lv_iconst (v := 1) hx hb dX6_digest_40 (by decide) ?_
    refine va_iald hx hb hK.1 hP 1 0 rfl rfl (i := (1 : Int32)) (show ixok (1 : Int32) 103 by decide) dX6_digest_41 ?_
    refine lv_imul hx hb dX6_digest_42 ?_
    refine lv_aload_n hx hb dX6_digest_43 rfl (lv_at hl 0 rfl) ?_
    refine va_get (D := (dC, dI)) (ci := 6) (v := .ref (a 1)) (C := RX6) (T := TX6) (N := 23) hx hb hts inX6 hown hK.1 hP 0 rfl rfl 1 (by decide) (hts _ w_fieldLink_X6_7) (fun _ h9 => h9) rfl dX6_digest_44 ?_
    refine lv_iconst (v := 2) hx hb dX6_digest_47 (by decide) ?_
    refine va_iald hx hb hK.1 hP 1 0 rfl rfl (i := (2 : Int32)) (show ixok (2 : Int32) 103 by decide) dX6_digest_48 ?_
    refine lv_iadd hx hb dX6_digest_49 ?_
    refine lv_iconst (v := 1) hx hb dX6_digest_50 (by decide) ?_
    refine lv_iadd hx hb dX6_digest_51 ?_
    refine lv_i2l (v := ((((21 : Int32) * ((M_s o3) (1 : Int32).toNatClampNeg)) + ((M_s o3) (2 : Int32).toNatClampNeg)) + (1 : Int32)).toInt64) hx hb dX6_digest_52 rfl ?_
    refine lv_goto (tgt := 57) hx hb dX6_digest_53 (by decide) ?_
    exact hJ57 (((((21 : Int32) * ((M_s o3) (1 : Int32).toNatClampNeg)) + ((M_s o3) (2 : Int32).toNatClampNeg)) + (1 : Int32)).toInt64) _ _ _ hP hD hS (lv_sub hl [0] rfl) hF
