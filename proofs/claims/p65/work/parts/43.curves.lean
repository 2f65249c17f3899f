/-! written by program from the bytecode: what each method computes, and its contract -/

theorem dL_areCurvesSo_0 : decode cL_areCurvesSo 0 = .ok (.iload_n 1, 1) := by decide +kernel
theorem dL_areCurvesSo_1 : decode cL_areCurvesSo 1 = .ok (.bipush 19, 2) := by decide +kernel
theorem dL_areCurvesSo_3 : decode cL_areCurvesSo 3 = .ok (.invokestatic 68, 3) := by decide +kernel
theorem dL_areCurvesSo_6 : decode cL_areCurvesSo 6 = .ok (.bipush 9, 2) := by decide +kernel
theorem dL_areCurvesSo_8 : decode cL_areCurvesSo 8 = .ok (.isub, 1) := by decide +kernel
theorem dL_areCurvesSo_9 : decode cL_areCurvesSo 9 = .ok (.istore_n 3, 1) := by decide +kernel
theorem dL_areCurvesSo_10 : decode cL_areCurvesSo 10 = .ok (.iload_n 1, 1) := by decide +kernel
theorem dL_areCurvesSo_11 : decode cL_areCurvesSo 11 = .ok (.iconst 3, 1) := by decide +kernel
theorem dL_areCurvesSo_12 : decode cL_areCurvesSo 12 = .ok (.ishr, 1) := by decide +kernel
theorem dL_areCurvesSo_13 : decode cL_areCurvesSo 13 = .ok (.bipush 7, 2) := by decide +kernel
theorem dL_areCurvesSo_15 : decode cL_areCurvesSo 15 = .ok (.invokestatic 68, 3) := by decide +kernel
theorem dL_areCurvesSo_18 : decode cL_areCurvesSo 18 = .ok (.iconst 3, 1) := by decide +kernel
theorem dL_areCurvesSo_19 : decode cL_areCurvesSo 19 = .ok (.isub, 1) := by decide +kernel
theorem dL_areCurvesSo_20 : decode cL_areCurvesSo 20 = .ok (.istore 4, 2) := by decide +kernel
theorem dL_areCurvesSo_22 : decode cL_areCurvesSo 22 = .ok (.bipush 15, 2) := by decide +kernel
theorem dL_areCurvesSo_24 : decode cL_areCurvesSo 24 = .ok (.iload_n 1, 1) := by decide +kernel
theorem dL_areCurvesSo_25 : decode cL_areCurvesSo 25 = .ok (.bipush 6, 2) := by decide +kernel
theorem dL_areCurvesSo_27 : decode cL_areCurvesSo 27 = .ok (.ishr, 1) := by decide +kernel
theorem dL_areCurvesSo_28 : decode cL_areCurvesSo 28 = .ok (.bipush 56, 2) := by decide +kernel
theorem dL_areCurvesSo_30 : decode cL_areCurvesSo 30 = .ok (.invokestatic 68, 3) := by decide +kernel
theorem dL_areCurvesSo_33 : decode cL_areCurvesSo 33 = .ok (.iadd, 1) := by decide +kernel
theorem dL_areCurvesSo_34 : decode cL_areCurvesSo 34 = .ok (.istore 5, 2) := by decide +kernel
theorem dL_areCurvesSo_36 : decode cL_areCurvesSo 36 = .ok (.iconst 0, 1) := by decide +kernel
theorem dL_areCurvesSo_37 : decode cL_areCurvesSo 37 = .ok (.istore 6, 2) := by decide +kernel
theorem dL_areCurvesSo_39 : decode cL_areCurvesSo 39 = .ok (.iconst 1, 1) := by decide +kernel
theorem dL_areCurvesSo_40 : decode cL_areCurvesSo 40 = .ok (.istore 7, 2) := by decide +kernel
theorem dL_areCurvesSo_42 : decode cL_areCurvesSo 42 = .ok (.iconst 0, 1) := by decide +kernel
theorem dL_areCurvesSo_43 : decode cL_areCurvesSo 43 = .ok (.istore 8, 2) := by decide +kernel
theorem dL_areCurvesSo_45 : decode cL_areCurvesSo 45 = .ok (.iload 8, 2) := by decide +kernel
theorem dL_areCurvesSo_47 : decode cL_areCurvesSo 47 = .ok (.iload 5, 2) := by decide +kernel
theorem dL_areCurvesSo_49 : decode cL_areCurvesSo 49 = .ok (.if_icmp .gt 88, 3) := by decide +kernel
theorem dL_areCurvesSo_52 : decode cL_areCurvesSo 52 = .ok (.iload 7, 2) := by decide +kernel
theorem dL_areCurvesSo_54 : decode cL_areCurvesSo 54 = .ok (.ifCond .eq 83, 3) := by decide +kernel
theorem dL_areCurvesSo_57 : decode cL_areCurvesSo 57 = .ok (.aload_n 0, 1) := by decide +kernel
theorem dL_areCurvesSo_58 : decode cL_areCurvesSo 58 = .ok (.iload_n 3, 1) := by decide +kernel
theorem dL_areCurvesSo_59 : decode cL_areCurvesSo 59 = .ok (.iload 5, 2) := by decide +kernel
theorem dL_areCurvesSo_61 : decode cL_areCurvesSo 61 = .ok (.iload 4, 2) := by decide +kernel
theorem dL_areCurvesSo_63 : decode cL_areCurvesSo 63 = .ok (.iload 8, 2) := by decide +kernel
theorem dL_areCurvesSo_65 : decode cL_areCurvesSo 65 = .ok (.invokevirtual 183, 3) := by decide +kernel
theorem dL_areCurvesSo_68 : decode cL_areCurvesSo 68 = .ok (.istore 9, 2) := by decide +kernel
theorem dL_areCurvesSo_70 : decode cL_areCurvesSo 70 = .ok (.iload 9, 2) := by decide +kernel
theorem dL_areCurvesSo_72 : decode cL_areCurvesSo 72 = .ok (.aload_n 0, 1) := by decide +kernel
theorem dL_areCurvesSo_73 : decode cL_areCurvesSo 73 = .ok (.iload_n 3, 1) := by decide +kernel
theorem dL_areCurvesSo_74 : decode cL_areCurvesSo 74 = .ok (.iload 5, 2) := by decide +kernel
theorem dL_areCurvesSo_76 : decode cL_areCurvesSo 76 = .ok (.iload 4, 2) := by decide +kernel
theorem dL_areCurvesSo_78 : decode cL_areCurvesSo 78 = .ok (.iload 8, 2) := by decide +kernel
theorem dL_areCurvesSo_80 : decode cL_areCurvesSo 80 = .ok (.invokevirtual 187, 3) := by decide +kernel
theorem dL_areCurvesSo_83 : decode cL_areCurvesSo 83 = .ok (.if_icmp .ne 33, 3) := by decide +kernel
theorem dL_areCurvesSo_86 : decode cL_areCurvesSo 86 = .ok (.iload 6, 2) := by decide +kernel
theorem dL_areCurvesSo_88 : decode cL_areCurvesSo 88 = .ok (.ifCond .eq 9, 3) := by decide +kernel
theorem dL_areCurvesSo_91 : decode cL_areCurvesSo 91 = .ok (.iload 9, 2) := by decide +kernel
theorem dL_areCurvesSo_93 : decode cL_areCurvesSo 93 = .ok (.iconst (-1), 1) := by decide +kernel
theorem dL_areCurvesSo_94 : decode cL_areCurvesSo 94 = .ok (.if_icmp .ne 22, 3) := by decide +kernel
theorem dL_areCurvesSo_97 : decode cL_areCurvesSo 97 = .ok (.iload 9, 2) := by decide +kernel
theorem dL_areCurvesSo_99 : decode cL_areCurvesSo 99 = .ok (.ifCond .lt 13, 3) := by decide +kernel
theorem dL_areCurvesSo_102 : decode cL_areCurvesSo 102 = .ok (.iload 9, 2) := by decide +kernel
theorem dL_areCurvesSo_104 : decode cL_areCurvesSo 104 = .ok (.bipush 21, 2) := by decide +kernel
theorem dL_areCurvesSo_106 : decode cL_areCurvesSo 106 = .ok (.idiv, 1) := by decide +kernel
theorem dL_areCurvesSo_107 : decode cL_areCurvesSo 107 = .ok (.iload 8, 2) := by decide +kernel
theorem dL_areCurvesSo_109 : decode cL_areCurvesSo 109 = .ok (.if_icmp .ne 7, 3) := by decide +kernel
theorem dL_areCurvesSo_112 : decode cL_areCurvesSo 112 = .ok (.iconst 1, 1) := by decide +kernel
theorem dL_areCurvesSo_113 : decode cL_areCurvesSo 113 = .ok (.goto 4, 3) := by decide +kernel
theorem dL_areCurvesSo_116 : decode cL_areCurvesSo 116 = .ok (.iconst 0, 1) := by decide +kernel
theorem dL_areCurvesSo_117 : decode cL_areCurvesSo 117 = .ok (.istore 7, 2) := by decide +kernel
theorem dL_areCurvesSo_119 : decode cL_areCurvesSo 119 = .ok (.iload 9, 2) := by decide +kernel
theorem dL_areCurvesSo_121 : decode cL_areCurvesSo 121 = .ok (.ifCond .ge 7, 3) := by decide +kernel
theorem dL_areCurvesSo_124 : decode cL_areCurvesSo 124 = .ok (.iconst 1, 1) := by decide +kernel
theorem dL_areCurvesSo_125 : decode cL_areCurvesSo 125 = .ok (.goto 4, 3) := by decide +kernel
theorem dL_areCurvesSo_128 : decode cL_areCurvesSo 128 = .ok (.iconst 0, 1) := by decide +kernel
theorem dL_areCurvesSo_129 : decode cL_areCurvesSo 129 = .ok (.istore 6, 2) := by decide +kernel
theorem dL_areCurvesSo_131 : decode cL_areCurvesSo 131 = .ok (.iinc 8 1, 3) := by decide +kernel
theorem dL_areCurvesSo_134 : decode cL_areCurvesSo 134 = .ok (.goto (-89), 3) := by decide +kernel
theorem dL_areCurvesSo_137 : decode cL_areCurvesSo 137 = .ok (.aload_n 0, 1) := by decide +kernel
theorem dL_areCurvesSo_138 : decode cL_areCurvesSo 138 = .ok (.iconst 4, 1) := by decide +kernel
theorem dL_areCurvesSo_139 : decode cL_areCurvesSo 139 = .ok (.iconst 0, 1) := by decide +kernel
theorem dL_areCurvesSo_140 : decode cL_areCurvesSo 140 = .ok (.invokestatic 93, 3) := by decide +kernel
theorem dL_areCurvesSo_143 : decode cL_areCurvesSo 143 = .ok (.istore 8, 2) := by decide +kernel
theorem dL_areCurvesSo_145 : decode cL_areCurvesSo 145 = .ok (.iload 8, 2) := by decide +kernel
theorem dL_areCurvesSo_147 : decode cL_areCurvesSo 147 = .ok (.bipush (-9), 2) := by decide +kernel
theorem dL_areCurvesSo_149 : decode cL_areCurvesSo 149 = .ok (.if_icmp .eq 8, 3) := by decide +kernel
theorem dL_areCurvesSo_152 : decode cL_areCurvesSo 152 = .ok (.iload 7, 2) := by decide +kernel
theorem dL_areCurvesSo_154 : decode cL_areCurvesSo 154 = .ok (.ifCond .ne 6, 3) := by decide +kernel
theorem dL_areCurvesSo_157 : decode cL_areCurvesSo 157 = .ok (.iload 7, 2) := by decide +kernel
theorem dL_areCurvesSo_159 : decode cL_areCurvesSo 159 = .ok (.ireturn, 1) := by decide +kernel
theorem dL_areCurvesSo_160 : decode cL_areCurvesSo 160 = .ok (.aload_n 0, 1) := by decide +kernel
theorem dL_areCurvesSo_161 : decode cL_areCurvesSo 161 = .ok (.iload_n 3, 1) := by decide +kernel
theorem dL_areCurvesSo_162 : decode cL_areCurvesSo 162 = .ok (.iload 5, 2) := by decide +kernel
theorem dL_areCurvesSo_164 : decode cL_areCurvesSo 164 = .ok (.iload 4, 2) := by decide +kernel
theorem dL_areCurvesSo_166 : decode cL_areCurvesSo 166 = .ok (.invokevirtual 190, 3) := by decide +kernel
theorem dL_areCurvesSo_169 : decode cL_areCurvesSo 169 = .ok (.istore 9, 2) := by decide +kernel
theorem dL_areCurvesSo_171 : decode cL_areCurvesSo 171 = .ok (.aload_n 0, 1) := by decide +kernel
theorem dL_areCurvesSo_172 : decode cL_areCurvesSo 172 = .ok (.iload_n 3, 1) := by decide +kernel
theorem dL_areCurvesSo_173 : decode cL_areCurvesSo 173 = .ok (.iload 5, 2) := by decide +kernel
theorem dL_areCurvesSo_175 : decode cL_areCurvesSo 175 = .ok (.iload 4, 2) := by decide +kernel
theorem dL_areCurvesSo_177 : decode cL_areCurvesSo 177 = .ok (.invokevirtual 193, 3) := by decide +kernel
theorem dL_areCurvesSo_180 : decode cL_areCurvesSo 180 = .ok (.istore 10, 2) := by decide +kernel
theorem dL_areCurvesSo_182 : decode cL_areCurvesSo 182 = .ok (.aload_n 0, 1) := by decide +kernel
theorem dL_areCurvesSo_183 : decode cL_areCurvesSo 183 = .ok (.invokevirtual 77, 3) := by decide +kernel
theorem dL_areCurvesSo_186 : decode cL_areCurvesSo 186 = .ok (.istore 11, 2) := by decide +kernel
theorem dL_areCurvesSo_188 : decode cL_areCurvesSo 188 = .ok (.aload_n 0, 1) := by decide +kernel
theorem dL_areCurvesSo_189 : decode cL_areCurvesSo 189 = .ok (.invokevirtual 115, 3) := by decide +kernel
theorem dL_areCurvesSo_192 : decode cL_areCurvesSo 192 = .ok (.istore 12, 2) := by decide +kernel
theorem dL_areCurvesSo_194 : decode cL_areCurvesSo 194 = .ok (.aload_n 0, 1) := by decide +kernel
theorem dL_areCurvesSo_195 : decode cL_areCurvesSo 195 = .ok (.iconst 1, 1) := by decide +kernel
theorem dL_areCurvesSo_196 : decode cL_areCurvesSo 196 = .ok (.iload_n 3, 1) := by decide +kernel
theorem dL_areCurvesSo_197 : decode cL_areCurvesSo 197 = .ok (.iload 5, 2) := by decide +kernel
theorem dL_areCurvesSo_199 : decode cL_areCurvesSo 199 = .ok (.iload 4, 2) := by decide +kernel
theorem dL_areCurvesSo_201 : decode cL_areCurvesSo 201 = .ok (.aload_n 2, 1) := by decide +kernel
theorem dL_areCurvesSo_202 : decode cL_areCurvesSo 202 = .ok (.invokestatic 89, 3) := by decide +kernel
theorem dL_areCurvesSo_205 : decode cL_areCurvesSo 205 = .ok (.istore 13, 2) := by decide +kernel
theorem dL_areCurvesSo_207 : decode cL_areCurvesSo 207 = .ok (.aload_n 0, 1) := by decide +kernel
theorem dL_areCurvesSo_208 : decode cL_areCurvesSo 208 = .ok (.invokevirtual 124, 3) := by decide +kernel
theorem dL_areCurvesSo_211 : decode cL_areCurvesSo 211 = .ok (.istore 14, 2) := by decide +kernel
theorem dL_areCurvesSo_213 : decode cL_areCurvesSo 213 = .ok (.iload 13, 2) := by decide +kernel
theorem dL_areCurvesSo_215 : decode cL_areCurvesSo 215 = .ok (.ifCond .ne 140, 3) := by decide +kernel
theorem dL_areCurvesSo_218 : decode cL_areCurvesSo 218 = .ok (.aload_n 0, 1) := by decide +kernel
theorem dL_areCurvesSo_219 : decode cL_areCurvesSo 219 = .ok (.invokevirtual 77, 3) := by decide +kernel
theorem dL_areCurvesSo_222 : decode cL_areCurvesSo 222 = .ok (.iload 11, 2) := by decide +kernel
theorem dL_areCurvesSo_224 : decode cL_areCurvesSo 224 = .ok (.iconst 1, 1) := by decide +kernel
theorem dL_areCurvesSo_225 : decode cL_areCurvesSo 225 = .ok (.iadd, 1) := by decide +kernel
theorem dL_areCurvesSo_226 : decode cL_areCurvesSo 226 = .ok (.if_icmp .ne 129, 3) := by decide +kernel
theorem dL_areCurvesSo_229 : decode cL_areCurvesSo 229 = .ok (.iload 10, 2) := by decide +kernel
theorem dL_areCurvesSo_231 : decode cL_areCurvesSo 231 = .ok (.iload 14, 2) := by decide +kernel
theorem dL_areCurvesSo_233 : decode cL_areCurvesSo 233 = .ok (.ifCond .ne 7, 3) := by decide +kernel
theorem dL_areCurvesSo_236 : decode cL_areCurvesSo 236 = .ok (.iconst 0, 1) := by decide +kernel
theorem dL_areCurvesSo_237 : decode cL_areCurvesSo 237 = .ok (.goto 20, 3) := by decide +kernel
theorem dL_areCurvesSo_240 : decode cL_areCurvesSo 240 = .ok (.aload_n 0, 1) := by decide +kernel
theorem dL_areCurvesSo_241 : decode cL_areCurvesSo 241 = .ok (.invokevirtual 50, 3) := by decide +kernel
theorem dL_areCurvesSo_244 : decode cL_areCurvesSo 244 = .ok (.iload 8, 2) := by decide +kernel
theorem dL_areCurvesSo_246 : decode cL_areCurvesSo 246 = .ok (.if_icmp .ne 8, 3) := by decide +kernel
theorem dL_areCurvesSo_249 : decode cL_areCurvesSo 249 = .ok (.iload 14, 2) := by decide +kernel
theorem dL_areCurvesSo_251 : decode cL_areCurvesSo 251 = .ok (.goto 6, 3) := by decide +kernel
theorem dL_areCurvesSo_254 : decode cL_areCurvesSo 254 = .ok (.iload 14, 2) := by decide +kernel
theorem dL_areCurvesSo_256 : decode cL_areCurvesSo 256 = .ok (.ineg, 1) := by decide +kernel
theorem dL_areCurvesSo_257 : decode cL_areCurvesSo 257 = .ok (.if_icmp .ne 98, 3) := by decide +kernel
theorem dL_areCurvesSo_260 : decode cL_areCurvesSo 260 = .ok (.iload 9, 2) := by decide +kernel
theorem dL_areCurvesSo_262 : decode cL_areCurvesSo 262 = .ok (.ifCond .gt 54, 3) := by decide +kernel
theorem dL_areCurvesSo_265 : decode cL_areCurvesSo 265 = .ok (.iload 6, 2) := by decide +kernel
theorem dL_areCurvesSo_267 : decode cL_areCurvesSo 267 = .ok (.ifCond .eq 13, 3) := by decide +kernel
theorem dL_areCurvesSo_270 : decode cL_areCurvesSo 270 = .ok (.aload_n 2, 1) := by decide +kernel
theorem dL_areCurvesSo_271 : decode cL_areCurvesSo 271 = .ok (.iconst 0, 1) := by decide +kernel
theorem dL_areCurvesSo_272 : decode cL_areCurvesSo 272 = .ok (.iaload, 1) := by decide +kernel
theorem dL_areCurvesSo_273 : decode cL_areCurvesSo 273 = .ok (.iconst 2, 1) := by decide +kernel
theorem dL_areCurvesSo_274 : decode cL_areCurvesSo 274 = .ok (.if_icmp .ne 81, 3) := by decide +kernel
theorem dL_areCurvesSo_277 : decode cL_areCurvesSo 277 = .ok (.goto 39, 3) := by decide +kernel
theorem dL_areCurvesSo_280 : decode cL_areCurvesSo 280 = .ok (.aload_n 2, 1) := by decide +kernel
theorem dL_areCurvesSo_281 : decode cL_areCurvesSo 281 = .ok (.iconst 0, 1) := by decide +kernel
theorem dL_areCurvesSo_282 : decode cL_areCurvesSo 282 = .ok (.iaload, 1) := by decide +kernel
theorem dL_areCurvesSo_283 : decode cL_areCurvesSo 283 = .ok (.ifCond .ne 72, 3) := by decide +kernel
theorem dL_areCurvesSo_286 : decode cL_areCurvesSo 286 = .ok (.bipush 21, 2) := by decide +kernel
theorem dL_areCurvesSo_288 : decode cL_areCurvesSo 288 = .ok (.aload_n 0, 1) := by decide +kernel
theorem dL_areCurvesSo_289 : decode cL_areCurvesSo 289 = .ok (.iload 11, 2) := by decide +kernel
theorem dL_areCurvesSo_291 : decode cL_areCurvesSo 291 = .ok (.invokevirtual 44, 3) := by decide +kernel
theorem dL_areCurvesSo_294 : decode cL_areCurvesSo 294 = .ok (.imul, 1) := by decide +kernel
theorem dL_areCurvesSo_295 : decode cL_areCurvesSo 295 = .ok (.aload_n 0, 1) := by decide +kernel
theorem dL_areCurvesSo_296 : decode cL_areCurvesSo 296 = .ok (.iload 11, 2) := by decide +kernel
theorem dL_areCurvesSo_298 : decode cL_areCurvesSo 298 = .ok (.invokevirtual 134, 3) := by decide +kernel
theorem dL_areCurvesSo_301 : decode cL_areCurvesSo 301 = .ok (.iadd, 1) := by decide +kernel
theorem dL_areCurvesSo_302 : decode cL_areCurvesSo 302 = .ok (.aload_n 0, 1) := by decide +kernel
theorem dL_areCurvesSo_303 : decode cL_areCurvesSo 303 = .ok (.iload_n 3, 1) := by decide +kernel
theorem dL_areCurvesSo_304 : decode cL_areCurvesSo 304 = .ok (.iload 5, 2) := by decide +kernel
theorem dL_areCurvesSo_306 : decode cL_areCurvesSo 306 = .ok (.iload 4, 2) := by decide +kernel
theorem dL_areCurvesSo_308 : decode cL_areCurvesSo 308 = .ok (.iload 5, 2) := by decide +kernel
theorem dL_areCurvesSo_310 : decode cL_areCurvesSo 310 = .ok (.invokevirtual 183, 3) := by decide +kernel
theorem dL_areCurvesSo_313 : decode cL_areCurvesSo 313 = .ok (.if_icmp .ne 42, 3) := by decide +kernel
theorem dL_areCurvesSo_316 : decode cL_areCurvesSo 316 = .ok (.iload 9, 2) := by decide +kernel
theorem dL_areCurvesSo_318 : decode cL_areCurvesSo 318 = .ok (.ifCond .lt 37, 3) := by decide +kernel
theorem dL_areCurvesSo_321 : decode cL_areCurvesSo 321 = .ok (.iload 9, 2) := by decide +kernel
theorem dL_areCurvesSo_323 : decode cL_areCurvesSo 323 = .ok (.bipush 9, 2) := by decide +kernel
theorem dL_areCurvesSo_325 : decode cL_areCurvesSo 325 = .ok (.if_icmp .gt 30, 3) := by decide +kernel
theorem dL_areCurvesSo_328 : decode cL_areCurvesSo 328 = .ok (.aload_n 0, 1) := by decide +kernel
theorem dL_areCurvesSo_329 : decode cL_areCurvesSo 329 = .ok (.iload 11, 2) := by decide +kernel
theorem dL_areCurvesSo_331 : decode cL_areCurvesSo 331 = .ok (.invokevirtual 130, 3) := by decide +kernel
theorem dL_areCurvesSo_334 : decode cL_areCurvesSo 334 = .ok (.ifCond .eq 8, 3) := by decide +kernel
theorem dL_areCurvesSo_337 : decode cL_areCurvesSo 337 = .ok (.iload 9, 2) := by decide +kernel
theorem dL_areCurvesSo_339 : decode cL_areCurvesSo 339 = .ok (.ifCond .le 16, 3) := by decide +kernel
theorem dL_areCurvesSo_342 : decode cL_areCurvesSo 342 = .ok (.aload_n 0, 1) := by decide +kernel
theorem dL_areCurvesSo_343 : decode cL_areCurvesSo 343 = .ok (.invokevirtual 115, 3) := by decide +kernel
theorem dL_areCurvesSo_346 : decode cL_areCurvesSo 346 = .ok (.iload 12, 2) := by decide +kernel
theorem dL_areCurvesSo_348 : decode cL_areCurvesSo 348 = .ok (.if_icmp .lt 7, 3) := by decide +kernel
theorem dL_areCurvesSo_351 : decode cL_areCurvesSo 351 = .ok (.iconst 1, 1) := by decide +kernel
theorem dL_areCurvesSo_352 : decode cL_areCurvesSo 352 = .ok (.goto 4, 3) := by decide +kernel
theorem dL_areCurvesSo_355 : decode cL_areCurvesSo 355 = .ok (.iconst 0, 1) := by decide +kernel
theorem dL_areCurvesSo_356 : decode cL_areCurvesSo 356 = .ok (.istore 7, 2) := by decide +kernel
theorem dL_areCurvesSo_358 : decode cL_areCurvesSo 358 = .ok (.iload 7, 2) := by decide +kernel
theorem dL_areCurvesSo_360 : decode cL_areCurvesSo 360 = .ok (.ifCond .eq 34, 3) := by decide +kernel
theorem dL_areCurvesSo_363 : decode cL_areCurvesSo 363 = .ok (.aload_n 0, 1) := by decide +kernel
theorem dL_areCurvesSo_364 : decode cL_areCurvesSo 364 = .ok (.invokestatic 196, 3) := by decide +kernel
theorem dL_areCurvesSo_367 : decode cL_areCurvesSo 367 = .ok (.ifCond .lt 27, 3) := by decide +kernel
theorem dL_areCurvesSo_370 : decode cL_areCurvesSo 370 = .ok (.aload_n 0, 1) := by decide +kernel
theorem dL_areCurvesSo_371 : decode cL_areCurvesSo 371 = .ok (.invokevirtual 77, 3) := by decide +kernel
theorem dL_areCurvesSo_374 : decode cL_areCurvesSo 374 = .ok (.iload 11, 2) := by decide +kernel
theorem dL_areCurvesSo_376 : decode cL_areCurvesSo 376 = .ok (.if_icmp .ne 18, 3) := by decide +kernel
theorem dL_areCurvesSo_379 : decode cL_areCurvesSo 379 = .ok (.aload_n 0, 1) := by decide +kernel
theorem dL_areCurvesSo_380 : decode cL_areCurvesSo 380 = .ok (.iconst 4, 1) := by decide +kernel
theorem dL_areCurvesSo_381 : decode cL_areCurvesSo 381 = .ok (.iconst 0, 1) := by decide +kernel
theorem dL_areCurvesSo_382 : decode cL_areCurvesSo 382 = .ok (.invokestatic 93, 3) := by decide +kernel
theorem dL_areCurvesSo_385 : decode cL_areCurvesSo 385 = .ok (.iload 8, 2) := by decide +kernel
theorem dL_areCurvesSo_387 : decode cL_areCurvesSo 387 = .ok (.if_icmp .ne 7, 3) := by decide +kernel
theorem dL_areCurvesSo_390 : decode cL_areCurvesSo 390 = .ok (.iconst 1, 1) := by decide +kernel
theorem dL_areCurvesSo_391 : decode cL_areCurvesSo 391 = .ok (.goto 4, 3) := by decide +kernel
theorem dL_areCurvesSo_394 : decode cL_areCurvesSo 394 = .ok (.iconst 0, 1) := by decide +kernel
theorem dL_areCurvesSo_395 : decode cL_areCurvesSo 395 = .ok (.ireturn, 1) := by decide +kernel
def f_L_areCurvesSo (N : Nat) (fo : (Nat → Int32)) (xv : XV) (nv : SV) (tv : SV) (v0 : SV) (v1 : SV) (v2 : SV) (v3 : SV) (v4 : SV) (v5 : SV) (p2 : Int32) : Option (Int32 × ((Nat → Int32) × XV × SV × SV × SV × SV × SV × SV × SV × SV)) :=
  (f_L_low N p2 (19 : Int32)).bind (fun o1 => (f_L_low N (p2 >>> ((3 : Int32) &&& 31)) (7 : Int32)).bind (fun o3 => (f_L_low N (p2 >>> ((6 : Int32) &&& 31)) (56 : Int32)).bind (fun o5 => lpN (fun (s45 : Int32 × Int32 × Int32) (k45 : (Int32 × Int32 × Int32) → Option (Int32 × ((Nat → Int32) × XV × SV × SV × SV × SV × SV × SV × SV × SV))) => jn (fun (s137 : Unit) => (f_L_looks N xv nv (4 : Int32) (0 : Int32)).bind (fun o7 => jn (fun (s157 : Unit) => some (s45.2.1, (fo, o7.2.1, o7.2.2, tv, v0, v1, v2, v3, v4, v5))) (fun (j157 : (Unit) → Option (Int32 × ((Nat → Int32) × XV × SV × SV × SV × SV × SV × SV × SV × SV))) => (if o7.1 = (-9 : Int32) then j157 () else (if s45.2.1 = 0 then j157 () else (f_X5_wouldStrike N o7.2.1 o7.2.2 tv (o1 - (9 : Int32)) ((15 : Int32) + o5) (o3 - (3 : Int32))).bind (fun o11 => exc o11.1 (fun k => none) (fun (ro11 : Int32) => (f_X5_wouldCount N o11.2.1 o11.2.2.1 o11.2.2.2 (o1 - (9 : Int32)) ((15 : Int32) + o5) (o3 - (3 : Int32))).bind (fun o13 => exc o13.1 (fun k => none) (fun (ro13 : Int32) => (f_X5_bowls N o13.2.1 o13.2.2.1).bind (fun o15 => (f_X5_putBack N o13.2.1 o13.2.2.1).bind (fun o17 => (f_L_changes N fo o13.2.1 o13.2.2.1 v0 v1 v2 v3 v4 v5 (1 : Int32) (o1 - (9 : Int32)) ((15 : Int32) + o5) (o3 - (3 : Int32))).bind (fun o19 => (f_X5_pointsByOrder N o19.2.2.1 o19.2.2.2.1).bind (fun o21 => jn (fun (s356 : Int32) => jn (fun (s395 : Int32 × (Nat → Int32) × XV × SV × SV × SV × SV × SV × SV × SV × SV) => some (s395.1, (s395.2.1, s395.2.2.1, s395.2.2.2.1, s395.2.2.2.2.1, s395.2.2.2.2.2.1, s395.2.2.2.2.2.2.1, s395.2.2.2.2.2.2.2.1, s395.2.2.2.2.2.2.2.2.1, s395.2.2.2.2.2.2.2.2.2.1, s395.2.2.2.2.2.2.2.2.2.2))) (fun (j395 : (Int32 × (Nat → Int32) × XV × SV × SV × SV × SV × SV × SV × SV × SV) → Option (Int32 × ((Nat → Int32) × XV × SV × SV × SV × SV × SV × SV × SV × SV))) => jn (fun (s394 : (Nat → Int32) × XV × SV × SV × SV × SV × SV × SV × SV × SV) => j395 ((0 : Int32), s394.1, s394.2.1, s394.2.2.1, s394.2.2.2.1, s394.2.2.2.2.1, s394.2.2.2.2.2.1, s394.2.2.2.2.2.2.1, s394.2.2.2.2.2.2.2.1, s394.2.2.2.2.2.2.2.2.1, s394.2.2.2.2.2.2.2.2.2)) (fun (j394 : ((Nat → Int32) × XV × SV × SV × SV × SV × SV × SV × SV × SV) → Option (Int32 × ((Nat → Int32) × XV × SV × SV × SV × SV × SV × SV × SV × SV))) => (if s356 = 0 then j394 (o19.2.1, o21.2.1, o21.2.2, o13.2.2.2, o19.2.2.2.2.1, o19.2.2.2.2.2.1, o19.2.2.2.2.2.2.1, o19.2.2.2.2.2.2.2.1, o19.2.2.2.2.2.2.2.2.1, o19.2.2.2.2.2.2.2.2.2) else (f_L_undoes N o21.2.1 o21.2.2 o19.2.2.2.2.1 o19.2.2.2.2.2.1 o19.2.2.2.2.2.2.1 o19.2.2.2.2.2.2.2.1 o19.2.2.2.2.2.2.2.2.1 o19.2.2.2.2.2.2.2.2.2).bind (fun o24 => (if o24.1 < 0 then j394 (o19.2.1, o24.2.1, o24.2.2.1, o13.2.2.2, o24.2.2.2.1, o24.2.2.2.2.1, o24.2.2.2.2.2.1, o24.2.2.2.2.2.2.1, o24.2.2.2.2.2.2.2.1, o24.2.2.2.2.2.2.2.2) else (f_X5_bowls N o24.2.1 o24.2.2.1).bind (fun o27 => (if o27 = o15 then (f_L_looks N o24.2.1 o24.2.2.1 (4 : Int32) (0 : Int32)).bind (fun o30 => (if o30.1 = o7.1 then j395 ((1 : Int32), o19.2.1, o30.2.1, o30.2.2, o13.2.2.2, o24.2.2.2.1, o24.2.2.2.2.1, o24.2.2.2.2.2.1, o24.2.2.2.2.2.2.1, o24.2.2.2.2.2.2.2.1, o24.2.2.2.2.2.2.2.2) else j394 (o19.2.1, o30.2.1, o30.2.2, o13.2.2.2, o24.2.2.2.1, o24.2.2.2.2.1, o24.2.2.2.2.2.1, o24.2.2.2.2.2.2.1, o24.2.2.2.2.2.2.2.1, o24.2.2.2.2.2.2.2.2))) else j394 (o19.2.1, o24.2.1, o24.2.2.1, o13.2.2.2, o24.2.2.2.1, o24.2.2.2.2.1, o24.2.2.2.2.2.1, o24.2.2.2.2.2.2.1, o24.2.2.2.2.2.2.2.1, o24.2.2.2.2.2.2.2.2))))))))) (fun (j356 : (Int32) → Option (Int32 × ((Nat → Int32) × XV × SV × SV × SV × SV × SV × SV × SV × SV))) => jn (fun (s355 : Unit) => j356 (0 : Int32)) (fun (j355 : (Unit) → Option (Int32 × ((Nat → Int32) × XV × SV × SV × SV × SV × SV × SV × SV × SV))) => (if o19.1 = 0 then (f_X5_bowls N o21.2.1 o21.2.2).bind (fun o34 => (if o34 = (o15 + (1 : Int32)) then jn (fun (s257 : Int32) => (if ro13 = s257 then jn (fun (s316 : Unit) => (if ro11 < 0 then j355 () else (if (9 : Int32) < ro11 then j355 () else (f_X5_isToucher N o21.2.1 o21.2.2 o15).bind (fun o40 => exc o40 (fun k => none) (fun (ro40 : Int32) => jn (fun (s342 : Unit) => (f_X5_putBack N o21.2.1 o21.2.2).bind (fun o43 => (if o43 < o17 then j355 () else j356 (1 : Int32)))) (fun (j342 : (Unit) → Option (Int32 × ((Nat → Int32) × XV × SV × SV × SV × SV × SV × SV × SV × SV))) => (if ro40 = 0 then j342 () else (if ro11 ≤ 0 then j355 () else j342 ())))))))) (fun (j316 : (Unit) → Option (Int32 × ((Nat → Int32) × XV × SV × SV × SV × SV × SV × SV × SV × SV))) => (if 0 < ro11 then j316 () else (if s45.1 = 0 then (if (o19.2.1 (0 : Int32).toNatClampNeg) = 0 then (f_X5_rowOf N o21.2.1 o21.2.2 o15).bind (fun o52 => exc o52 (fun k => none) (fun (ro52 : Int32) => (f_X5_columnOf N o21.2.1 o21.2.2 o15).bind (fun o54 => exc o54 (fun k => none) (fun (ro54 : Int32) => (f_X5_curveBySteps N o21.2.1 o21.2.2 (o1 - (9 : Int32)) ((15 : Int32) + o5) (o3 - (3 : Int32)) ((15 : Int32) + o5)).bind (fun o56 => exc o56 (fun k => none) (fun (ro56 : Int32) => (if (((21 : Int32) * ro52) + ro54) = ro56 then j316 () else j355 ()))))))) else j355 ()) else (if (o19.2.1 (0 : Int32).toNatClampNeg) = (2 : Int32) then j316 () else j355 ())))) else j355 ())) (fun (j257 : (Int32) → Option (Int32 × ((Nat → Int32) × XV × SV × SV × SV × SV × SV × SV × SV × SV))) => (if o21.1 = 0 then j257 (0 : Int32) else (f_X5_leader N o21.2.1 o21.2.2).bind (fun o62 => exc o62 (fun k => none) (fun (ro62 : Int32) => (if ro62 = o7.1 then j257 o21.1 else j257 (-o21.1)))))) else j355 ())) else j355 ())))))))))))))))) (fun (j137 : (Unit) → Option (Int32 × ((Nat → Int32) × XV × SV × SV × SV × SV × SV × SV × SV × SV))) => (if ((15 : Int32) + o5) < s45.2.2 then j137 () else (if s45.2.1 = 0 then j137 () else (f_X5_curveBySteps N xv nv (o1 - (9 : Int32)) ((15 : Int32) + o5) (o3 - (3 : Int32)) s45.2.2).bind (fun o67 => exc o67 (fun k => none) (fun (ro67 : Int32) => (f_X5_curveByFormula N xv nv (o1 - (9 : Int32)) ((15 : Int32) + o5) (o3 - (3 : Int32)) s45.2.2).bind (fun o69 => exc o69 (fun k => none) (fun (ro69 : Int32) => jn (fun (s117 : Int32) => jn (fun (s129 : Int32) => k45 (s129, s117, (s45.2.2 + (1 : Int32)))) (fun (j129 : (Int32) → Option (Int32 × ((Nat → Int32) × XV × SV × SV × SV × SV × SV × SV × SV × SV))) => (if 0 ≤ ro67 then j129 (0 : Int32) else j129 (1 : Int32)))) (fun (j117 : (Int32) → Option (Int32 × ((Nat → Int32) × XV × SV × SV × SV × SV × SV × SV × SV × SV))) => jn (fun (s116 : Unit) => j117 (0 : Int32)) (fun (j116 : (Unit) → Option (Int32 × ((Nat → Int32) × XV × SV × SV × SV × SV × SV × SV × SV × SV))) => (if ro67 = ro69 then jn (fun (s97 : Unit) => jn (fun (s112 : Unit) => j117 (1 : Int32)) (fun (j112 : (Unit) → Option (Int32 × ((Nat → Int32) × XV × SV × SV × SV × SV × SV × SV × SV × SV))) => (if ro67 < 0 then j112 () else (if (ro67 / (21 : Int32)) = s45.2.2 then j112 () else j116 ())))) (fun (j97 : (Unit) → Option (Int32 × ((Nat → Int32) × XV × SV × SV × SV × SV × SV × SV × SV × SV))) => (if s45.1 = 0 then j97 () else (if ro67 = (-1 : Int32) then j97 () else j116 ()))) else j116 ()))))))))))) 72 ((0 : Int32), (1 : Int32), (0 : Int32)))))
set_option maxHeartbeats 4000000 in
set_option maxRecDepth 100000 in
theorem met_L_areCurvesSo (l : Launch) (z0 : Nat) (hst : l.stackTraces = false) (dC : Nat → ClassId) (dI : Nat → Nat → Nat) (cyI cyO : ClassId) (qo : Nat) (x : Nat → Nat) (an : Nat → Nat) (tr : Nat → Nat) (b0 : Nat → Nat) (b1 : Nat → Nat) (b2 : Nat → Nat) (b3 : Nat → Nat) (b4 : Nat → Nat) (b5 : Nat → Nat) (fl fs : Nat → Option Nat) (sz : Nat) (N : Nat) (fo : (Nat → Int32)) (xv : XV) (nv : SV) (tv : SV) (v0 : SV) (v1 : SV) (v2 : SV) (v3 : SV) (v4 : SV) (v5 : SV) (p2 : Int32) (hs0 : fs 0 = some (b0 0)) (hs1 : fs 1 = some (b1 0)) (hs2 : fs 2 = some (b2 0)) (hs3 : fs 3 = some (b3 0)) (hs4 : fs 4 = some (b4 0)) (hs5 : fs 5 = some (b5 0)) (out : Int32 × ((Nat → Int32) × XV × SV × SV × SV × SV × SV × SV × SV × SV)) (hF : f_L_areCurvesSo N fo xv nv tv v0 v1 v2 v3 v4 v5 p2 = some out) : Met l yL_areCurvesSo (Cond.code yL_areCurvesSo cL_areCurvesSo 15 (some .boolean) :: wT) ({ frames := 9, cells := 178, slots := 1068, locals := 158 } : Room) (wWrX z0 dC dI cyI cyO [.ref (x 0), .int p2, .ref qo] (([[cI cyI qo 1 fo], (cXo x an tr xv), (cH cyO (x 1) (x 2) 2 fl), (cXk cyI x xv), (cH cyO (x 4) (x 5) 6 fs), (cT cyI x (X_text xv)), (cSo an nv), (cG cyI an (S_green nv)), (cV cyI an (S_score nv)), (cSo tr tv), (cG cyI tr (S_green tv)), (cV cyI tr (S_score tv)), (cS cyI b0 v0), (cS cyI b1 v1), (cS cyI b2 v2), (cS cyI b3 v3), (cS cyI b4 v4), (cS cyI b5 v5)] : List va_W).flatten) sz) (va_Qi (fun (r : Int32) (u : (Nat → Int32) × XV × SV × SV × SV × SV × SV × SV × SV × SV) => (r, u) = out ∧ b01 r) (fun u t => va_P (dC, dI) vwCl (([[cI cyI qo 1 u.1], (cXo x an tr u.2.1), (cH cyO (x 1) (x 2) 2 fl), (cXk cyI x u.2.1), (cH cyO (x 4) (x 5) 6 fs), (cT cyI x (X_text u.2.1)), (cSo an u.2.2.1), (cG cyI an (S_green u.2.2.1)), (cV cyI an (S_score u.2.2.1)), (cSo tr u.2.2.2.1), (cG cyI tr (S_green u.2.2.2.1)), (cV cyI tr (S_score u.2.2.2.1)), (cS cyI b0 u.2.2.2.2.1), (cS cyI b1 u.2.2.2.2.2.1), (cS cyI b2 u.2.2.2.2.2.2.1), (cS cyI b3 u.2.2.2.2.2.2.2.1), (cS cyI b4 u.2.2.2.2.2.2.2.2.1), (cS cyI b5 u.2.2.2.2.2.2.2.2.2)] : List va_W).flatten) t.heap ∧ va_D (va_A (([[cI cyI qo 1 fo], (cXo x an tr xv), (cH cyO (x 1) (x 2) 2 fl), (cXk cyI x xv), (cH cyO (x 4) (x 5) 6 fs), (cT cyI x (X_text xv)), (cSo an nv), (cG cyI an (S_green nv)), (cV cyI an (S_score nv)), (cSo tr tv), (cG cyI tr (S_green tv)), (cV cyI tr (S_score tv)), (cS cyI b0 v0), (cS cyI b1 v1), (cS cyI b2 v2), (cS cyI b3 v3), (cS cyI b4 v4), (cS cyI b5 v5)] : List va_W).flatten) sz) (([[cI cyI qo 1 u.1], (cXo x an tr u.2.1), (cH cyO (x 1) (x 2) 2 fl), (cXk cyI x u.2.1), (cH cyO (x 4) (x 5) 6 fs), (cT cyI x (X_text u.2.1)), (cSo an u.2.2.1), (cG cyI an (S_green u.2.2.1)), (cV cyI an (S_score u.2.2.1)), (cSo tr u.2.2.2.1), (cG cyI tr (S_green u.2.2.2.1)), (cV cyI tr (S_score u.2.2.2.1)), (cS cyI b0 u.2.2.2.2.1), (cS cyI b1 u.2.2.2.2.2.1), (cS cyI b2 u.2.2.2.2.2.2.1), (cS cyI b3 u.2.2.2.2.2.2.2.1), (cS cyI b4 u.2.2.2.2.2.2.2.2.1), (cS cyI b5 u.2.2.2.2.2.2.2.2.2)] : List va_W).flatten)) (va_A (([[cI cyI qo 1 fo], (cXo x an tr xv), (cH cyO (x 1) (x 2) 2 fl), (cXk cyI x xv), (cH cyO (x 4) (x 5) 6 fs), (cT cyI x (X_text xv)), (cSo an nv), (cG cyI an (S_green nv)), (cV cyI an (S_score nv)), (cSo tr tv), (cG cyI tr (S_green tv)), (cV cyI tr (S_score tv)), (cS cyI b0 v0), (cS cyI b1 v1), (cS cyI b2 v2), (cS cyI b3 v3), (cS cyI b4 v4), (cS cyI b5 v5)] : List va_W).flatten) sz)) 178 1068 (va_A (([[cI cyI qo 1 fo], (cXo x an tr xv), (cH cyO (x 1) (x 2) 2 fl), (cXk cyI x xv), (cH cyO (x 4) (x 5) 6 fs), (cT cyI x (X_text xv)), (cSo an nv), (cG cyI an (S_green nv)), (cV cyI an (S_score nv)), (cSo tr tv), (cG cyI tr (S_green tv)), (cV cyI tr (S_score tv)), (cS cyI b0 v0), (cS cyI b1 v1), (cS cyI b2 v2), (cS cyI b3 v3), (cS cyI b4 v4), (cS cyI b5 v5)] : List va_W).flatten) sz) := by
  refine Met.ofW (cc := cL_areCurvesSo) (maxL := 15) (ret := (some .boolean)) (by decide) rfl ?_
  intro p e s m args below meth c s₁ B hml hv
  obtain ⟨rfl, hsz, hP, hK, hD0, hz0, hZ⟩ := hv
  have hx := B.exec
  have hb := B.bytes
  have hr := B.returns
  have hts0 := atoms_spec (ws := (Cond.code yL_areCurvesSo cL_areCurvesSo 15 (some .boolean) :: wT)) B.pre
  have hts := fun w h => hts0 w (List.mem_cons_of_mem _ h)
  clear hts0
  have hown : s.vm.findClass RL = some m.cls := findClass_of_methodNamed B.named
  have hlocks := B.notSynchronized
  subst hsz
  have hD := hD0.self (sz := s.heap.size)
  have hAz := wA_ge hD0 hz0
  generalize hAe : va_A (([[cI cyI qo 1 fo], (cXo x an tr xv), (cH cyO (x 1) (x 2) 2 fl), (cXk cyI x xv), (cH cyO (x 4) (x 5) 6 fs), (cT cyI x (X_text xv)), (cSo an nv), (cG cyI an (S_green nv)), (cV cyI an (S_score nv)), (cSo tr tv), (cG cyI tr (S_green tv)), (cV cyI tr (S_score tv)), (cS cyI b0 v0), (cS cyI b1 v1), (cS cyI b2 v2), (cS cyI b3 v3), (cS cyI b4 v4), (cS cyI b5 v5)] : List va_W).flatten) s.heap.size = A at hD hAz ⊢
  have hA : ∀ q : Nat, s.heap.size ≤ q → A q := fun q h => by rw [← hAe]; exact Or.inr h
  clear hD0
  have hS : va_S A s.heap s.heap [] := va_S.rf
  have hl := lv_entry [.ref (x 0), .int p2, .ref qo] (n := 15) (Nat.le_of_ble_eq_true rfl)
  rw [lg_entry_eq]
  generalize (lg_sl [.ref (x 0), .int p2, .ref qo] ++ List.replicate (15 - (lg_sl [.ref (x 0), .int p2, .ref qo]).length) Slot.unset).toArray = ls at hl ⊢
  have hl : lv_has ls 15 [(0, .ref (x 0)), (1, .int p2), (2, .ref qo)] := hl
  unfold f_L_areCurvesSo at hF
  refine lv_iload_n hx hb dL_areCurvesSo_0 rfl (lv_at hl 1 rfl) ?_
  refine lv_bipush (v := 19) hx hb dL_areCurvesSo_1 (by decide) ?_
  obtain ⟨o1, h2, hF⟩ := obd hF
  refine wcRSi (As := [.int p2, .int (19 : Int32)]) (rest := []) ⟨hx, hb, hml, hown, hts⟩ (met_L_low l dC dI cyI cyO  N  p2 (19 : Int32) o1 h2) (va_cwS 2 hts (gS w_methodLink_L_68 w_static_L_low w_initialized_L w_code_L_low) rfl rfl rfl (by decide +kernel) ⟨Nat.le_of_ble_eq_true rfl, Nat.le_of_ble_eq_true rfl⟩) hP hK [] rfl rfl hl.1 (Nat.le_of_ble_eq_true rfl) dL_areCurvesSo_3 ⟨(show _ ≤ 178 from by omega), (show _ ≤ 1068 from by omega)⟩ hS (fun r H locs hw hP hS => ?_)
  have hw := hw.symm
  subst hw
  refine lv_bipush (v := 9) hx hb dL_areCurvesSo_6 (by decide) ?_
  refine lv_isub hx hb dL_areCurvesSo_8 ?_
  refine lv_istore_n (lv' := [(3, .int (o1 - (9 : Int32))), (0, .ref (x 0)), (1, .int p2), (2, .ref qo)]) hx hb dL_areCurvesSo_9 rfl hl (by decide) rfl (fun ls hl => ?_)
  refine lv_iload_n hx hb dL_areCurvesSo_10 rfl (lv_at hl 2 rfl) ?_
  refine lv_iconst (v := 3) hx hb dL_areCurvesSo_11 (by decide) ?_
  refine lv_ishr hx hb dL_areCurvesSo_12 ?_
  refine lv_bipush (v := 7) hx hb dL_areCurvesSo_13 (by decide) ?_
  obtain ⟨o3, h4, hF⟩ := obd hF
  refine wcRSi (As := [.int (p2 >>> ((3 : Int32) &&& 31)), .int (7 : Int32)]) (rest := []) ⟨hx, hb, hml, hown, hts⟩ (met_L_low l dC dI cyI cyO  N  (p2 >>> ((3 : Int32) &&& 31)) (7 : Int32) o3 h4) (va_cwS 2 hts (gS w_methodLink_L_68 w_static_L_low w_initialized_L w_code_L_low) rfl rfl rfl (by decide +kernel) ⟨Nat.le_of_ble_eq_true rfl, Nat.le_of_ble_eq_true rfl⟩) hP hK [] rfl rfl hl.1 (Nat.le_of_ble_eq_true rfl) dL_areCurvesSo_15 ⟨(show _ ≤ 178 from by omega), (show _ ≤ 1068 from by omega)⟩ hS (fun r H locs hw hP hS => ?_)
  have hw := hw.symm
  subst hw
  refine lv_iconst (v := 3) hx hb dL_areCurvesSo_18 (by decide) ?_
  refine lv_isub hx hb dL_areCurvesSo_19 ?_
  refine lv_istore (lv' := [(4, .int (o3 - (3 : Int32))), (3, .int (o1 - (9 : Int32))), (0, .ref (x 0)), (1, .int p2), (2, .ref qo)]) hx hb dL_areCurvesSo_20 hl (by decide) rfl (fun ls hl => ?_)
  refine lv_bipush (v := 15) hx hb dL_areCurvesSo_22 (by decide) ?_
  refine lv_iload_n hx hb dL_areCurvesSo_24 rfl (lv_at hl 3 rfl) ?_
  refine lv_bipush (v := 6) hx hb dL_areCurvesSo_25 (by decide) ?_
  refine lv_ishr hx hb dL_areCurvesSo_27 ?_
  refine lv_bipush (v := 56) hx hb dL_areCurvesSo_28 (by decide) ?_
  obtain ⟨o5, h6, hF⟩ := obd hF
  refine wcRSi (As := [.int (p2 >>> ((6 : Int32) &&& 31)), .int (56 : Int32)]) (rest := [.int (15 : Int32)]) ⟨hx, hb, hml, hown, hts⟩ (met_L_low l dC dI cyI cyO  N  (p2 >>> ((6 : Int32) &&& 31)) (56 : Int32) o5 h6) (va_cwS 2 hts (gS w_methodLink_L_68 w_static_L_low w_initialized_L w_code_L_low) rfl rfl rfl (by decide +kernel) ⟨Nat.le_of_ble_eq_true rfl, Nat.le_of_ble_eq_true rfl⟩) hP hK [] rfl rfl hl.1 (Nat.le_of_ble_eq_true rfl) dL_areCurvesSo_30 ⟨(show _ ≤ 178 from by omega), (show _ ≤ 1068 from by omega)⟩ hS (fun r H locs hw hP hS => ?_)
  have hw := hw.symm
  subst hw
  refine lv_iadd hx hb dL_areCurvesSo_33 ?_
  refine lv_istore (lv' := [(5, .int ((15 : Int32) + o5)), (4, .int (o3 - (3 : Int32))), (3, .int (o1 - (9 : Int32))), (0, .ref (x 0)), (1, .int p2), (2, .ref qo)]) hx hb dL_areCurvesSo_34 hl (by decide) rfl (fun ls hl => ?_)
  refine lv_iconst (v := 0) hx hb dL_areCurvesSo_36 (by decide) ?_
  refine lv_istore (lv' := [(6, .int (0 : Int32)), (5, .int ((15 : Int32) + o5)), (4, .int (o3 - (3 : Int32))), (3, .int (o1 - (9 : Int32))), (0, .ref (x 0)), (1, .int p2), (2, .ref qo)]) hx hb dL_areCurvesSo_37 hl (by decide) rfl (fun ls hl => ?_)
  refine lv_iconst (v := 1) hx hb dL_areCurvesSo_39 (by decide) ?_
  refine lv_istore (lv' := [(7, .int (1 : Int32)), (6, .int (0 : Int32)), (5, .int ((15 : Int32) + o5)), (4, .int (o3 - (3 : Int32))), (3, .int (o1 - (9 : Int32))), (0, .ref (x 0)), (1, .int p2), (2, .ref qo)]) hx hb dL_areCurvesSo_40 hl (by decide) rfl (fun ls hl => ?_)
  refine lv_iconst (v := 0) hx hb dL_areCurvesSo_42 (by decide) ?_
  refine lv_istore (lv' := [(8, .int (0 : Int32)), (7, .int (1 : Int32)), (6, .int (0 : Int32)), (5, .int ((15 : Int32) + o5)), (4, .int (o3 - (3 : Int32))), (3, .int (o1 - (9 : Int32))), (0, .ref (x 0)), (1, .int p2), (2, .ref qo)]) hx hb dL_areCurvesSo_43 hl (by decide) rfl (fun ls hl => ?_)
  obtain ⟨st45, hst45, hF⟩ := lpN_use hF
  have hL45 : ∀ (n45 : Nat) (hn45 : n45 ≤ 72) (s45 : Int32 × Int32 × Int32) (H : Heap) (locs : List Loc) (ls : Array Slot) (hz_45_6 : b01 s45.1) (hz_45_7 : b01 s45.2.1), va_P (dC, dI) vwCl (([[cI cyI qo 1 fo], (cXo x an tr xv), (cH cyO (x 1) (x 2) 2 fl), (cXk cyI x xv), (cH cyO (x 4) (x 5) 6 fs), (cT cyI x (X_text xv)), (cSo an nv), (cG cyI an (S_green nv)), (cV cyI an (S_score nv)), (cSo tr tv), (cG cyI tr (S_green tv)), (cV cyI tr (S_score tv)), (cS cyI b0 v0), (cS cyI b1 v1), (cS cyI b2 v2), (cS cyI b3 v3), (cS cyI b4 v4), (cS cyI b5 v5)] : List va_W).flatten) H → va_D A (([[cI cyI qo 1 fo], (cXo x an tr xv), (cH cyO (x 1) (x 2) 2 fl), (cXk cyI x xv), (cH cyO (x 4) (x 5) 6 fs), (cT cyI x (X_text xv)), (cSo an nv), (cG cyI an (S_green nv)), (cV cyI an (S_score nv)), (cSo tr tv), (cG cyI tr (S_green tv)), (cV cyI tr (S_score tv)), (cS cyI b0 v0), (cS cyI b1 v1), (cS cyI b2 v2), (cS cyI b3 v3), (cS cyI b4 v4), (cS cyI b5 v5)] : List va_W).flatten) → va_S A s.heap H locs → lv_has ls 15 [(0, .ref (x 0)), (2, .ref qo), (3, .int (o1 - (9 : Int32))), (4, .int (o3 - (3 : Int32))), (5, .int ((15 : Int32) + o5)), (6, .int s45.1), (7, .int s45.2.1), (8, .int s45.2.2)] → lpN st45 n45 s45 = some out → W p l e (headSpec (Cond.code yL_areCurvesSo cL_areCurvesSo 15 (some .boolean) :: wT) ({ frames := 9, cells := 178, slots := 1068, locals := 158 } : Room)).room s m ([.ref (x 0), .int p2, .ref qo] : List Value).toArray below meth c H locs (0 + 2 * (72 - (n45))) (0 + 12 * (72 - (n45))) (MQ below (va_Qi (fun (r : Int32) (u : (Nat → Int32) × XV × SV × SV × SV × SV × SV × SV × SV × SV) => (r, u) = out ∧ b01 r) (fun u t => va_P (dC, dI) vwCl (([[cI cyI qo 1 u.1], (cXo x an tr u.2.1), (cH cyO (x 1) (x 2) 2 fl), (cXk cyI x u.2.1), (cH cyO (x 4) (x 5) 6 fs), (cT cyI x (X_text u.2.1)), (cSo an u.2.2.1), (cG cyI an (S_green u.2.2.1)), (cV cyI an (S_score u.2.2.1)), (cSo tr u.2.2.2.1), (cG cyI tr (S_green u.2.2.2.1)), (cV cyI tr (S_score u.2.2.2.1)), (cS cyI b0 u.2.2.2.2.1), (cS cyI b1 u.2.2.2.2.2.1), (cS cyI b2 u.2.2.2.2.2.2.1), (cS cyI b3 u.2.2.2.2.2.2.2.1), (cS cyI b4 u.2.2.2.2.2.2.2.2.1), (cS cyI b5 u.2.2.2.2.2.2.2.2.2)] : List va_W).flatten) t.heap ∧ va_D A (([[cI cyI qo 1 u.1], (cXo x an tr u.2.1), (cH cyO (x 1) (x 2) 2 fl), (cXk cyI x u.2.1), (cH cyO (x 4) (x 5) 6 fs), (cT cyI x (X_text u.2.1)), (cSo an u.2.2.1), (cG cyI an (S_green u.2.2.1)), (cV cyI an (S_score u.2.2.1)), (cSo tr u.2.2.2.1), (cG cyI tr (S_green u.2.2.2.1)), (cV cyI tr (S_score u.2.2.2.1)), (cS cyI b0 u.2.2.2.2.1), (cS cyI b1 u.2.2.2.2.2.1), (cS cyI b2 u.2.2.2.2.2.2.1), (cS cyI b3 u.2.2.2.2.2.2.2.1), (cS cyI b4 u.2.2.2.2.2.2.2.2.1), (cS cyI b5 u.2.2.2.2.2.2.2.2.2)] : List va_W).flatten)) A) ([.ref (x 0), .int p2, .ref qo] : List Value).toArray s 178 1068 A) (F0 m 45 ls []) := by
    intro n45
    induction n45 with
    | zero => intro hn45 s45 H locs ls hz_45_6 hz_45_7 hP hD hS hl hF; exact lpN_0 hF
    | succ n45 ih45 =>
      intro hn45 s45 H locs ls hz_45_6 hz_45_7 hP hD hS hl hF
      have hF := (congrFun (congrFun hst45 s45) (lpN st45 n45)).symm.trans (lpN_s hF)
      refine lv_iload hx hb dL_areCurvesSo_45 (lv_at hl 7 rfl) ?_
      refine lv_iload hx hb dL_areCurvesSo_47 (lv_at hl 4 rfl) ?_
      obtain ⟨j137, hj137, hF⟩ := jn_use hF
      have hJ137 : ∀ (s137 : Unit) (H : Heap) (locs : List Loc) (ls : Array Slot), va_P (dC, dI) vwCl (([[cI cyI qo 1 fo], (cXo x an tr xv), (cH cyO (x 1) (x 2) 2 fl), (cXk cyI x xv), (cH cyO (x 4) (x 5) 6 fs), (cT cyI x (X_text xv)), (cSo an nv), (cG cyI an (S_green nv)), (cV cyI an (S_score nv)), (cSo tr tv), (cG cyI tr (S_green tv)), (cV cyI tr (S_score tv)), (cS cyI b0 v0), (cS cyI b1 v1), (cS cyI b2 v2), (cS cyI b3 v3), (cS cyI b4 v4), (cS cyI b5 v5)] : List va_W).flatten) H → va_D A (([[cI cyI qo 1 fo], (cXo x an tr xv), (cH cyO (x 1) (x 2) 2 fl), (cXk cyI x xv), (cH cyO (x 4) (x 5) 6 fs), (cT cyI x (X_text xv)), (cSo an nv), (cG cyI an (S_green nv)), (cV cyI an (S_score nv)), (cSo tr tv), (cG cyI tr (S_green tv)), (cV cyI tr (S_score tv)), (cS cyI b0 v0), (cS cyI b1 v1), (cS cyI b2 v2), (cS cyI b3 v3), (cS cyI b4 v4), (cS cyI b5 v5)] : List va_W).flatten) → va_S A s.heap H locs → lv_has ls 15 [(0, .ref (x 0)), (2, .ref qo), (3, .int (o1 - (9 : Int32))), (4, .int (o3 - (3 : Int32))), (5, .int ((15 : Int32) + o5)), (6, .int s45.1), (7, .int s45.2.1)] → j137 s137 = some out → W p l e (headSpec (Cond.code yL_areCurvesSo cL_areCurvesSo 15 (some .boolean) :: wT) ({ frames := 9, cells := 178, slots := 1068, locals := 158 } : Room)).room s m ([.ref (x 0), .int p2, .ref qo] : List Value).toArray below meth c H locs (0 + 2 * (72 - (n45 + 1))) (0 + 12 * (72 - (n45 + 1))) (MQ below (va_Qi (fun (r : Int32) (u : (Nat → Int32) × XV × SV × SV × SV × SV × SV × SV × SV × SV) => (r, u) = out ∧ b01 r) (fun u t => va_P (dC, dI) vwCl (([[cI cyI qo 1 u.1], (cXo x an tr u.2.1), (cH cyO (x 1) (x 2) 2 fl), (cXk cyI x u.2.1), (cH cyO (x 4) (x 5) 6 fs), (cT cyI x (X_text u.2.1)), (cSo an u.2.2.1), (cG cyI an (S_green u.2.2.1)), (cV cyI an (S_score u.2.2.1)), (cSo tr u.2.2.2.1), (cG cyI tr (S_green u.2.2.2.1)), (cV cyI tr (S_score u.2.2.2.1)), (cS cyI b0 u.2.2.2.2.1), (cS cyI b1 u.2.2.2.2.2.1), (cS cyI b2 u.2.2.2.2.2.2.1), (cS cyI b3 u.2.2.2.2.2.2.2.1), (cS cyI b4 u.2.2.2.2.2.2.2.2.1), (cS cyI b5 u.2.2.2.2.2.2.2.2.2)] : List va_W).flatten) t.heap ∧ va_D A (([[cI cyI qo 1 u.1], (cXo x an tr u.2.1), (cH cyO (x 1) (x 2) 2 fl), (cXk cyI x u.2.1), (cH cyO (x 4) (x 5) 6 fs), (cT cyI x (X_text u.2.1)), (cSo an u.2.2.1), (cG cyI an (S_green u.2.2.1)), (cV cyI an (S_score u.2.2.1)), (cSo tr u.2.2.2.1), (cG cyI tr (S_green u.2.2.2.1)), (cV cyI tr (S_score u.2.2.2.1)), (cS cyI b0 u.2.2.2.2.1), (cS cyI b1 u.2.2.2.2.2.1), (cS cyI b2 u.2.2.2.2.2.2.1), (cS cyI b3 u.2.2.2.2.2.2.2.1), (cS cyI b4 u.2.2.2.2.2.2.2.2.1), (cS cyI b5 u.2.2.2.2.2.2.2.2.2)] : List va_W).flatten)) A) ([.ref (x 0), .int p2, .ref qo] : List Value).toArray s 178 1068 A) (F0 m 137 ls []) := by
        intro s137 H locs ls hP hD hS hl hF
        have hF := (congrFun hj137 s137).symm.trans hF
        refine lv_aload_n hx hb dL_areCurvesSo_137 rfl (lv_at hl 0 rfl) ?_
        refine lv_iconst (v := 4) hx hb dL_areCurvesSo_138 (by decide) ?_
        refine lv_iconst (v := 0) hx hb dL_areCurvesSo_139 (by decide) ?_
        obtain ⟨o7, h8, hF⟩ := obd hF
        refine wcLi (As := [.ref (x 0), .int (4 : Int32), .int (0 : Int32)]) (rest := []) (wr := ([[cI cyI qo 1 fo], (cSo tr tv), (cG cyI tr (S_green tv)), (cV cyI tr (S_score tv)), (cS cyI b0 v0), (cS cyI b1 v1), (cS cyI b2 v2), (cS cyI b3 v3), (cS cyI b4 v4), (cS cyI b5 v5)] : List va_W).flatten) ⟨hx, hb, hml, hown, hts⟩ (met_L_looks l z0 hst dC dI cyI cyO x tr an fl fs _ N xv nv (4 : Int32) (0 : Int32) o7 h8) (vx_cwSW 3 hts (gS w_methodLink_L_93 w_static_L_looks w_initialized_L w_codeW_L_looks) rfl rfl rfl (by decide +kernel) ⟨Nat.le_of_ble_eq_true rfl, Nat.le_of_ble_eq_true rfl⟩) hP hD hK hZ hAz hz0 (seg_perm (n := 18) (R := [[cI cyI qo 1 fo], (cSo tr tv), (cG cyI tr (S_green tv)), (cV cyI tr (S_score tv)), (cS cyI b0 v0), (cS cyI b1 v1), (cS cyI b2 v2), (cS cyI b3 v3), (cS cyI b4 v4), (cS cyI b5 v5)]) (C := [(cXo x an tr xv), (cH cyO (x 1) (x 2) 2 fl), (cXk cyI x xv), (cH cyO (x 4) (x 5) 6 fs), (cT cyI x (X_text xv)), (cSo an nv), (cG cyI an (S_green nv)), (cV cyI an (S_score nv))]) [0, 9, 10, 11, 12, 13, 14, 15, 16, 17] [1, 2, 3, 4, 5, 6, 7, 8] rfl rfl rfl (by decide) rfl) rfl hl.1 (Nat.le_of_ble_eq_true rfl) dL_areCurvesSo_140 ⟨(show _ ≤ 178 from by omega), (show _ ≤ 1068 from by omega)⟩ hS hA (fun r u H locs hw hP hD hS => ?_)
        obtain rfl : r = o7.1 := congrArg Prod.fst hw
        obtain rfl : u = o7.2 := congrArg Prod.snd hw
        clear hw
        have hq := seg_permS (segs := [[cI cyI qo 1 fo], (cXo x an tr o7.2.1), (cH cyO (x 1) (x 2) 2 fl), (cXk cyI x o7.2.1), (cH cyO (x 4) (x 5) 6 fs), (cT cyI x (X_text o7.2.1)), (cSo an o7.2.2), (cG cyI an (S_green o7.2.2)), (cV cyI an (S_score o7.2.2)), (cSo tr tv), (cG cyI tr (S_green tv)), (cV cyI tr (S_score tv)), (cS cyI b0 v0), (cS cyI b1 v1), (cS cyI b2 v2), (cS cyI b3 v3), (cS cyI b4 v4), (cS cyI b5 v5)]) (R := [[cI cyI qo 1 fo], (cSo tr tv), (cG cyI tr (S_green tv)), (cV cyI tr (S_score tv)), (cS cyI b0 v0), (cS cyI b1 v1), (cS cyI b2 v2), (cS cyI b3 v3), (cS cyI b4 v4), (cS cyI b5 v5)]) (C := [(cXo x an tr o7.2.1), (cH cyO (x 1) (x 2) 2 fl), (cXk cyI x o7.2.1), (cH cyO (x 4) (x 5) 6 fs), (cT cyI x (X_text o7.2.1)), (cSo an o7.2.2), (cG cyI an (S_green o7.2.2)), (cV cyI an (S_score o7.2.2))]) (n := 18) [0, 9, 10, 11, 12, 13, 14, 15, 16, 17] [1, 2, 3, 4, 5, 6, 7, 8] rfl rfl rfl (by decide)
        have hP : va_P (dC, dI) vwCl (([[cI cyI qo 1 fo], (cXo x an tr o7.2.1), (cH cyO (x 1) (x 2) 2 fl), (cXk cyI x o7.2.1), (cH cyO (x 4) (x 5) 6 fs), (cT cyI x (X_text o7.2.1)), (cSo an o7.2.2), (cG cyI an (S_green o7.2.2)), (cV cyI an (S_score o7.2.2)), (cSo tr tv), (cG cyI tr (S_green tv)), (cV cyI tr (S_score tv)), (cS cyI b0 v0), (cS cyI b1 v1), (cS cyI b2 v2), (cS cyI b3 v3), (cS cyI b4 v4), (cS cyI b5 v5)] : List va_W).flatten) H := hP.perm hq
        have hD : va_D A (([[cI cyI qo 1 fo], (cXo x an tr o7.2.1), (cH cyO (x 1) (x 2) 2 fl), (cXk cyI x o7.2.1), (cH cyO (x 4) (x 5) 6 fs), (cT cyI x (X_text o7.2.1)), (cSo an o7.2.2), (cG cyI an (S_green o7.2.2)), (cV cyI an (S_score o7.2.2)), (cSo tr tv), (cG cyI tr (S_green tv)), (cV cyI tr (S_score tv)), (cS cyI b0 v0), (cS cyI b1 v1), (cS cyI b2 v2), (cS cyI b3 v3), (cS cyI b4 v4), (cS cyI b5 v5)] : List va_W).flatten) := hD.perm hq
        clear hq
        refine lv_istore (lv' := [(8, .int o7.1), (0, .ref (x 0)), (2, .ref qo), (3, .int (o1 - (9 : Int32))), (4, .int (o3 - (3 : Int32))), (5, .int ((15 : Int32) + o5)), (6, .int s45.1), (7, .int s45.2.1)]) hx hb dL_areCurvesSo_143 hl (by decide) rfl (fun ls hl => ?_)
        refine lv_iload hx hb dL_areCurvesSo_145 (lv_at hl 0 rfl) ?_
        refine lv_bipush (v := -9) hx hb dL_areCurvesSo_147 (by decide) ?_
        obtain ⟨j157, hj157, hF⟩ := jn_use hF
        have hJ157 : ∀ (s157 : Unit) (H : Heap) (locs : List Loc) (ls : Array Slot), va_P (dC, dI) vwCl (([[cI cyI qo 1 fo], (cXo x an tr o7.2.1), (cH cyO (x 1) (x 2) 2 fl), (cXk cyI x o7.2.1), (cH cyO (x 4) (x 5) 6 fs), (cT cyI x (X_text o7.2.1)), (cSo an o7.2.2), (cG cyI an (S_green o7.2.2)), (cV cyI an (S_score o7.2.2)), (cSo tr tv), (cG cyI tr (S_green tv)), (cV cyI tr (S_score tv)), (cS cyI b0 v0), (cS cyI b1 v1), (cS cyI b2 v2), (cS cyI b3 v3), (cS cyI b4 v4), (cS cyI b5 v5)] : List va_W).flatten) H → va_D A (([[cI cyI qo 1 fo], (cXo x an tr o7.2.1), (cH cyO (x 1) (x 2) 2 fl), (cXk cyI x o7.2.1), (cH cyO (x 4) (x 5) 6 fs), (cT cyI x (X_text o7.2.1)), (cSo an o7.2.2), (cG cyI an (S_green o7.2.2)), (cV cyI an (S_score o7.2.2)), (cSo tr tv), (cG cyI tr (S_green tv)), (cV cyI tr (S_score tv)), (cS cyI b0 v0), (cS cyI b1 v1), (cS cyI b2 v2), (cS cyI b3 v3), (cS cyI b4 v4), (cS cyI b5 v5)] : List va_W).flatten) → va_S A s.heap H locs → lv_has ls 15 [(7, .int s45.2.1)] → j157 s157 = some out → W p l e (headSpec (Cond.code yL_areCurvesSo cL_areCurvesSo 15 (some .boolean) :: wT) ({ frames := 9, cells := 178, slots := 1068, locals := 158 } : Room)).room s m ([.ref (x 0), .int p2, .ref qo] : List Value).toArray below meth c H locs (9 + 2 * (72 - (n45 + 1))) (54 + 12 * (72 - (n45 + 1))) (MQ below (va_Qi (fun (r : Int32) (u : (Nat → Int32) × XV × SV × SV × SV × SV × SV × SV × SV × SV) => (r, u) = out ∧ b01 r) (fun u t => va_P (dC, dI) vwCl (([[cI cyI qo 1 u.1], (cXo x an tr u.2.1), (cH cyO (x 1) (x 2) 2 fl), (cXk cyI x u.2.1), (cH cyO (x 4) (x 5) 6 fs), (cT cyI x (X_text u.2.1)), (cSo an u.2.2.1), (cG cyI an (S_green u.2.2.1)), (cV cyI an (S_score u.2.2.1)), (cSo tr u.2.2.2.1), (cG cyI tr (S_green u.2.2.2.1)), (cV cyI tr (S_score u.2.2.2.1)), (cS cyI b0 u.2.2.2.2.1), (cS cyI b1 u.2.2.2.2.2.1), (cS cyI b2 u.2.2.2.2.2.2.1), (cS cyI b3 u.2.2.2.2.2.2.2.1), (cS cyI b4 u.2.2.2.2.2.2.2.2.1), (cS cyI b5 u.2.2.2.2.2.2.2.2.2)] : List va_W).flatten) t.heap ∧ va_D A (([[cI cyI qo 1 u.1], (cXo x an tr u.2.1), (cH cyO (x 1) (x 2) 2 fl), (cXk cyI x u.2.1), (cH cyO (x 4) (x 5) 6 fs), (cT cyI x (X_text u.2.1)), (cSo an u.2.2.1), (cG cyI an (S_green u.2.2.1)), (cV cyI an (S_score u.2.2.1)), (cSo tr u.2.2.2.1), (cG cyI tr (S_green u.2.2.2.1)), (cV cyI tr (S_score u.2.2.2.1)), (cS cyI b0 u.2.2.2.2.1), (cS cyI b1 u.2.2.2.2.2.1), (cS cyI b2 u.2.2.2.2.2.2.1), (cS cyI b3 u.2.2.2.2.2.2.2.1), (cS cyI b4 u.2.2.2.2.2.2.2.2.1), (cS cyI b5 u.2.2.2.2.2.2.2.2.2)] : List va_W).flatten)) A) ([.ref (x 0), .int p2, .ref qo] : List Value).toArray s 178 1068 A) (F0 m 157 ls []) := by
          intro s157 H locs ls hP hD hS hl hF
          have hF := (congrFun hj157 s157).symm.trans hF
          refine lv_iload hx hb dL_areCurvesSo_157 (lv_at hl 0 rfl) ?_
          refine W.widen (k := 178) (n := 1068) (by omega) (by omega) ?_
          exact W.zret (ty := .boolean) (v := s45.2.1) hx hb hr (b01_n hz_45_7) (fun t ht hW => ⟨⟨_, (fo, o7.2.1, o7.2.2, tv, v0, v1, v2, v3, v4, v5), rfl, ⟨Option.some.inj hF, hz_45_7⟩, by rw [ht]; exact hP, hD⟩, hS.F ht⟩) hS.2.2 dL_areCurvesSo_159
        refine lv_icmp_eq (tgt := 157) hx hb dL_areCurvesSo_149 (by decide) (fun c9 => ?_) (fun c9 => ?_)
        · have hF := itp c9 hF
          refine W.widen (k := (9 + 2 * (72 - (n45 + 1)))) (n := (54 + 12 * (72 - (n45 + 1)))) (by omega) (by omega) ?_
          exact hJ157 () _ _ _ hP hD hS (lv_sub hl [7] rfl) hF
        · have hF := itn c9 hF
          refine lv_iload hx hb dL_areCurvesSo_152 (lv_at hl 7 rfl) ?_
          refine lv_if_ne (tgt := 160) hx hb dL_areCurvesSo_154 (by decide) (fun c10 => ?_) (fun c10 => ?_)
          · have hF := itn c10 hF
            refine lv_aload_n hx hb dL_areCurvesSo_160 rfl (lv_at hl 1 rfl) ?_
            refine lv_iload_n hx hb dL_areCurvesSo_161 rfl (lv_at hl 3 rfl) ?_
            refine lv_iload hx hb dL_areCurvesSo_162 (lv_at hl 5 rfl) ?_
            refine lv_iload hx hb dL_areCurvesSo_164 (lv_at hl 4 rfl) ?_
            obtain ⟨o11, h12, hF⟩ := obd hF
            refine wxPVi (As := [.int (o1 - (9 : Int32)), .int ((15 : Int32) + o5), .int (o3 - (3 : Int32))]) (rest := []) (wr := ([[cI cyI qo 1 fo], (cS cyI b0 v0), (cS cyI b1 v1), (cS cyI b2 v2), (cS cyI b3 v3), (cS cyI b4 v4), (cS cyI b5 v5)] : List va_W).flatten) (b := (x 0)) ⟨hx, hb, hml, hown, hts⟩ (met_X5_wouldStrike l z0 hst dC dI cyI cyO x an tr fl fs _ N o7.2.1 o7.2.2 tv (o1 - (9 : Int32)) ((15 : Int32) + o5) (o3 - (3 : Int32)) o11 h12) (cwV 3 hts (gV w_methodLink_L_190 w_instanceMethod_X5_wouldStrike w_selects_X5_wouldStrike w_initialized_X5 w_code_X5_wouldStrike) rfl rfl rfl (by decide +kernel) ⟨Nat.le_of_ble_eq_true rfl, Nat.le_of_ble_eq_true rfl⟩) (va_recv hK.1 hP (ci := 5) (q0 := 1) rfl rfl) hP hD hK hZ hAz hz0 (seg_perm (n := 18) (R := [[cI cyI qo 1 fo], (cS cyI b0 v0), (cS cyI b1 v1), (cS cyI b2 v2), (cS cyI b3 v3), (cS cyI b4 v4), (cS cyI b5 v5)]) (C := [(cXo x an tr o7.2.1), (cH cyO (x 1) (x 2) 2 fl), (cXk cyI x o7.2.1), (cH cyO (x 4) (x 5) 6 fs), (cT cyI x (X_text o7.2.1)), (cSo an o7.2.2), (cG cyI an (S_green o7.2.2)), (cV cyI an (S_score o7.2.2)), (cSo tr tv), (cG cyI tr (S_green tv)), (cV cyI tr (S_score tv))]) [0, 12, 13, 14, 15, 16, 17] [1, 2, 3, 4, 5, 6, 7, 8, 9, 10, 11] rfl rfl rfl (by decide) rfl) rfl hl.1 (Nat.le_of_ble_eq_true rfl) dL_areCurvesSo_166 ⟨(show _ ≤ 178 from by omega), (show _ ≤ 1068 from by omega)⟩ hS hA (fun k u ce q9 H locs hw hP hD hS h9 hv9 hc9 => ?_) (fun ro11 u H locs hw hP hD hS => ?_)
            · obtain rfl : u = o11.2 := congrArg Prod.snd hw
              have hw1 : Sum.inl k = o11.1 := congrArg Prod.fst hw
              rw [← hw1] at hF
              have hF := exc_l hF
              have hq := seg_permS (segs := [[cI cyI qo 1 fo], (cXo x an tr o11.2.1), (cH cyO (x 1) (x 2) 2 fl), (cXk cyI x o11.2.1), (cH cyO (x 4) (x 5) 6 fs), (cT cyI x (X_text o11.2.1)), (cSo an o11.2.2.1), (cG cyI an (S_green o11.2.2.1)), (cV cyI an (S_score o11.2.2.1)), (cSo tr o11.2.2.2), (cG cyI tr (S_green o11.2.2.2)), (cV cyI tr (S_score o11.2.2.2)), (cS cyI b0 v0), (cS cyI b1 v1), (cS cyI b2 v2), (cS cyI b3 v3), (cS cyI b4 v4), (cS cyI b5 v5)]) (R := [[cI cyI qo 1 fo], (cS cyI b0 v0), (cS cyI b1 v1), (cS cyI b2 v2), (cS cyI b3 v3), (cS cyI b4 v4), (cS cyI b5 v5)]) (C := [(cXo x an tr o11.2.1), (cH cyO (x 1) (x 2) 2 fl), (cXk cyI x o11.2.1), (cH cyO (x 4) (x 5) 6 fs), (cT cyI x (X_text o11.2.1)), (cSo an o11.2.2.1), (cG cyI an (S_green o11.2.2.1)), (cV cyI an (S_score o11.2.2.1)), (cSo tr o11.2.2.2), (cG cyI tr (S_green o11.2.2.2)), (cV cyI tr (S_score o11.2.2.2))]) (n := 18) [0, 12, 13, 14, 15, 16, 17] [1, 2, 3, 4, 5, 6, 7, 8, 9, 10, 11] rfl rfl rfl (by decide)
              have hP : va_P (dC, dI) vwCl (([[cI cyI qo 1 fo], (cXo x an tr o11.2.1), (cH cyO (x 1) (x 2) 2 fl), (cXk cyI x o11.2.1), (cH cyO (x 4) (x 5) 6 fs), (cT cyI x (X_text o11.2.1)), (cSo an o11.2.2.1), (cG cyI an (S_green o11.2.2.1)), (cV cyI an (S_score o11.2.2.1)), (cSo tr o11.2.2.2), (cG cyI tr (S_green o11.2.2.2)), (cV cyI tr (S_score o11.2.2.2)), (cS cyI b0 v0), (cS cyI b1 v1), (cS cyI b2 v2), (cS cyI b3 v3), (cS cyI b4 v4), (cS cyI b5 v5)] : List va_W).flatten) H := hP.perm hq
              have hD : va_D A (([[cI cyI qo 1 fo], (cXo x an tr o11.2.1), (cH cyO (x 1) (x 2) 2 fl), (cXk cyI x o11.2.1), (cH cyO (x 4) (x 5) 6 fs), (cT cyI x (X_text o11.2.1)), (cSo an o11.2.2.1), (cG cyI an (S_green o11.2.2.1)), (cV cyI an (S_score o11.2.2.1)), (cSo tr o11.2.2.2), (cG cyI tr (S_green o11.2.2.2)), (cV cyI tr (S_score o11.2.2.2)), (cS cyI b0 v0), (cS cyI b1 v1), (cS cyI b2 v2), (cS cyI b3 v3), (cS cyI b4 v4), (cS cyI b5 v5)] : List va_W).flatten) := hD.perm hq
              clear hq
              cases hF
            · skip
              obtain rfl : u = o11.2 := congrArg Prod.snd hw
              have hw1 : Sum.inr ro11 = o11.1 := congrArg Prod.fst hw
              rw [← hw1] at hF
              have hF := exc_r hF
              have hq := seg_permS (segs := [[cI cyI qo 1 fo], (cXo x an tr o11.2.1), (cH cyO (x 1) (x 2) 2 fl), (cXk cyI x o11.2.1), (cH cyO (x 4) (x 5) 6 fs), (cT cyI x (X_text o11.2.1)), (cSo an o11.2.2.1), (cG cyI an (S_green o11.2.2.1)), (cV cyI an (S_score o11.2.2.1)), (cSo tr o11.2.2.2), (cG cyI tr (S_green o11.2.2.2)), (cV cyI tr (S_score o11.2.2.2)), (cS cyI b0 v0), (cS cyI b1 v1), (cS cyI b2 v2), (cS cyI b3 v3), (cS cyI b4 v4), (cS cyI b5 v5)]) (R := [[cI cyI qo 1 fo], (cS cyI b0 v0), (cS cyI b1 v1), (cS cyI b2 v2), (cS cyI b3 v3), (cS cyI b4 v4), (cS cyI b5 v5)]) (C := [(cXo x an tr o11.2.1), (cH cyO (x 1) (x 2) 2 fl), (cXk cyI x o11.2.1), (cH cyO (x 4) (x 5) 6 fs), (cT cyI x (X_text o11.2.1)), (cSo an o11.2.2.1), (cG cyI an (S_green o11.2.2.1)), (cV cyI an (S_score o11.2.2.1)), (cSo tr o11.2.2.2), (cG cyI tr (S_green o11.2.2.2)), (cV cyI tr (S_score o11.2.2.2))]) (n := 18) [0, 12, 13, 14, 15, 16, 17] [1, 2, 3, 4, 5, 6, 7, 8, 9, 10, 11] rfl rfl rfl (by decide)
              have hP : va_P (dC, dI) vwCl (([[cI cyI qo 1 fo], (cXo x an tr o11.2.1), (cH cyO (x 1) (x 2) 2 fl), (cXk cyI x o11.2.1), (cH cyO (x 4) (x 5) 6 fs), (cT cyI x (X_text o11.2.1)), (cSo an o11.2.2.1), (cG cyI an (S_green o11.2.2.1)), (cV cyI an (S_score o11.2.2.1)), (cSo tr o11.2.2.2), (cG cyI tr (S_green o11.2.2.2)), (cV cyI tr (S_score o11.2.2.2)), (cS cyI b0 v0), (cS cyI b1 v1), (cS cyI b2 v2), (cS cyI b3 v3), (cS cyI b4 v4), (cS cyI b5 v5)] : List va_W).flatten) H := hP.perm hq
              have hD : va_D A (([[cI cyI qo 1 fo], (cXo x an tr o11.2.1), (cH cyO (x 1) (x 2) 2 fl), (cXk cyI x o11.2.1), (cH cyO (x 4) (x 5) 6 fs), (cT cyI x (X_text o11.2.1)), (cSo an o11.2.2.1), (cG cyI an (S_green o11.2.2.1)), (cV cyI an (S_score o11.2.2.1)), (cSo tr o11.2.2.2), (cG cyI tr (S_green o11.2.2.2)), (cV cyI tr (S_score o11.2.2.2)), (cS cyI b0 v0), (cS cyI b1 v1), (cS cyI b2 v2), (cS cyI b3 v3), (cS cyI b4 v4), (cS cyI b5 v5)] : List va_W).flatten) := hD.perm hq
              clear hq
              refine lv_istore (lv' := [(9, .int ro11), (8, .int o7.1), (0, .ref (x 0)), (2, .ref qo), (3, .int (o1 - (9 : Int32))), (4, .int (o3 - (3 : Int32))), (5, .int ((15 : Int32) + o5)), (6, .int s45.1), (7, .int s45.2.1)]) hx hb dL_areCurvesSo_169 hl (by decide) rfl (fun ls hl => ?_)
              refine lv_aload_n hx hb dL_areCurvesSo_171 rfl (lv_at hl 2 rfl) ?_
              refine lv_iload_n hx hb dL_areCurvesSo_172 rfl (lv_at hl 4 rfl) ?_
              refine lv_iload hx hb dL_areCurvesSo_173 (lv_at hl 6 rfl) ?_
              refine lv_iload hx hb dL_areCurvesSo_175 (lv_at hl 5 rfl) ?_
              obtain ⟨o13, h14, hF⟩ := obd hF
              refine wxPVi (As := [.int (o1 - (9 : Int32)), .int ((15 : Int32) + o5), .int (o3 - (3 : Int32))]) (rest := []) (wr := ([[cI cyI qo 1 fo], (cS cyI b0 v0), (cS cyI b1 v1), (cS cyI b2 v2), (cS cyI b3 v3), (cS cyI b4 v4), (cS cyI b5 v5)] : List va_W).flatten) (b := (x 0)) ⟨hx, hb, hml, hown, hts⟩ (met_X5_wouldCount l z0 hst dC dI cyI cyO x an tr fl fs _ N o11.2.1 o11.2.2.1 o11.2.2.2 (o1 - (9 : Int32)) ((15 : Int32) + o5) (o3 - (3 : Int32)) o13 h14) (cwV 3 hts (gV w_methodLink_L_193 w_instanceMethod_X5_wouldCount w_selects_X5_wouldCount w_initialized_X5 w_code_X5_wouldCount) rfl rfl rfl (by decide +kernel) ⟨Nat.le_of_ble_eq_true rfl, Nat.le_of_ble_eq_true rfl⟩) (va_recv hK.1 hP (ci := 5) (q0 := 1) rfl rfl) hP hD hK hZ hAz hz0 (seg_perm (n := 18) (R := [[cI cyI qo 1 fo], (cS cyI b0 v0), (cS cyI b1 v1), (cS cyI b2 v2), (cS cyI b3 v3), (cS cyI b4 v4), (cS cyI b5 v5)]) (C := [(cXo x an tr o11.2.1), (cH cyO (x 1) (x 2) 2 fl), (cXk cyI x o11.2.1), (cH cyO (x 4) (x 5) 6 fs), (cT cyI x (X_text o11.2.1)), (cSo an o11.2.2.1), (cG cyI an (S_green o11.2.2.1)), (cV cyI an (S_score o11.2.2.1)), (cSo tr o11.2.2.2), (cG cyI tr (S_green o11.2.2.2)), (cV cyI tr (S_score o11.2.2.2))]) [0, 12, 13, 14, 15, 16, 17] [1, 2, 3, 4, 5, 6, 7, 8, 9, 10, 11] rfl rfl rfl (by decide) rfl) rfl hl.1 (Nat.le_of_ble_eq_true rfl) dL_areCurvesSo_177 ⟨(show _ ≤ 178 from by omega), (show _ ≤ 1068 from by omega)⟩ hS hA (fun k u ce q9 H locs hw hP hD hS h9 hv9 hc9 => ?_) (fun ro13 u H locs hw hP hD hS => ?_)
              · obtain rfl : u = o13.2 := congrArg Prod.snd hw
                have hw1 : Sum.inl k = o13.1 := congrArg Prod.fst hw
                rw [← hw1] at hF
                have hF := exc_l hF
                have hq := seg_permS (segs := [[cI cyI qo 1 fo], (cXo x an tr o13.2.1), (cH cyO (x 1) (x 2) 2 fl), (cXk cyI x o13.2.1), (cH cyO (x 4) (x 5) 6 fs), (cT cyI x (X_text o13.2.1)), (cSo an o13.2.2.1), (cG cyI an (S_green o13.2.2.1)), (cV cyI an (S_score o13.2.2.1)), (cSo tr o13.2.2.2), (cG cyI tr (S_green o13.2.2.2)), (cV cyI tr (S_score o13.2.2.2)), (cS cyI b0 v0), (cS cyI b1 v1), (cS cyI b2 v2), (cS cyI b3 v3), (cS cyI b4 v4), (cS cyI b5 v5)]) (R := [[cI cyI qo 1 fo], (cS cyI b0 v0), (cS cyI b1 v1), (cS cyI b2 v2), (cS cyI b3 v3), (cS cyI b4 v4), (cS cyI b5 v5)]) (C := [(cXo x an tr o13.2.1), (cH cyO (x 1) (x 2) 2 fl), (cXk cyI x o13.2.1), (cH cyO (x 4) (x 5) 6 fs), (cT cyI x (X_text o13.2.1)), (cSo an o13.2.2.1), (cG cyI an (S_green o13.2.2.1)), (cV cyI an (S_score o13.2.2.1)), (cSo tr o13.2.2.2), (cG cyI tr (S_green o13.2.2.2)), (cV cyI tr (S_score o13.2.2.2))]) (n := 18) [0, 12, 13, 14, 15, 16, 17] [1, 2, 3, 4, 5, 6, 7, 8, 9, 10, 11] rfl rfl rfl (by decide)
                have hP : va_P (dC, dI) vwCl (([[cI cyI qo 1 fo], (cXo x an tr o13.2.1), (cH cyO (x 1) (x 2) 2 fl), (cXk cyI x o13.2.1), (cH cyO (x 4) (x 5) 6 fs), (cT cyI x (X_text o13.2.1)), (cSo an o13.2.2.1), (cG cyI an (S_green o13.2.2.1)), (cV cyI an (S_score o13.2.2.1)), (cSo tr o13.2.2.2), (cG cyI tr (S_green o13.2.2.2)), (cV cyI tr (S_score o13.2.2.2)), (cS cyI b0 v0), (cS cyI b1 v1), (cS cyI b2 v2), (cS cyI b3 v3), (cS cyI b4 v4), (cS cyI b5 v5)] : List va_W).flatten) H := hP.perm hq
                have hD : va_D A (([[cI cyI qo 1 fo], (cXo x an tr o13.2.1), (cH cyO (x 1) (x 2) 2 fl), (cXk cyI x o13.2.1), (cH cyO (x 4) (x 5) 6 fs), (cT cyI x (X_text o13.2.1)), (cSo an o13.2.2.1), (cG cyI an (S_green o13.2.2.1)), (cV cyI an (S_score o13.2.2.1)), (cSo tr o13.2.2.2), (cG cyI tr (S_green o13.2.2.2)), (cV cyI tr (S_score o13.2.2.2)), (cS cyI b0 v0), (cS cyI b1 v1), (cS cyI b2 v2), (cS cyI b3 v3), (cS cyI b4 v4), (cS cyI b5 v5)] : List va_W).flatten) := hD.perm hq
                clear hq
                cases hF
              · skip
                obtain rfl : u = o13.2 := congrArg Prod.snd hw
                have hw1 : Sum.inr ro13 = o13.1 := congrArg Prod.fst hw
                rw [← hw1] at hF
                have hF := exc_r hF
                have hq := seg_permS (segs := [[cI cyI qo 1 fo], (cXo x an tr o13.2.1), (cH cyO (x 1) (x 2) 2 fl), (cXk cyI x o13.2.1), (cH cyO (x 4) (x 5) 6 fs), (cT cyI x (X_text o13.2.1)), (cSo an o13.2.2.1), (cG cyI an (S_green o13.2.2.1)), (cV cyI an (S_score o13.2.2.1)), (cSo tr o13.2.2.2), (cG cyI tr (S_green o13.2.2.2)), (cV cyI tr (S_score o13.2.2.2)), (cS cyI b0 v0), (cS cyI b1 v1), (cS cyI b2 v2), (cS cyI b3 v3), (cS cyI b4 v4), (cS cyI b5 v5)]) (R := [[cI cyI qo 1 fo], (cS cyI b0 v0), (cS cyI b1 v1), (cS cyI b2 v2), (cS cyI b3 v3), (cS cyI b4 v4), (cS cyI b5 v5)]) (C := [(cXo x an tr o13.2.1), (cH cyO (x 1) (x 2) 2 fl), (cXk cyI x o13.2.1), (cH cyO (x 4) (x 5) 6 fs), (cT cyI x (X_text o13.2.1)), (cSo an o13.2.2.1), (cG cyI an (S_green o13.2.2.1)), (cV cyI an (S_score o13.2.2.1)), (cSo tr o13.2.2.2), (cG cyI tr (S_green o13.2.2.2)), (cV cyI tr (S_score o13.2.2.2))]) (n := 18) [0, 12, 13, 14, 15, 16, 17] [1, 2, 3, 4, 5, 6, 7, 8, 9, 10, 11] rfl rfl rfl (by decide)
                have hP : va_P (dC, dI) vwCl (([[cI cyI qo 1 fo], (cXo x an tr o13.2.1), (cH cyO (x 1) (x 2) 2 fl), (cXk cyI x o13.2.1), (cH cyO (x 4) (x 5) 6 fs), (cT cyI x (X_text o13.2.1)), (cSo an o13.2.2.1), (cG cyI an (S_green o13.2.2.1)), (cV cyI an (S_score o13.2.2.1)), (cSo tr o13.2.2.2), (cG cyI tr (S_green o13.2.2.2)), (cV cyI tr (S_score o13.2.2.2)), (cS cyI b0 v0), (cS cyI b1 v1), (cS cyI b2 v2), (cS cyI b3 v3), (cS cyI b4 v4), (cS cyI b5 v5)] : List va_W).flatten) H := hP.perm hq
                have hD : va_D A (([[cI cyI qo 1 fo], (cXo x an tr o13.2.1), (cH cyO (x 1) (x 2) 2 fl), (cXk cyI x o13.2.1), (cH cyO (x 4) (x 5) 6 fs), (cT cyI x (X_text o13.2.1)), (cSo an o13.2.2.1), (cG cyI an (S_green o13.2.2.1)), (cV cyI an (S_score o13.2.2.1)), (cSo tr o13.2.2.2), (cG cyI tr (S_green o13.2.2.2)), (cV cyI tr (S_score o13.2.2.2)), (cS cyI b0 v0), (cS cyI b1 v1), (cS cyI b2 v2), (cS cyI b3 v3), (cS cyI b4 v4), (cS cyI b5 v5)] : List va_W).flatten) := hD.perm hq
                clear hq
                refine lv_istore (lv' := [(10, .int ro13), (9, .int ro11), (8, .int o7.1), (0, .ref (x 0)), (2, .ref qo), (3, .int (o1 - (9 : Int32))), (4, .int (o3 - (3 : Int32))), (5, .int ((15 : Int32) + o5)), (6, .int s45.1), (7, .int s45.2.1)]) hx hb dL_areCurvesSo_180 hl (by decide) rfl (fun ls hl => ?_)
                refine lv_aload_n hx hb dL_areCurvesSo_182 rfl (lv_at hl 3 rfl) ?_
                obtain ⟨o15, h16, hF⟩ := obd hF
                refine wcRVi (As := []) (rest := []) (b := (x 0)) ⟨hx, hb, hml, hown, hts⟩ (met_X5_bowls l dC dI cyI cyO x tr an fl fs N o13.2.1 o13.2.2.1  o15 h16) (cwV 0 hts (gV w_methodLink_L_77 w_instanceMethod_X5_bowls w_selects_X5_bowls w_initialized_X5 w_code_X5_bowls) rfl rfl rfl (by decide +kernel) ⟨Nat.le_of_ble_eq_true rfl, Nat.le_of_ble_eq_true rfl⟩) (va_recv hK.1 hP (ci := 5) (q0 := 1) rfl rfl) hP hK [1, 2, 3, 4, 5, 6, 7, 8, 9, 10, 11, 12, 13, 14, 15, 16, 17, 18, 19, 20, 21] rfl rfl hl.1 (Nat.le_of_ble_eq_true rfl) dL_areCurvesSo_183 ⟨(show _ ≤ 178 from by omega), (show _ ≤ 1068 from by omega)⟩ hS (fun r H locs hw hP hS => ?_)
                have hw := hw.symm
                subst hw
                refine lv_istore (lv' := [(11, .int o15), (10, .int ro13), (9, .int ro11), (8, .int o7.1), (0, .ref (x 0)), (2, .ref qo), (3, .int (o1 - (9 : Int32))), (4, .int (o3 - (3 : Int32))), (5, .int ((15 : Int32) + o5)), (6, .int s45.1), (7, .int s45.2.1)]) hx hb dL_areCurvesSo_186 hl (by decide) rfl (fun ls hl => ?_)
                refine lv_aload_n hx hb dL_areCurvesSo_188 rfl (lv_at hl 4 rfl) ?_
                obtain ⟨o17, h18, hF⟩ := obd hF
                refine wcRVi (As := []) (rest := []) (b := (x 0)) ⟨hx, hb, hml, hown, hts⟩ (met_X5_putBack l dC dI cyI cyO x tr an fl fs N o13.2.1 o13.2.2.1  o17 h18) (cwV 0 hts (gV w_methodLink_L_115 w_instanceMethod_X5_putBack w_selects_X5_putBack w_initialized_X5 w_code_X5_putBack) rfl rfl rfl (by decide +kernel) ⟨Nat.le_of_ble_eq_true rfl, Nat.le_of_ble_eq_true rfl⟩) (va_recv hK.1 hP (ci := 5) (q0 := 1) rfl rfl) hP hK [1, 2, 3, 4, 5, 6, 7, 8, 9, 10, 11, 12, 13, 14, 15, 16, 17, 18, 19, 20, 21] rfl rfl hl.1 (Nat.le_of_ble_eq_true rfl) dL_areCurvesSo_189 ⟨(show _ ≤ 178 from by omega), (show _ ≤ 1068 from by omega)⟩ hS (fun r H locs hw hP hS => ?_)
                have hw := hw.symm
                subst hw
                refine lv_istore (lv' := [(12, .int o17), (11, .int o15), (10, .int ro13), (9, .int ro11), (8, .int o7.1), (0, .ref (x 0)), (2, .ref qo), (3, .int (o1 - (9 : Int32))), (4, .int (o3 - (3 : Int32))), (5, .int ((15 : Int32) + o5)), (6, .int s45.1), (7, .int s45.2.1)]) hx hb dL_areCurvesSo_192 hl (by decide) rfl (fun ls hl => ?_)
                refine lv_aload_n hx hb dL_areCurvesSo_194 rfl (lv_at hl 5 rfl) ?_
                refine lv_iconst (v := 1) hx hb dL_areCurvesSo_195 (by decide) ?_
                refine lv_iload_n hx hb dL_areCurvesSo_196 rfl (lv_at hl 7 rfl) ?_
                refine lv_iload hx hb dL_areCurvesSo_197 (lv_at hl 9 rfl) ?_
                refine lv_iload hx hb dL_areCurvesSo_199 (lv_at hl 8 rfl) ?_
                refine lv_aload_n hx hb dL_areCurvesSo_201 rfl (lv_at hl 6 rfl) ?_
                obtain ⟨o19, h20, hF⟩ := obd hF
                refine wcLi (As := [.ref (x 0), .int (1 : Int32), .int (o1 - (9 : Int32)), .int ((15 : Int32) + o5), .int (o3 - (3 : Int32)), .ref qo]) (rest := []) (wr := ([(cSo tr o13.2.2.2), (cG cyI tr (S_green o13.2.2.2)), (cV cyI tr (S_score o13.2.2.2))] : List va_W).flatten) ⟨hx, hb, hml, hown, hts⟩ (met_L_changes l z0 hst dC dI cyI cyO qo x tr an b0 b1 b2 b3 b4 b5 fl fs _ N fo o13.2.1 o13.2.2.1 v0 v1 v2 v3 v4 v5 (1 : Int32) (o1 - (9 : Int32)) ((15 : Int32) + o5) (o3 - (3 : Int32)) hs0 hs1 hs2 hs3 hs4 hs5 o19 h20) (vx_cwSW 6 hts (gS w_methodLink_L_89 w_static_L_changes w_initialized_L w_codeW_L_changes) rfl rfl rfl (by decide +kernel) ⟨Nat.le_of_ble_eq_true rfl, Nat.le_of_ble_eq_true rfl⟩) hP hD hK hZ hAz hz0 (seg_perm (n := 18) (R := [(cSo tr o13.2.2.2), (cG cyI tr (S_green o13.2.2.2)), (cV cyI tr (S_score o13.2.2.2))]) (C := [[cI cyI qo 1 fo], (cXo x an tr o13.2.1), (cH cyO (x 1) (x 2) 2 fl), (cXk cyI x o13.2.1), (cH cyO (x 4) (x 5) 6 fs), (cT cyI x (X_text o13.2.1)), (cSo an o13.2.2.1), (cG cyI an (S_green o13.2.2.1)), (cV cyI an (S_score o13.2.2.1)), (cS cyI b0 v0), (cS cyI b1 v1), (cS cyI b2 v2), (cS cyI b3 v3), (cS cyI b4 v4), (cS cyI b5 v5)]) [9, 10, 11] [0, 1, 2, 3, 4, 5, 6, 7, 8, 12, 13, 14, 15, 16, 17] rfl rfl rfl (by decide) rfl) rfl hl.1 (Nat.le_of_ble_eq_true rfl) dL_areCurvesSo_202 ⟨(show _ ≤ 178 from by omega), (show _ ≤ 1068 from by omega)⟩ hS hA (fun r u H locs hw hP hD hS => ?_)
                obtain rfl : r = o19.1 := congrArg Prod.fst hw
                obtain rfl : u = o19.2 := congrArg Prod.snd hw
                clear hw
                have hq := seg_permS (segs := [[cI cyI qo 1 o19.2.1], (cXo x an tr o19.2.2.1), (cH cyO (x 1) (x 2) 2 fl), (cXk cyI x o19.2.2.1), (cH cyO (x 4) (x 5) 6 fs), (cT cyI x (X_text o19.2.2.1)), (cSo an o19.2.2.2.1), (cG cyI an (S_green o19.2.2.2.1)), (cV cyI an (S_score o19.2.2.2.1)), (cSo tr o13.2.2.2), (cG cyI tr (S_green o13.2.2.2)), (cV cyI tr (S_score o13.2.2.2)), (cS cyI b0 o19.2.2.2.2.1), (cS cyI b1 o19.2.2.2.2.2.1), (cS cyI b2 o19.2.2.2.2.2.2.1), (cS cyI b3 o19.2.2.2.2.2.2.2.1), (cS cyI b4 o19.2.2.2.2.2.2.2.2.1), (cS cyI b5 o19.2.2.2.2.2.2.2.2.2)]) (R := [(cSo tr o13.2.2.2), (cG cyI tr (S_green o13.2.2.2)), (cV cyI tr (S_score o13.2.2.2))]) (C := [[cI cyI qo 1 o19.2.1], (cXo x an tr o19.2.2.1), (cH cyO (x 1) (x 2) 2 fl), (cXk cyI x o19.2.2.1), (cH cyO (x 4) (x 5) 6 fs), (cT cyI x (X_text o19.2.2.1)), (cSo an o19.2.2.2.1), (cG cyI an (S_green o19.2.2.2.1)), (cV cyI an (S_score o19.2.2.2.1)), (cS cyI b0 o19.2.2.2.2.1), (cS cyI b1 o19.2.2.2.2.2.1), (cS cyI b2 o19.2.2.2.2.2.2.1), (cS cyI b3 o19.2.2.2.2.2.2.2.1), (cS cyI b4 o19.2.2.2.2.2.2.2.2.1), (cS cyI b5 o19.2.2.2.2.2.2.2.2.2)]) (n := 18) [9, 10, 11] [0, 1, 2, 3, 4, 5, 6, 7, 8, 12, 13, 14, 15, 16, 17] rfl rfl rfl (by decide)
                have hP : va_P (dC, dI) vwCl (([[cI cyI qo 1 o19.2.1], (cXo x an tr o19.2.2.1), (cH cyO (x 1) (x 2) 2 fl), (cXk cyI x o19.2.2.1), (cH cyO (x 4) (x 5) 6 fs), (cT cyI x (X_text o19.2.2.1)), (cSo an o19.2.2.2.1), (cG cyI an (S_green o19.2.2.2.1)), (cV cyI an (S_score o19.2.2.2.1)), (cSo tr o13.2.2.2), (cG cyI tr (S_green o13.2.2.2)), (cV cyI tr (S_score o13.2.2.2)), (cS cyI b0 o19.2.2.2.2.1), (cS cyI b1 o19.2.2.2.2.2.1), (cS cyI b2 o19.2.2.2.2.2.2.1), (cS cyI b3 o19.2.2.2.2.2.2.2.1), (cS cyI b4 o19.2.2.2.2.2.2.2.2.1), (cS cyI b5 o19.2.2.2.2.2.2.2.2.2)] : List va_W).flatten) H := hP.perm hq
                have hD : va_D A (([[cI cyI qo 1 o19.2.1], (cXo x an tr o19.2.2.1), (cH cyO (x 1) (x 2) 2 fl), (cXk cyI x o19.2.2.1), (cH cyO (x 4) (x 5) 6 fs), (cT cyI x (X_text o19.2.2.1)), (cSo an o19.2.2.2.1), (cG cyI an (S_green o19.2.2.2.1)), (cV cyI an (S_score o19.2.2.2.1)), (cSo tr o13.2.2.2), (cG cyI tr (S_green o13.2.2.2)), (cV cyI tr (S_score o13.2.2.2)), (cS cyI b0 o19.2.2.2.2.1), (cS cyI b1 o19.2.2.2.2.2.1), (cS cyI b2 o19.2.2.2.2.2.2.1), (cS cyI b3 o19.2.2.2.2.2.2.2.1), (cS cyI b4 o19.2.2.2.2.2.2.2.2.1), (cS cyI b5 o19.2.2.2.2.2.2.2.2.2)] : List va_W).flatten) := hD.perm hq
                clear hq
                refine lv_istore (lv' := [(13, .int o19.1), (12, .int o17), (11, .int o15), (10, .int ro13), (9, .int ro11), (8, .int o7.1), (0, .ref (x 0)), (2, .ref qo), (3, .int (o1 - (9 : Int32))), (4, .int (o3 - (3 : Int32))), (5, .int ((15 : Int32) + o5)), (6, .int s45.1), (7, .int s45.2.1)]) hx hb dL_areCurvesSo_205 hl (by decide) rfl (fun ls hl => ?_)
                refine lv_aload_n hx hb dL_areCurvesSo_207 rfl (lv_at hl 6 rfl) ?_
                obtain ⟨o21, h22, hF⟩ := obd hF
                refine wcPVi (As := []) (rest := []) (wr := ([[cI cyI qo 1 o19.2.1], (cSo tr o13.2.2.2), (cG cyI tr (S_green o13.2.2.2)), (cV cyI tr (S_score o13.2.2.2)), (cS cyI b0 o19.2.2.2.2.1), (cS cyI b1 o19.2.2.2.2.2.1), (cS cyI b2 o19.2.2.2.2.2.2.1), (cS cyI b3 o19.2.2.2.2.2.2.2.1), (cS cyI b4 o19.2.2.2.2.2.2.2.2.1), (cS cyI b5 o19.2.2.2.2.2.2.2.2.2)] : List va_W).flatten) (b := (x 0)) ⟨hx, hb, hml, hown, hts⟩ (met_X5_pointsByOrder l dC dI cyI cyO x tr an fl fs _ N o19.2.2.1 o19.2.2.2.1  o21 h22) (cwV 0 hts (gV w_methodLink_L_124 w_instanceMethod_X5_pointsByOrder w_selects_X5_pointsByOrder w_initialized_X5 w_code_X5_pointsByOrder) rfl rfl rfl (by decide +kernel) ⟨Nat.le_of_ble_eq_true rfl, Nat.le_of_ble_eq_true rfl⟩) (va_recv hK.1 hP (ci := 5) (q0 := 1) rfl rfl) hP hD hK (seg_perm (n := 18) (R := [[cI cyI qo 1 o19.2.1], (cSo tr o13.2.2.2), (cG cyI tr (S_green o13.2.2.2)), (cV cyI tr (S_score o13.2.2.2)), (cS cyI b0 o19.2.2.2.2.1), (cS cyI b1 o19.2.2.2.2.2.1), (cS cyI b2 o19.2.2.2.2.2.2.1), (cS cyI b3 o19.2.2.2.2.2.2.2.1), (cS cyI b4 o19.2.2.2.2.2.2.2.2.1), (cS cyI b5 o19.2.2.2.2.2.2.2.2.2)]) (C := [(cXo x an tr o19.2.2.1), (cH cyO (x 1) (x 2) 2 fl), (cXk cyI x o19.2.2.1), (cH cyO (x 4) (x 5) 6 fs), (cT cyI x (X_text o19.2.2.1)), (cSo an o19.2.2.2.1), (cG cyI an (S_green o19.2.2.2.1)), (cV cyI an (S_score o19.2.2.2.1))]) [0, 9, 10, 11, 12, 13, 14, 15, 16, 17] [1, 2, 3, 4, 5, 6, 7, 8] rfl rfl rfl (by decide) rfl) rfl hl.1 (Nat.le_of_ble_eq_true rfl) dL_areCurvesSo_208 ⟨(show _ ≤ 178 from by omega), (show _ ≤ 1068 from by omega)⟩ hS hA (fun r u H locs hw hP hD hS => ?_)
                obtain rfl : r = o21.1 := congrArg Prod.fst hw
                obtain rfl : u = o21.2 := congrArg Prod.snd hw
                clear hw
                have hq := seg_permS (segs := [[cI cyI qo 1 o19.2.1], (cXo x an tr o21.2.1), (cH cyO (x 1) (x 2) 2 fl), (cXk cyI x o21.2.1), (cH cyO (x 4) (x 5) 6 fs), (cT cyI x (X_text o21.2.1)), (cSo an o21.2.2), (cG cyI an (S_green o21.2.2)), (cV cyI an (S_score o21.2.2)), (cSo tr o13.2.2.2), (cG cyI tr (S_green o13.2.2.2)), (cV cyI tr (S_score o13.2.2.2)), (cS cyI b0 o19.2.2.2.2.1), (cS cyI b1 o19.2.2.2.2.2.1), (cS cyI b2 o19.2.2.2.2.2.2.1), (cS cyI b3 o19.2.2.2.2.2.2.2.1), (cS cyI b4 o19.2.2.2.2.2.2.2.2.1), (cS cyI b5 o19.2.2.2.2.2.2.2.2.2)]) (R := [[cI cyI qo 1 o19.2.1], (cSo tr o13.2.2.2), (cG cyI tr (S_green o13.2.2.2)), (cV cyI tr (S_score o13.2.2.2)), (cS cyI b0 o19.2.2.2.2.1), (cS cyI b1 o19.2.2.2.2.2.1), (cS cyI b2 o19.2.2.2.2.2.2.1), (cS cyI b3 o19.2.2.2.2.2.2.2.1), (cS cyI b4 o19.2.2.2.2.2.2.2.2.1), (cS cyI b5 o19.2.2.2.2.2.2.2.2.2)]) (C := [(cXo x an tr o21.2.1), (cH cyO (x 1) (x 2) 2 fl), (cXk cyI x o21.2.1), (cH cyO (x 4) (x 5) 6 fs), (cT cyI x (X_text o21.2.1)), (cSo an o21.2.2), (cG cyI an (S_green o21.2.2)), (cV cyI an (S_score o21.2.2))]) (n := 18) [0, 9, 10, 11, 12, 13, 14, 15, 16, 17] [1, 2, 3, 4, 5, 6, 7, 8] rfl rfl rfl (by decide)
                have hP : va_P (dC, dI) vwCl (([[cI cyI qo 1 o19.2.1], (cXo x an tr o21.2.1), (cH cyO (x 1) (x 2) 2 fl), (cXk cyI x o21.2.1), (cH cyO (x 4) (x 5) 6 fs), (cT cyI x (X_text o21.2.1)), (cSo an o21.2.2), (cG cyI an (S_green o21.2.2)), (cV cyI an (S_score o21.2.2)), (cSo tr o13.2.2.2), (cG cyI tr (S_green o13.2.2.2)), (cV cyI tr (S_score o13.2.2.2)), (cS cyI b0 o19.2.2.2.2.1), (cS cyI b1 o19.2.2.2.2.2.1), (cS cyI b2 o19.2.2.2.2.2.2.1), (cS cyI b3 o19.2.2.2.2.2.2.2.1), (cS cyI b4 o19.2.2.2.2.2.2.2.2.1), (cS cyI b5 o19.2.2.2.2.2.2.2.2.2)] : List va_W).flatten) H := hP.perm hq
                have hD : va_D A (([[cI cyI qo 1 o19.2.1], (cXo x an tr o21.2.1), (cH cyO (x 1) (x 2) 2 fl), (cXk cyI x o21.2.1), (cH cyO (x 4) (x 5) 6 fs), (cT cyI x (X_text o21.2.1)), (cSo an o21.2.2), (cG cyI an (S_green o21.2.2)), (cV cyI an (S_score o21.2.2)), (cSo tr o13.2.2.2), (cG cyI tr (S_green o13.2.2.2)), (cV cyI tr (S_score o13.2.2.2)), (cS cyI b0 o19.2.2.2.2.1), (cS cyI b1 o19.2.2.2.2.2.1), (cS cyI b2 o19.2.2.2.2.2.2.1), (cS cyI b3 o19.2.2.2.2.2.2.2.1), (cS cyI b4 o19.2.2.2.2.2.2.2.2.1), (cS cyI b5 o19.2.2.2.2.2.2.2.2.2)] : List va_W).flatten) := hD.perm hq
                clear hq
                refine lv_istore (lv' := [(14, .int o21.1), (13, .int o19.1), (12, .int o17), (11, .int o15), (10, .int ro13), (9, .int ro11), (8, .int o7.1), (0, .ref (x 0)), (2, .ref qo), (3, .int (o1 - (9 : Int32))), (4, .int (o3 - (3 : Int32))), (5, .int ((15 : Int32) + o5)), (6, .int s45.1), (7, .int s45.2.1)]) hx hb dL_areCurvesSo_211 hl (by decide) rfl (fun ls hl => ?_)
                refine lv_iload hx hb dL_areCurvesSo_213 (lv_at hl 1 rfl) ?_
                obtain ⟨j356, hj356, hF⟩ := jn_use hF
                have hJ356 : ∀ (s356 : Int32) (H : Heap) (locs : List Loc) (ls : Array Slot) (hz_356_s0 : b01 s356), va_P (dC, dI) vwCl (([[cI cyI qo 1 o19.2.1], (cXo x an tr o21.2.1), (cH cyO (x 1) (x 2) 2 fl), (cXk cyI x o21.2.1), (cH cyO (x 4) (x 5) 6 fs), (cT cyI x (X_text o21.2.1)), (cSo an o21.2.2), (cG cyI an (S_green o21.2.2)), (cV cyI an (S_score o21.2.2)), (cSo tr o13.2.2.2), (cG cyI tr (S_green o13.2.2.2)), (cV cyI tr (S_score o13.2.2.2)), (cS cyI b0 o19.2.2.2.2.1), (cS cyI b1 o19.2.2.2.2.2.1), (cS cyI b2 o19.2.2.2.2.2.2.1), (cS cyI b3 o19.2.2.2.2.2.2.2.1), (cS cyI b4 o19.2.2.2.2.2.2.2.2.1), (cS cyI b5 o19.2.2.2.2.2.2.2.2.2)] : List va_W).flatten) H → va_D A (([[cI cyI qo 1 o19.2.1], (cXo x an tr o21.2.1), (cH cyO (x 1) (x 2) 2 fl), (cXk cyI x o21.2.1), (cH cyO (x 4) (x 5) 6 fs), (cT cyI x (X_text o21.2.1)), (cSo an o21.2.2), (cG cyI an (S_green o21.2.2)), (cV cyI an (S_score o21.2.2)), (cSo tr o13.2.2.2), (cG cyI tr (S_green o13.2.2.2)), (cV cyI tr (S_score o13.2.2.2)), (cS cyI b0 o19.2.2.2.2.1), (cS cyI b1 o19.2.2.2.2.2.1), (cS cyI b2 o19.2.2.2.2.2.2.1), (cS cyI b3 o19.2.2.2.2.2.2.2.1), (cS cyI b4 o19.2.2.2.2.2.2.2.2.1), (cS cyI b5 o19.2.2.2.2.2.2.2.2.2)] : List va_W).flatten) → va_S A s.heap H locs → lv_has ls 15 [(0, .ref (x 0)), (8, .int o7.1), (11, .int o15)] → j356 s356 = some out → W p l e (headSpec (Cond.code yL_areCurvesSo cL_areCurvesSo 15 (some .boolean) :: wT) ({ frames := 9, cells := 178, slots := 1068, locals := 158 } : Room)).room s m ([.ref (x 0), .int p2, .ref qo] : List Value).toArray below meth c H locs (24 + 2 * (72 - (n45 + 1))) (144 + 12 * (72 - (n45 + 1))) (MQ below (va_Qi (fun (r : Int32) (u : (Nat → Int32) × XV × SV × SV × SV × SV × SV × SV × SV × SV) => (r, u) = out ∧ b01 r) (fun u t => va_P (dC, dI) vwCl (([[cI cyI qo 1 u.1], (cXo x an tr u.2.1), (cH cyO (x 1) (x 2) 2 fl), (cXk cyI x u.2.1), (cH cyO (x 4) (x 5) 6 fs), (cT cyI x (X_text u.2.1)), (cSo an u.2.2.1), (cG cyI an (S_green u.2.2.1)), (cV cyI an (S_score u.2.2.1)), (cSo tr u.2.2.2.1), (cG cyI tr (S_green u.2.2.2.1)), (cV cyI tr (S_score u.2.2.2.1)), (cS cyI b0 u.2.2.2.2.1), (cS cyI b1 u.2.2.2.2.2.1), (cS cyI b2 u.2.2.2.2.2.2.1), (cS cyI b3 u.2.2.2.2.2.2.2.1), (cS cyI b4 u.2.2.2.2.2.2.2.2.1), (cS cyI b5 u.2.2.2.2.2.2.2.2.2)] : List va_W).flatten) t.heap ∧ va_D A (([[cI cyI qo 1 u.1], (cXo x an tr u.2.1), (cH cyO (x 1) (x 2) 2 fl), (cXk cyI x u.2.1), (cH cyO (x 4) (x 5) 6 fs), (cT cyI x (X_text u.2.1)), (cSo an u.2.2.1), (cG cyI an (S_green u.2.2.1)), (cV cyI an (S_score u.2.2.1)), (cSo tr u.2.2.2.1), (cG cyI tr (S_green u.2.2.2.1)), (cV cyI tr (S_score u.2.2.2.1)), (cS cyI b0 u.2.2.2.2.1), (cS cyI b1 u.2.2.2.2.2.1), (cS cyI b2 u.2.2.2.2.2.2.1), (cS cyI b3 u.2.2.2.2.2.2.2.1), (cS cyI b4 u.2.2.2.2.2.2.2.2.1), (cS cyI b5 u.2.2.2.2.2.2.2.2.2)] : List va_W).flatten)) A) ([.ref (x 0), .int p2, .ref qo] : List Value).toArray s 178 1068 A) (F0 m 356 ls [.int s356]) := by
                  intro s356 H locs ls hz_356_s0 hP hD hS hl hF
                  have hF := (congrFun hj356 s356).symm.trans hF
                  refine lv_istore (lv' := [(7, .int s356), (0, .ref (x 0)), (8, .int o7.1), (11, .int o15)]) hx hb dL_areCurvesSo_356 hl (by decide) rfl (fun ls hl => ?_)
                  refine lv_iload hx hb dL_areCurvesSo_358 (lv_at hl 0 rfl) ?_
                  obtain ⟨j395, hj395, hF⟩ := jn_use hF
                  have hJ395 : ∀ (s395 : Int32 × (Nat → Int32) × XV × SV × SV × SV × SV × SV × SV × SV × SV) (H : Heap) (locs : List Loc) (ls : Array Slot) (hz_395_s0 : b01 s395.1), va_P (dC, dI) vwCl (([[cI cyI qo 1 s395.2.1], (cXo x an tr s395.2.2.1), (cH cyO (x 1) (x 2) 2 fl), (cXk cyI x s395.2.2.1), (cH cyO (x 4) (x 5) 6 fs), (cT cyI x (X_text s395.2.2.1)), (cSo an s395.2.2.2.1), (cG cyI an (S_green s395.2.2.2.1)), (cV cyI an (S_score s395.2.2.2.1)), (cSo tr s395.2.2.2.2.1), (cG cyI tr (S_green s395.2.2.2.2.1)), (cV cyI tr (S_score s395.2.2.2.2.1)), (cS cyI b0 s395.2.2.2.2.2.1), (cS cyI b1 s395.2.2.2.2.2.2.1), (cS cyI b2 s395.2.2.2.2.2.2.2.1), (cS cyI b3 s395.2.2.2.2.2.2.2.2.1), (cS cyI b4 s395.2.2.2.2.2.2.2.2.2.1), (cS cyI b5 s395.2.2.2.2.2.2.2.2.2.2)] : List va_W).flatten) H → va_D A (([[cI cyI qo 1 s395.2.1], (cXo x an tr s395.2.2.1), (cH cyO (x 1) (x 2) 2 fl), (cXk cyI x s395.2.2.1), (cH cyO (x 4) (x 5) 6 fs), (cT cyI x (X_text s395.2.2.1)), (cSo an s395.2.2.2.1), (cG cyI an (S_green s395.2.2.2.1)), (cV cyI an (S_score s395.2.2.2.1)), (cSo tr s395.2.2.2.2.1), (cG cyI tr (S_green s395.2.2.2.2.1)), (cV cyI tr (S_score s395.2.2.2.2.1)), (cS cyI b0 s395.2.2.2.2.2.1), (cS cyI b1 s395.2.2.2.2.2.2.1), (cS cyI b2 s395.2.2.2.2.2.2.2.1), (cS cyI b3 s395.2.2.2.2.2.2.2.2.1), (cS cyI b4 s395.2.2.2.2.2.2.2.2.2.1), (cS cyI b5 s395.2.2.2.2.2.2.2.2.2.2)] : List va_W).flatten) → va_S A s.heap H locs → lv_has ls 15 [] → j395 s395 = some out → W p l e (headSpec (Cond.code yL_areCurvesSo cL_areCurvesSo 15 (some .boolean) :: wT) ({ frames := 9, cells := 178, slots := 1068, locals := 158 } : Room)).room s m ([.ref (x 0), .int p2, .ref qo] : List Value).toArray below meth c H locs (34 + 2 * (72 - (n45 + 1))) (204 + 12 * (72 - (n45 + 1))) (MQ below (va_Qi (fun (r : Int32) (u : (Nat → Int32) × XV × SV × SV × SV × SV × SV × SV × SV × SV) => (r, u) = out ∧ b01 r) (fun u t => va_P (dC, dI) vwCl (([[cI cyI qo 1 u.1], (cXo x an tr u.2.1), (cH cyO (x 1) (x 2) 2 fl), (cXk cyI x u.2.1), (cH cyO (x 4) (x 5) 6 fs), (cT cyI x (X_text u.2.1)), (cSo an u.2.2.1), (cG cyI an (S_green u.2.2.1)), (cV cyI an (S_score u.2.2.1)), (cSo tr u.2.2.2.1), (cG cyI tr (S_green u.2.2.2.1)), (cV cyI tr (S_score u.2.2.2.1)), (cS cyI b0 u.2.2.2.2.1), (cS cyI b1 u.2.2.2.2.2.1), (cS cyI b2 u.2.2.2.2.2.2.1), (cS cyI b3 u.2.2.2.2.2.2.2.1), (cS cyI b4 u.2.2.2.2.2.2.2.2.1), (cS cyI b5 u.2.2.2.2.2.2.2.2.2)] : List va_W).flatten) t.heap ∧ va_D A (([[cI cyI qo 1 u.1], (cXo x an tr u.2.1), (cH cyO (x 1) (x 2) 2 fl), (cXk cyI x u.2.1), (cH cyO (x 4) (x 5) 6 fs), (cT cyI x (X_text u.2.1)), (cSo an u.2.2.1), (cG cyI an (S_green u.2.2.1)), (cV cyI an (S_score u.2.2.1)), (cSo tr u.2.2.2.1), (cG cyI tr (S_green u.2.2.2.1)), (cV cyI tr (S_score u.2.2.2.1)), (cS cyI b0 u.2.2.2.2.1), (cS cyI b1 u.2.2.2.2.2.1), (cS cyI b2 u.2.2.2.2.2.2.1), (cS cyI b3 u.2.2.2.2.2.2.2.1), (cS cyI b4 u.2.2.2.2.2.2.2.2.1), (cS cyI b5 u.2.2.2.2.2.2.2.2.2)] : List va_W).flatten)) A) ([.ref (x 0), .int p2, .ref qo] : List Value).toArray s 178 1068 A) (F0 m 395 ls [.int s395.1]) := by
                    intro s395 H locs ls hz_395_s0 hP hD hS hl hF
                    have hF := (congrFun hj395 s395).symm.trans hF
                    refine W.widen (k := 178) (n := 1068) (by omega) (by omega) ?_
                    exact W.zret (ty := .boolean) (v := s395.1) hx hb hr (b01_n hz_395_s0) (fun t ht hW => ⟨⟨_, (s395.2.1, s395.2.2.1, s395.2.2.2.1, s395.2.2.2.2.1, s395.2.2.2.2.2.1, s395.2.2.2.2.2.2.1, s395.2.2.2.2.2.2.2.1, s395.2.2.2.2.2.2.2.2.1, s395.2.2.2.2.2.2.2.2.2.1, s395.2.2.2.2.2.2.2.2.2.2), rfl, ⟨Option.some.inj hF, hz_395_s0⟩, by rw [ht]; exact hP, hD⟩, hS.F ht⟩) hS.2.2 dL_areCurvesSo_395
                  obtain ⟨j394, hj394, hF⟩ := jn_use hF
                  have hJ394 : ∀ (s394 : (Nat → Int32) × XV × SV × SV × SV × SV × SV × SV × SV × SV) (H : Heap) (locs : List Loc) (ls : Array Slot), va_P (dC, dI) vwCl (([[cI cyI qo 1 s394.1], (cXo x an tr s394.2.1), (cH cyO (x 1) (x 2) 2 fl), (cXk cyI x s394.2.1), (cH cyO (x 4) (x 5) 6 fs), (cT cyI x (X_text s394.2.1)), (cSo an s394.2.2.1), (cG cyI an (S_green s394.2.2.1)), (cV cyI an (S_score s394.2.2.1)), (cSo tr s394.2.2.2.1), (cG cyI tr (S_green s394.2.2.2.1)), (cV cyI tr (S_score s394.2.2.2.1)), (cS cyI b0 s394.2.2.2.2.1), (cS cyI b1 s394.2.2.2.2.2.1), (cS cyI b2 s394.2.2.2.2.2.2.1), (cS cyI b3 s394.2.2.2.2.2.2.2.1), (cS cyI b4 s394.2.2.2.2.2.2.2.2.1), (cS cyI b5 s394.2.2.2.2.2.2.2.2.2)] : List va_W).flatten) H → va_D A (([[cI cyI qo 1 s394.1], (cXo x an tr s394.2.1), (cH cyO (x 1) (x 2) 2 fl), (cXk cyI x s394.2.1), (cH cyO (x 4) (x 5) 6 fs), (cT cyI x (X_text s394.2.1)), (cSo an s394.2.2.1), (cG cyI an (S_green s394.2.2.1)), (cV cyI an (S_score s394.2.2.1)), (cSo tr s394.2.2.2.1), (cG cyI tr (S_green s394.2.2.2.1)), (cV cyI tr (S_score s394.2.2.2.1)), (cS cyI b0 s394.2.2.2.2.1), (cS cyI b1 s394.2.2.2.2.2.1), (cS cyI b2 s394.2.2.2.2.2.2.1), (cS cyI b3 s394.2.2.2.2.2.2.2.1), (cS cyI b4 s394.2.2.2.2.2.2.2.2.1), (cS cyI b5 s394.2.2.2.2.2.2.2.2.2)] : List va_W).flatten) → va_S A s.heap H locs → lv_has ls 15 [] → j394 s394 = some out → W p l e (headSpec (Cond.code yL_areCurvesSo cL_areCurvesSo 15 (some .boolean) :: wT) ({ frames := 9, cells := 178, slots := 1068, locals := 158 } : Room)).room s m ([.ref (x 0), .int p2, .ref qo] : List Value).toArray below meth c H locs (34 + 2 * (72 - (n45 + 1))) (204 + 12 * (72 - (n45 + 1))) (MQ below (va_Qi (fun (r : Int32) (u : (Nat → Int32) × XV × SV × SV × SV × SV × SV × SV × SV × SV) => (r, u) = out ∧ b01 r) (fun u t => va_P (dC, dI) vwCl (([[cI cyI qo 1 u.1], (cXo x an tr u.2.1), (cH cyO (x 1) (x 2) 2 fl), (cXk cyI x u.2.1), (cH cyO (x 4) (x 5) 6 fs), (cT cyI x (X_text u.2.1)), (cSo an u.2.2.1), (cG cyI an (S_green u.2.2.1)), (cV cyI an (S_score u.2.2.1)), (cSo tr u.2.2.2.1), (cG cyI tr (S_green u.2.2.2.1)), (cV cyI tr (S_score u.2.2.2.1)), (cS cyI b0 u.2.2.2.2.1), (cS cyI b1 u.2.2.2.2.2.1), (cS cyI b2 u.2.2.2.2.2.2.1), (cS cyI b3 u.2.2.2.2.2.2.2.1), (cS cyI b4 u.2.2.2.2.2.2.2.2.1), (cS cyI b5 u.2.2.2.2.2.2.2.2.2)] : List va_W).flatten) t.heap ∧ va_D A (([[cI cyI qo 1 u.1], (cXo x an tr u.2.1), (cH cyO (x 1) (x 2) 2 fl), (cXk cyI x u.2.1), (cH cyO (x 4) (x 5) 6 fs), (cT cyI x (X_text u.2.1)), (cSo an u.2.2.1), (cG cyI an (S_green u.2.2.1)), (cV cyI an (S_score u.2.2.1)), (cSo tr u.2.2.2.1), (cG cyI tr (S_green u.2.2.2.1)), (cV cyI tr (S_score u.2.2.2.1)), (cS cyI b0 u.2.2.2.2.1), (cS cyI b1 u.2.2.2.2.2.1), (cS cyI b2 u.2.2.2.2.2.2.1), (cS cyI b3 u.2.2.2.2.2.2.2.1), (cS cyI b4 u.2.2.2.2.2.2.2.2.1), (cS cyI b5 u.2.2.2.2.2.2.2.2.2)] : List va_W).flatten)) A) ([.ref (x 0), .int p2, .ref qo] : List Value).toArray s 178 1068 A) (F0 m 394 ls []) := by
                    intro s394 H locs ls hP hD hS hl hF
                    have hF := (congrFun hj394 s394).symm.trans hF
                    refine lv_iconst (v := 0) hx hb dL_areCurvesSo_394 (by decide) ?_
                    refine W.widen (k := (34 + 2 * (72 - (n45 + 1)))) (n := (204 + 12 * (72 - (n45 + 1)))) (by omega) (by omega) ?_
                    exact hJ395 ((0 : Int32), s394.1, s394.2.1, s394.2.2.1, s394.2.2.2.1, s394.2.2.2.2.1, s394.2.2.2.2.2.1, s394.2.2.2.2.2.2.1, s394.2.2.2.2.2.2.2.1, s394.2.2.2.2.2.2.2.2.1, s394.2.2.2.2.2.2.2.2.2) _ _ _ b01_0 hP hD hS (lv_sub hl [] rfl) hF
                  refine lv_if_eq (tgt := 394) hx hb dL_areCurvesSo_360 (by decide) (fun c23 => ?_) (fun c23 => ?_)
                  · have hF := itp c23 hF
                    refine W.widen (k := (34 + 2 * (72 - (n45 + 1)))) (n := (204 + 12 * (72 - (n45 + 1)))) (by omega) (by omega) ?_
                    exact hJ394 (o19.2.1, o21.2.1, o21.2.2, o13.2.2.2, o19.2.2.2.2.1, o19.2.2.2.2.2.1, o19.2.2.2.2.2.2.1, o19.2.2.2.2.2.2.2.1, o19.2.2.2.2.2.2.2.2.1, o19.2.2.2.2.2.2.2.2.2) _ _ _ hP hD hS (lv_sub hl [] rfl) hF
                  · have hF := itn c23 hF
                    refine lv_aload_n hx hb dL_areCurvesSo_363 rfl (lv_at hl 1 rfl) ?_
                    obtain ⟨o24, h25, hF⟩ := obd hF
                    refine wcLi (As := [.ref (x 0)]) (rest := []) (wr := ([[cI cyI qo 1 o19.2.1], (cSo tr o13.2.2.2), (cG cyI tr (S_green o13.2.2.2)), (cV cyI tr (S_score o13.2.2.2))] : List va_W).flatten) ⟨hx, hb, hml, hown, hts⟩ (met_L_undoes l z0 hst dC dI cyI cyO x tr an b0 b1 b2 b3 b4 b5 fl fs _ N o21.2.1 o21.2.2 o19.2.2.2.2.1 o19.2.2.2.2.2.1 o19.2.2.2.2.2.2.1 o19.2.2.2.2.2.2.2.1 o19.2.2.2.2.2.2.2.2.1 o19.2.2.2.2.2.2.2.2.2 hs0 hs1 hs2 hs3 hs4 hs5 o24 h25) (vx_cwSW 1 hts (gS w_methodLink_L_196 w_static_L_undoes w_initialized_L w_codeW_L_undoes) rfl rfl rfl (by decide +kernel) ⟨Nat.le_of_ble_eq_true rfl, Nat.le_of_ble_eq_true rfl⟩) hP hD hK hZ hAz hz0 (seg_perm (n := 18) (R := [[cI cyI qo 1 o19.2.1], (cSo tr o13.2.2.2), (cG cyI tr (S_green o13.2.2.2)), (cV cyI tr (S_score o13.2.2.2))]) (C := [(cXo x an tr o21.2.1), (cH cyO (x 1) (x 2) 2 fl), (cXk cyI x o21.2.1), (cH cyO (x 4) (x 5) 6 fs), (cT cyI x (X_text o21.2.1)), (cSo an o21.2.2), (cG cyI an (S_green o21.2.2)), (cV cyI an (S_score o21.2.2)), (cS cyI b0 o19.2.2.2.2.1), (cS cyI b1 o19.2.2.2.2.2.1), (cS cyI b2 o19.2.2.2.2.2.2.1), (cS cyI b3 o19.2.2.2.2.2.2.2.1), (cS cyI b4 o19.2.2.2.2.2.2.2.2.1), (cS cyI b5 o19.2.2.2.2.2.2.2.2.2)]) [0, 9, 10, 11] [1, 2, 3, 4, 5, 6, 7, 8, 12, 13, 14, 15, 16, 17] rfl rfl rfl (by decide) rfl) rfl hl.1 (Nat.le_of_ble_eq_true rfl) dL_areCurvesSo_364 ⟨(show _ ≤ 178 from by omega), (show _ ≤ 1068 from by omega)⟩ hS hA (fun r u H locs hw hP hD hS => ?_)
                    obtain rfl : r = o24.1 := congrArg Prod.fst hw
                    obtain rfl : u = o24.2 := congrArg Prod.snd hw
                    clear hw
                    have hq := seg_permS (segs := [[cI cyI qo 1 o19.2.1], (cXo x an tr o24.2.1), (cH cyO (x 1) (x 2) 2 fl), (cXk cyI x o24.2.1), (cH cyO (x 4) (x 5) 6 fs), (cT cyI x (X_text o24.2.1)), (cSo an o24.2.2.1), (cG cyI an (S_green o24.2.2.1)), (cV cyI an (S_score o24.2.2.1)), (cSo tr o13.2.2.2), (cG cyI tr (S_green o13.2.2.2)), (cV cyI tr (S_score o13.2.2.2)), (cS cyI b0 o24.2.2.2.1), (cS cyI b1 o24.2.2.2.2.1), (cS cyI b2 o24.2.2.2.2.2.1), (cS cyI b3 o24.2.2.2.2.2.2.1), (cS cyI b4 o24.2.2.2.2.2.2.2.1), (cS cyI b5 o24.2.2.2.2.2.2.2.2)]) (R := [[cI cyI qo 1 o19.2.1], (cSo tr o13.2.2.2), (cG cyI tr (S_green o13.2.2.2)), (cV cyI tr (S_score o13.2.2.2))]) (C := [(cXo x an tr o24.2.1), (cH cyO (x 1) (x 2) 2 fl), (cXk cyI x o24.2.1), (cH cyO (x 4) (x 5) 6 fs), (cT cyI x (X_text o24.2.1)), (cSo an o24.2.2.1), (cG cyI an (S_green o24.2.2.1)), (cV cyI an (S_score o24.2.2.1)), (cS cyI b0 o24.2.2.2.1), (cS cyI b1 o24.2.2.2.2.1), (cS cyI b2 o24.2.2.2.2.2.1), (cS cyI b3 o24.2.2.2.2.2.2.1), (cS cyI b4 o24.2.2.2.2.2.2.2.1), (cS cyI b5 o24.2.2.2.2.2.2.2.2)]) (n := 18) [0, 9, 10, 11] [1, 2, 3, 4, 5, 6, 7, 8, 12, 13, 14, 15, 16, 17] rfl rfl rfl (by decide)
                    have hP : va_P (dC, dI) vwCl (([[cI cyI qo 1 o19.2.1], (cXo x an tr o24.2.1), (cH cyO (x 1) (x 2) 2 fl), (cXk cyI x o24.2.1), (cH cyO (x 4) (x 5) 6 fs), (cT cyI x (X_text o24.2.1)), (cSo an o24.2.2.1), (cG cyI an (S_green o24.2.2.1)), (cV cyI an (S_score o24.2.2.1)), (cSo tr o13.2.2.2), (cG cyI tr (S_green o13.2.2.2)), (cV cyI tr (S_score o13.2.2.2)), (cS cyI b0 o24.2.2.2.1), (cS cyI b1 o24.2.2.2.2.1), (cS cyI b2 o24.2.2.2.2.2.1), (cS cyI b3 o24.2.2.2.2.2.2.1), (cS cyI b4 o24.2.2.2.2.2.2.2.1), (cS cyI b5 o24.2.2.2.2.2.2.2.2)] : List va_W).flatten) H := hP.perm hq
                    have hD : va_D A (([[cI cyI qo 1 o19.2.1], (cXo x an tr o24.2.1), (cH cyO (x 1) (x 2) 2 fl), (cXk cyI x o24.2.1), (cH cyO (x 4) (x 5) 6 fs), (cT cyI x (X_text o24.2.1)), (cSo an o24.2.2.1), (cG cyI an (S_green o24.2.2.1)), (cV cyI an (S_score o24.2.2.1)), (cSo tr o13.2.2.2), (cG cyI tr (S_green o13.2.2.2)), (cV cyI tr (S_score o13.2.2.2)), (cS cyI b0 o24.2.2.2.1), (cS cyI b1 o24.2.2.2.2.1), (cS cyI b2 o24.2.2.2.2.2.1), (cS cyI b3 o24.2.2.2.2.2.2.1), (cS cyI b4 o24.2.2.2.2.2.2.2.1), (cS cyI b5 o24.2.2.2.2.2.2.2.2)] : List va_W).flatten) := hD.perm hq
                    clear hq
                    refine lv_if_lt (tgt := 394) hx hb dL_areCurvesSo_367 (by decide) (fun c26 => ?_) (fun c26 => ?_)
                    · have hF := itp c26 hF
                      refine W.widen (k := (34 + 2 * (72 - (n45 + 1)))) (n := (204 + 12 * (72 - (n45 + 1)))) (by omega) (by omega) ?_
                      exact hJ394 (o19.2.1, o24.2.1, o24.2.2.1, o13.2.2.2, o24.2.2.2.1, o24.2.2.2.2.1, o24.2.2.2.2.2.1, o24.2.2.2.2.2.2.1, o24.2.2.2.2.2.2.2.1, o24.2.2.2.2.2.2.2.2) _ _ _ hP hD hS (lv_sub hl [] rfl) hF
                    · have hF := itn c26 hF
                      refine lv_aload_n hx hb dL_areCurvesSo_370 rfl (lv_at hl 1 rfl) ?_
                      obtain ⟨o27, h28, hF⟩ := obd hF
                      refine wcRVi (As := []) (rest := []) (b := (x 0)) ⟨hx, hb, hml, hown, hts⟩ (met_X5_bowls l dC dI cyI cyO x tr an fl fs N o24.2.1 o24.2.2.1  o27 h28) (cwV 0 hts (gV w_methodLink_L_77 w_instanceMethod_X5_bowls w_selects_X5_bowls w_initialized_X5 w_code_X5_bowls) rfl rfl rfl (by decide +kernel) ⟨Nat.le_of_ble_eq_true rfl, Nat.le_of_ble_eq_true rfl⟩) (va_recv hK.1 hP (ci := 5) (q0 := 1) rfl rfl) hP hK [1, 2, 3, 4, 5, 6, 7, 8, 9, 10, 11, 12, 13, 14, 15, 16, 17, 18, 19, 20, 21] rfl rfl hl.1 (Nat.le_of_ble_eq_true rfl) dL_areCurvesSo_371 ⟨(show _ ≤ 178 from by omega), (show _ ≤ 1068 from by omega)⟩ hS (fun r H locs hw hP hS => ?_)
                      have hw := hw.symm
                      subst hw
                      refine lv_iload hx hb dL_areCurvesSo_374 (lv_at hl 3 rfl) ?_
                      refine lv_icmp_ne (tgt := 394) hx hb dL_areCurvesSo_376 (by decide) (fun c29 => ?_) (fun c29 => ?_)
                      · have hF := itn c29 hF
                        refine W.widen (k := (34 + 2 * (72 - (n45 + 1)))) (n := (204 + 12 * (72 - (n45 + 1)))) (by omega) (by omega) ?_
                        exact hJ394 (o19.2.1, o24.2.1, o24.2.2.1, o13.2.2.2, o24.2.2.2.1, o24.2.2.2.2.1, o24.2.2.2.2.2.1, o24.2.2.2.2.2.2.1, o24.2.2.2.2.2.2.2.1, o24.2.2.2.2.2.2.2.2) _ _ _ hP hD hS (lv_sub hl [] rfl) hF
                      · have hF := itp c29 hF
                        refine lv_aload_n hx hb dL_areCurvesSo_379 rfl (lv_at hl 1 rfl) ?_
                        refine lv_iconst (v := 4) hx hb dL_areCurvesSo_380 (by decide) ?_
                        refine lv_iconst (v := 0) hx hb dL_areCurvesSo_381 (by decide) ?_
                        obtain ⟨o30, h31, hF⟩ := obd hF
                        refine wcLi (As := [.ref (x 0), .int (4 : Int32), .int (0 : Int32)]) (rest := []) (wr := ([[cI cyI qo 1 o19.2.1], (cSo tr o13.2.2.2), (cG cyI tr (S_green o13.2.2.2)), (cV cyI tr (S_score o13.2.2.2)), (cS cyI b0 o24.2.2.2.1), (cS cyI b1 o24.2.2.2.2.1), (cS cyI b2 o24.2.2.2.2.2.1), (cS cyI b3 o24.2.2.2.2.2.2.1), (cS cyI b4 o24.2.2.2.2.2.2.2.1), (cS cyI b5 o24.2.2.2.2.2.2.2.2)] : List va_W).flatten) ⟨hx, hb, hml, hown, hts⟩ (met_L_looks l z0 hst dC dI cyI cyO x tr an fl fs _ N o24.2.1 o24.2.2.1 (4 : Int32) (0 : Int32) o30 h31) (vx_cwSW 3 hts (gS w_methodLink_L_93 w_static_L_looks w_initialized_L w_codeW_L_looks) rfl rfl rfl (by decide +kernel) ⟨Nat.le_of_ble_eq_true rfl, Nat.le_of_ble_eq_true rfl⟩) hP hD hK hZ hAz hz0 (seg_perm (n := 18) (R := [[cI cyI qo 1 o19.2.1], (cSo tr o13.2.2.2), (cG cyI tr (S_green o13.2.2.2)), (cV cyI tr (S_score o13.2.2.2)), (cS cyI b0 o24.2.2.2.1), (cS cyI b1 o24.2.2.2.2.1), (cS cyI b2 o24.2.2.2.2.2.1), (cS cyI b3 o24.2.2.2.2.2.2.1), (cS cyI b4 o24.2.2.2.2.2.2.2.1), (cS cyI b5 o24.2.2.2.2.2.2.2.2)]) (C := [(cXo x an tr o24.2.1), (cH cyO (x 1) (x 2) 2 fl), (cXk cyI x o24.2.1), (cH cyO (x 4) (x 5) 6 fs), (cT cyI x (X_text o24.2.1)), (cSo an o24.2.2.1), (cG cyI an (S_green o24.2.2.1)), (cV cyI an (S_score o24.2.2.1))]) [0, 9, 10, 11, 12, 13, 14, 15, 16, 17] [1, 2, 3, 4, 5, 6, 7, 8] rfl rfl rfl (by decide) rfl) rfl hl.1 (Nat.le_of_ble_eq_true rfl) dL_areCurvesSo_382 ⟨(show _ ≤ 178 from by omega), (show _ ≤ 1068 from by omega)⟩ hS hA (fun r u H locs hw hP hD hS => ?_)
                        obtain rfl : r = o30.1 := congrArg Prod.fst hw
                        obtain rfl : u = o30.2 := congrArg Prod.snd hw
                        clear hw
                        have hq := seg_permS (segs := [[cI cyI qo 1 o19.2.1], (cXo x an tr o30.2.1), (cH cyO (x 1) (x 2) 2 fl), (cXk cyI x o30.2.1), (cH cyO (x 4) (x 5) 6 fs), (cT cyI x (X_text o30.2.1)), (cSo an o30.2.2), (cG cyI an (S_green o30.2.2)), (cV cyI an (S_score o30.2.2)), (cSo tr o13.2.2.2), (cG cyI tr (S_green o13.2.2.2)), (cV cyI tr (S_score o13.2.2.2)), (cS cyI b0 o24.2.2.2.1), (cS cyI b1 o24.2.2.2.2.1), (cS cyI b2 o24.2.2.2.2.2.1), (cS cyI b3 o24.2.2.2.2.2.2.1), (cS cyI b4 o24.2.2.2.2.2.2.2.1), (cS cyI b5 o24.2.2.2.2.2.2.2.2)]) (R := [[cI cyI qo 1 o19.2.1], (cSo tr o13.2.2.2), (cG cyI tr (S_green o13.2.2.2)), (cV cyI tr (S_score o13.2.2.2)), (cS cyI b0 o24.2.2.2.1), (cS cyI b1 o24.2.2.2.2.1), (cS cyI b2 o24.2.2.2.2.2.1), (cS cyI b3 o24.2.2.2.2.2.2.1), (cS cyI b4 o24.2.2.2.2.2.2.2.1), (cS cyI b5 o24.2.2.2.2.2.2.2.2)]) (C := [(cXo x an tr o30.2.1), (cH cyO (x 1) (x 2) 2 fl), (cXk cyI x o30.2.1), (cH cyO (x 4) (x 5) 6 fs), (cT cyI x (X_text o30.2.1)), (cSo an o30.2.2), (cG cyI an (S_green o30.2.2)), (cV cyI an (S_score o30.2.2))]) (n := 18) [0, 9, 10, 11, 12, 13, 14, 15, 16, 17] [1, 2, 3, 4, 5, 6, 7, 8] rfl rfl rfl (by decide)
                        have hP : va_P (dC, dI) vwCl (([[cI cyI qo 1 o19.2.1], (cXo x an tr o30.2.1), (cH cyO (x 1) (x 2) 2 fl), (cXk cyI x o30.2.1), (cH cyO (x 4) (x 5) 6 fs), (cT cyI x (X_text o30.2.1)), (cSo an o30.2.2), (cG cyI an (S_green o30.2.2)), (cV cyI an (S_score o30.2.2)), (cSo tr o13.2.2.2), (cG cyI tr (S_green o13.2.2.2)), (cV cyI tr (S_score o13.2.2.2)), (cS cyI b0 o24.2.2.2.1), (cS cyI b1 o24.2.2.2.2.1), (cS cyI b2 o24.2.2.2.2.2.1), (cS cyI b3 o24.2.2.2.2.2.2.1), (cS cyI b4 o24.2.2.2.2.2.2.2.1), (cS cyI b5 o24.2.2.2.2.2.2.2.2)] : List va_W).flatten) H := hP.perm hq
                        have hD : va_D A (([[cI cyI qo 1 o19.2.1], (cXo x an tr o30.2.1), (cH cyO (x 1) (x 2) 2 fl), (cXk cyI x o30.2.1), (cH cyO (x 4) (x 5) 6 fs), (cT cyI x (X_text o30.2.1)), (cSo an o30.2.2), (cG cyI an (S_green o30.2.2)), (cV cyI an (S_score o30.2.2)), (cSo tr o13.2.2.2), (cG cyI tr (S_green o13.2.2.2)), (cV cyI tr (S_score o13.2.2.2)), (cS cyI b0 o24.2.2.2.1), (cS cyI b1 o24.2.2.2.2.1), (cS cyI b2 o24.2.2.2.2.2.1), (cS cyI b3 o24.2.2.2.2.2.2.1), (cS cyI b4 o24.2.2.2.2.2.2.2.1), (cS cyI b5 o24.2.2.2.2.2.2.2.2)] : List va_W).flatten) := hD.perm hq
                        clear hq
                        refine lv_iload hx hb dL_areCurvesSo_385 (lv_at hl 2 rfl) ?_
                        refine lv_icmp_ne (tgt := 394) hx hb dL_areCurvesSo_387 (by decide) (fun c32 => ?_) (fun c32 => ?_)
                        · have hF := itn c32 hF
                          refine W.widen (k := (34 + 2 * (72 - (n45 + 1)))) (n := (204 + 12 * (72 - (n45 + 1)))) (by omega) (by omega) ?_
                          exact hJ394 (o19.2.1, o30.2.1, o30.2.2, o13.2.2.2, o24.2.2.2.1, o24.2.2.2.2.1, o24.2.2.2.2.2.1, o24.2.2.2.2.2.2.1, o24.2.2.2.2.2.2.2.1, o24.2.2.2.2.2.2.2.2) _ _ _ hP hD hS (lv_sub hl [] rfl) hF
                        · have hF := itp c32 hF
                          refine lv_iconst (v := 1) hx hb dL_areCurvesSo_390 (by decide) ?_
                          refine lv_goto (tgt := 395) hx hb dL_areCurvesSo_391 (by decide) ?_
                          refine W.widen (k := (34 + 2 * (72 - (n45 + 1)))) (n := (204 + 12 * (72 - (n45 + 1)))) (by omega) (by omega) ?_
                          exact hJ395 ((1 : Int32), o19.2.1, o30.2.1, o30.2.2, o13.2.2.2, o24.2.2.2.1, o24.2.2.2.2.1, o24.2.2.2.2.2.1, o24.2.2.2.2.2.2.1, o24.2.2.2.2.2.2.2.1, o24.2.2.2.2.2.2.2.2) _ _ _ b01_1 hP hD hS (lv_sub hl [] rfl) hF
                obtain ⟨j355, hj355, hF⟩ := jn_use hF
                have hJ355 : ∀ (s355 : Unit) (H : Heap) (locs : List Loc) (ls : Array Slot), va_P (dC, dI) vwCl (([[cI cyI qo 1 o19.2.1], (cXo x an tr o21.2.1), (cH cyO (x 1) (x 2) 2 fl), (cXk cyI x o21.2.1), (cH cyO (x 4) (x 5) 6 fs), (cT cyI x (X_text o21.2.1)), (cSo an o21.2.2), (cG cyI an (S_green o21.2.2)), (cV cyI an (S_score o21.2.2)), (cSo tr o13.2.2.2), (cG cyI tr (S_green o13.2.2.2)), (cV cyI tr (S_score o13.2.2.2)), (cS cyI b0 o19.2.2.2.2.1), (cS cyI b1 o19.2.2.2.2.2.1), (cS cyI b2 o19.2.2.2.2.2.2.1), (cS cyI b3 o19.2.2.2.2.2.2.2.1), (cS cyI b4 o19.2.2.2.2.2.2.2.2.1), (cS cyI b5 o19.2.2.2.2.2.2.2.2.2)] : List va_W).flatten) H → va_D A (([[cI cyI qo 1 o19.2.1], (cXo x an tr o21.2.1), (cH cyO (x 1) (x 2) 2 fl), (cXk cyI x o21.2.1), (cH cyO (x 4) (x 5) 6 fs), (cT cyI x (X_text o21.2.1)), (cSo an o21.2.2), (cG cyI an (S_green o21.2.2)), (cV cyI an (S_score o21.2.2)), (cSo tr o13.2.2.2), (cG cyI tr (S_green o13.2.2.2)), (cV cyI tr (S_score o13.2.2.2)), (cS cyI b0 o19.2.2.2.2.1), (cS cyI b1 o19.2.2.2.2.2.1), (cS cyI b2 o19.2.2.2.2.2.2.1), (cS cyI b3 o19.2.2.2.2.2.2.2.1), (cS cyI b4 o19.2.2.2.2.2.2.2.2.1), (cS cyI b5 o19.2.2.2.2.2.2.2.2.2)] : List va_W).flatten) → va_S A s.heap H locs → lv_has ls 15 [(0, .ref (x 0)), (8, .int o7.1), (11, .int o15)] → j355 s355 = some out → W p l e (headSpec (Cond.code yL_areCurvesSo cL_areCurvesSo 15 (some .boolean) :: wT) ({ frames := 9, cells := 178, slots := 1068, locals := 158 } : Room)).room s m ([.ref (x 0), .int p2, .ref qo] : List Value).toArray below meth c H locs (24 + 2 * (72 - (n45 + 1))) (144 + 12 * (72 - (n45 + 1))) (MQ below (va_Qi (fun (r : Int32) (u : (Nat → Int32) × XV × SV × SV × SV × SV × SV × SV × SV × SV) => (r, u) = out ∧ b01 r) (fun u t => va_P (dC, dI) vwCl (([[cI cyI qo 1 u.1], (cXo x an tr u.2.1), (cH cyO (x 1) (x 2) 2 fl), (cXk cyI x u.2.1), (cH cyO (x 4) (x 5) 6 fs), (cT cyI x (X_text u.2.1)), (cSo an u.2.2.1), (cG cyI an (S_green u.2.2.1)), (cV cyI an (S_score u.2.2.1)), (cSo tr u.2.2.2.1), (cG cyI tr (S_green u.2.2.2.1)), (cV cyI tr (S_score u.2.2.2.1)), (cS cyI b0 u.2.2.2.2.1), (cS cyI b1 u.2.2.2.2.2.1), (cS cyI b2 u.2.2.2.2.2.2.1), (cS cyI b3 u.2.2.2.2.2.2.2.1), (cS cyI b4 u.2.2.2.2.2.2.2.2.1), (cS cyI b5 u.2.2.2.2.2.2.2.2.2)] : List va_W).flatten) t.heap ∧ va_D A (([[cI cyI qo 1 u.1], (cXo x an tr u.2.1), (cH cyO (x 1) (x 2) 2 fl), (cXk cyI x u.2.1), (cH cyO (x 4) (x 5) 6 fs), (cT cyI x (X_text u.2.1)), (cSo an u.2.2.1), (cG cyI an (S_green u.2.2.1)), (cV cyI an (S_score u.2.2.1)), (cSo tr u.2.2.2.1), (cG cyI tr (S_green u.2.2.2.1)), (cV cyI tr (S_score u.2.2.2.1)), (cS cyI b0 u.2.2.2.2.1), (cS cyI b1 u.2.2.2.2.2.1), (cS cyI b2 u.2.2.2.2.2.2.1), (cS cyI b3 u.2.2.2.2.2.2.2.1), (cS cyI b4 u.2.2.2.2.2.2.2.2.1), (cS cyI b5 u.2.2.2.2.2.2.2.2.2)] : List va_W).flatten)) A) ([.ref (x 0), .int p2, .ref qo] : List Value).toArray s 178 1068 A) (F0 m 355 ls []) := by
                  intro s355 H locs ls hP hD hS hl hF
                  have hF := (congrFun hj355 s355).symm.trans hF
                  refine lv_iconst (v := 0) hx hb dL_areCurvesSo_355 (by decide) ?_
                  refine W.widen (k := (24 + 2 * (72 - (n45 + 1)))) (n := (144 + 12 * (72 - (n45 + 1)))) (by omega) (by omega) ?_
                  exact hJ356 (0 : Int32) _ _ _ b01_0 hP hD hS (lv_sub hl [0, 1, 2] rfl) hF
                refine lv_if_ne (tgt := 355) hx hb dL_areCurvesSo_215 (by decide) (fun c33 => ?_) (fun c33 => ?_)
                · have hF := itn c33 hF
                  refine W.widen (k := (24 + 2 * (72 - (n45 + 1)))) (n := (144 + 12 * (72 - (n45 + 1)))) (by omega) (by omega) ?_
                  exact hJ355 () _ _ _ hP hD hS (lv_sub hl [7, 6, 3] rfl) hF
                · have hF := itp c33 hF
                  refine lv_aload_n hx hb dL_areCurvesSo_218 rfl (lv_at hl 7 rfl) ?_
                  obtain ⟨o34, h35, hF⟩ := obd hF
                  refine wcRVi (As := []) (rest := []) (b := (x 0)) ⟨hx, hb, hml, hown, hts⟩ (met_X5_bowls l dC dI cyI cyO x tr an fl fs N o21.2.1 o21.2.2  o34 h35) (cwV 0 hts (gV w_methodLink_L_77 w_instanceMethod_X5_bowls w_selects_X5_bowls w_initialized_X5 w_code_X5_bowls) rfl rfl rfl (by decide +kernel) ⟨Nat.le_of_ble_eq_true rfl, Nat.le_of_ble_eq_true rfl⟩) (va_recv hK.1 hP (ci := 5) (q0 := 1) rfl rfl) hP hK [1, 2, 3, 4, 5, 6, 7, 8, 9, 10, 11, 12, 13, 14, 15, 16, 17, 18, 19, 20, 21] rfl rfl hl.1 (Nat.le_of_ble_eq_true rfl) dL_areCurvesSo_219 ⟨(show _ ≤ 178 from by omega), (show _ ≤ 1068 from by omega)⟩ hS (fun r H locs hw hP hS => ?_)
                  have hw := hw.symm
                  subst hw
                  refine lv_iload hx hb dL_areCurvesSo_222 (lv_at hl 3 rfl) ?_
                  refine lv_iconst (v := 1) hx hb dL_areCurvesSo_224 (by decide) ?_
                  refine lv_iadd hx hb dL_areCurvesSo_225 ?_
                  refine lv_icmp_ne (tgt := 355) hx hb dL_areCurvesSo_226 (by decide) (fun c36 => ?_) (fun c36 => ?_)
                  · have hF := itn c36 hF
                    refine W.widen (k := (24 + 2 * (72 - (n45 + 1)))) (n := (144 + 12 * (72 - (n45 + 1)))) (by omega) (by omega) ?_
                    exact hJ355 () _ _ _ hP hD hS (lv_sub hl [7, 6, 3] rfl) hF
                  · have hF := itp c36 hF
                    refine lv_iload hx hb dL_areCurvesSo_229 (lv_at hl 4 rfl) ?_
                    refine lv_iload hx hb dL_areCurvesSo_231 (lv_at hl 0 rfl) ?_
                    obtain ⟨j257, hj257, hF⟩ := jn_use hF
                    have hJ257 : ∀ (s257 : Int32) (H : Heap) (locs : List Loc) (ls : Array Slot), va_P (dC, dI) vwCl (([[cI cyI qo 1 o19.2.1], (cXo x an tr o21.2.1), (cH cyO (x 1) (x 2) 2 fl), (cXk cyI x o21.2.1), (cH cyO (x 4) (x 5) 6 fs), (cT cyI x (X_text o21.2.1)), (cSo an o21.2.2), (cG cyI an (S_green o21.2.2)), (cV cyI an (S_score o21.2.2)), (cSo tr o13.2.2.2), (cG cyI tr (S_green o13.2.2.2)), (cV cyI tr (S_score o13.2.2.2)), (cS cyI b0 o19.2.2.2.2.1), (cS cyI b1 o19.2.2.2.2.2.1), (cS cyI b2 o19.2.2.2.2.2.2.1), (cS cyI b3 o19.2.2.2.2.2.2.2.1), (cS cyI b4 o19.2.2.2.2.2.2.2.2.1), (cS cyI b5 o19.2.2.2.2.2.2.2.2.2)] : List va_W).flatten) H → va_D A (([[cI cyI qo 1 o19.2.1], (cXo x an tr o21.2.1), (cH cyO (x 1) (x 2) 2 fl), (cXk cyI x o21.2.1), (cH cyO (x 4) (x 5) 6 fs), (cT cyI x (X_text o21.2.1)), (cSo an o21.2.2), (cG cyI an (S_green o21.2.2)), (cV cyI an (S_score o21.2.2)), (cSo tr o13.2.2.2), (cG cyI tr (S_green o13.2.2.2)), (cV cyI tr (S_score o13.2.2.2)), (cS cyI b0 o19.2.2.2.2.1), (cS cyI b1 o19.2.2.2.2.2.1), (cS cyI b2 o19.2.2.2.2.2.2.1), (cS cyI b3 o19.2.2.2.2.2.2.2.1), (cS cyI b4 o19.2.2.2.2.2.2.2.2.1), (cS cyI b5 o19.2.2.2.2.2.2.2.2.2)] : List va_W).flatten) → va_S A s.heap H locs → lv_has ls 15 [(0, .ref (x 0)), (2, .ref qo), (3, .int (o1 - (9 : Int32))), (4, .int (o3 - (3 : Int32))), (5, .int ((15 : Int32) + o5)), (6, .int s45.1), (8, .int o7.1), (9, .int ro11), (11, .int o15), (12, .int o17)] → j257 s257 = some out → W p l e (headSpec (Cond.code yL_areCurvesSo cL_areCurvesSo 15 (some .boolean) :: wT) ({ frames := 9, cells := 178, slots := 1068, locals := 158 } : Room)).room s m ([.ref (x 0), .int p2, .ref qo] : List Value).toArray below meth c H locs (18 + 2 * (72 - (n45 + 1))) (108 + 12 * (72 - (n45 + 1))) (MQ below (va_Qi (fun (r : Int32) (u : (Nat → Int32) × XV × SV × SV × SV × SV × SV × SV × SV × SV) => (r, u) = out ∧ b01 r) (fun u t => va_P (dC, dI) vwCl (([[cI cyI qo 1 u.1], (cXo x an tr u.2.1), (cH cyO (x 1) (x 2) 2 fl), (cXk cyI x u.2.1), (cH cyO (x 4) (x 5) 6 fs), (cT cyI x (X_text u.2.1)), (cSo an u.2.2.1), (cG cyI an (S_green u.2.2.1)), (cV cyI an (S_score u.2.2.1)), (cSo tr u.2.2.2.1), (cG cyI tr (S_green u.2.2.2.1)), (cV cyI tr (S_score u.2.2.2.1)), (cS cyI b0 u.2.2.2.2.1), (cS cyI b1 u.2.2.2.2.2.1), (cS cyI b2 u.2.2.2.2.2.2.1), (cS cyI b3 u.2.2.2.2.2.2.2.1), (cS cyI b4 u.2.2.2.2.2.2.2.2.1), (cS cyI b5 u.2.2.2.2.2.2.2.2.2)] : List va_W).flatten) t.heap ∧ va_D A (([[cI cyI qo 1 u.1], (cXo x an tr u.2.1), (cH cyO (x 1) (x 2) 2 fl), (cXk cyI x u.2.1), (cH cyO (x 4) (x 5) 6 fs), (cT cyI x (X_text u.2.1)), (cSo an u.2.2.1), (cG cyI an (S_green u.2.2.1)), (cV cyI an (S_score u.2.2.1)), (cSo tr u.2.2.2.1), (cG cyI tr (S_green u.2.2.2.1)), (cV cyI tr (S_score u.2.2.2.1)), (cS cyI b0 u.2.2.2.2.1), (cS cyI b1 u.2.2.2.2.2.1), (cS cyI b2 u.2.2.2.2.2.2.1), (cS cyI b3 u.2.2.2.2.2.2.2.1), (cS cyI b4 u.2.2.2.2.2.2.2.2.1), (cS cyI b5 u.2.2.2.2.2.2.2.2.2)] : List va_W).flatten)) A) ([.ref (x 0), .int p2, .ref qo] : List Value).toArray s 178 1068 A) (F0 m 257 ls [.int s257, .int ro13]) := by
                      intro s257 H locs ls hP hD hS hl hF
                      have hF := (congrFun hj257 s257).symm.trans hF
                      refine lv_icmp_ne (tgt := 355) hx hb dL_areCurvesSo_257 (by decide) (fun c37 => ?_) (fun c37 => ?_)
                      · have hF := itn c37 hF
                        refine W.widen (k := (24 + 2 * (72 - (n45 + 1)))) (n := (144 + 12 * (72 - (n45 + 1)))) (by omega) (by omega) ?_
                        exact hJ355 () _ _ _ hP hD hS (lv_sub hl [0, 6, 8] rfl) hF
                      · have hF := itp c37 hF
                        refine lv_iload hx hb dL_areCurvesSo_260 (lv_at hl 7 rfl) ?_
                        obtain ⟨j316, hj316, hF⟩ := jn_use hF
                        have hJ316 : ∀ (s316 : Unit) (H : Heap) (locs : List Loc) (ls : Array Slot), va_P (dC, dI) vwCl (([[cI cyI qo 1 o19.2.1], (cXo x an tr o21.2.1), (cH cyO (x 1) (x 2) 2 fl), (cXk cyI x o21.2.1), (cH cyO (x 4) (x 5) 6 fs), (cT cyI x (X_text o21.2.1)), (cSo an o21.2.2), (cG cyI an (S_green o21.2.2)), (cV cyI an (S_score o21.2.2)), (cSo tr o13.2.2.2), (cG cyI tr (S_green o13.2.2.2)), (cV cyI tr (S_score o13.2.2.2)), (cS cyI b0 o19.2.2.2.2.1), (cS cyI b1 o19.2.2.2.2.2.1), (cS cyI b2 o19.2.2.2.2.2.2.1), (cS cyI b3 o19.2.2.2.2.2.2.2.1), (cS cyI b4 o19.2.2.2.2.2.2.2.2.1), (cS cyI b5 o19.2.2.2.2.2.2.2.2.2)] : List va_W).flatten) H → va_D A (([[cI cyI qo 1 o19.2.1], (cXo x an tr o21.2.1), (cH cyO (x 1) (x 2) 2 fl), (cXk cyI x o21.2.1), (cH cyO (x 4) (x 5) 6 fs), (cT cyI x (X_text o21.2.1)), (cSo an o21.2.2), (cG cyI an (S_green o21.2.2)), (cV cyI an (S_score o21.2.2)), (cSo tr o13.2.2.2), (cG cyI tr (S_green o13.2.2.2)), (cV cyI tr (S_score o13.2.2.2)), (cS cyI b0 o19.2.2.2.2.1), (cS cyI b1 o19.2.2.2.2.2.1), (cS cyI b2 o19.2.2.2.2.2.2.1), (cS cyI b3 o19.2.2.2.2.2.2.2.1), (cS cyI b4 o19.2.2.2.2.2.2.2.2.1), (cS cyI b5 o19.2.2.2.2.2.2.2.2.2)] : List va_W).flatten) → va_S A s.heap H locs → lv_has ls 15 [(0, .ref (x 0)), (8, .int o7.1), (9, .int ro11), (11, .int o15), (12, .int o17)] → j316 s316 = some out → W p l e (headSpec (Cond.code yL_areCurvesSo cL_areCurvesSo 15 (some .boolean) :: wT) ({ frames := 9, cells := 178, slots := 1068, locals := 158 } : Room)).room s m ([.ref (x 0), .int p2, .ref qo] : List Value).toArray below meth c H locs (23 + 2 * (72 - (n45 + 1))) (138 + 12 * (72 - (n45 + 1))) (MQ below (va_Qi (fun (r : Int32) (u : (Nat → Int32) × XV × SV × SV × SV × SV × SV × SV × SV × SV) => (r, u) = out ∧ b01 r) (fun u t => va_P (dC, dI) vwCl (([[cI cyI qo 1 u.1], (cXo x an tr u.2.1), (cH cyO (x 1) (x 2) 2 fl), (cXk cyI x u.2.1), (cH cyO (x 4) (x 5) 6 fs), (cT cyI x (X_text u.2.1)), (cSo an u.2.2.1), (cG cyI an (S_green u.2.2.1)), (cV cyI an (S_score u.2.2.1)), (cSo tr u.2.2.2.1), (cG cyI tr (S_green u.2.2.2.1)), (cV cyI tr (S_score u.2.2.2.1)), (cS cyI b0 u.2.2.2.2.1), (cS cyI b1 u.2.2.2.2.2.1), (cS cyI b2 u.2.2.2.2.2.2.1), (cS cyI b3 u.2.2.2.2.2.2.2.1), (cS cyI b4 u.2.2.2.2.2.2.2.2.1), (cS cyI b5 u.2.2.2.2.2.2.2.2.2)] : List va_W).flatten) t.heap ∧ va_D A (([[cI cyI qo 1 u.1], (cXo x an tr u.2.1), (cH cyO (x 1) (x 2) 2 fl), (cXk cyI x u.2.1), (cH cyO (x 4) (x 5) 6 fs), (cT cyI x (X_text u.2.1)), (cSo an u.2.2.1), (cG cyI an (S_green u.2.2.1)), (cV cyI an (S_score u.2.2.1)), (cSo tr u.2.2.2.1), (cG cyI tr (S_green u.2.2.2.1)), (cV cyI tr (S_score u.2.2.2.1)), (cS cyI b0 u.2.2.2.2.1), (cS cyI b1 u.2.2.2.2.2.1), (cS cyI b2 u.2.2.2.2.2.2.1), (cS cyI b3 u.2.2.2.2.2.2.2.1), (cS cyI b4 u.2.2.2.2.2.2.2.2.1), (cS cyI b5 u.2.2.2.2.2.2.2.2.2)] : List va_W).flatten)) A) ([.ref (x 0), .int p2, .ref qo] : List Value).toArray s 178 1068 A) (F0 m 316 ls []) := by
                          intro s316 H locs ls hP hD hS hl hF
                          have hF := (congrFun hj316 s316).symm.trans hF
                          refine lv_iload hx hb dL_areCurvesSo_316 (lv_at hl 2 rfl) ?_
                          refine lv_if_lt (tgt := 355) hx hb dL_areCurvesSo_318 (by decide) (fun c38 => ?_) (fun c38 => ?_)
                          · have hF := itp c38 hF
                            refine W.widen (k := (24 + 2 * (72 - (n45 + 1)))) (n := (144 + 12 * (72 - (n45 + 1)))) (by omega) (by omega) ?_
                            exact hJ355 () _ _ _ hP hD hS (lv_sub hl [0, 1, 3] rfl) hF
                          · have hF := itn c38 hF
                            refine lv_iload hx hb dL_areCurvesSo_321 (lv_at hl 2 rfl) ?_
                            refine lv_bipush (v := 9) hx hb dL_areCurvesSo_323 (by decide) ?_
                            refine lv_icmp_gt (tgt := 355) hx hb dL_areCurvesSo_325 (by decide) (fun c39 => ?_) (fun c39 => ?_)
                            · have hF := itp c39 hF
                              refine W.widen (k := (24 + 2 * (72 - (n45 + 1)))) (n := (144 + 12 * (72 - (n45 + 1)))) (by omega) (by omega) ?_
                              exact hJ355 () _ _ _ hP hD hS (lv_sub hl [0, 1, 3] rfl) hF
                            · have hF := itn c39 hF
                              refine lv_aload_n hx hb dL_areCurvesSo_328 rfl (lv_at hl 0 rfl) ?_
                              refine lv_iload hx hb dL_areCurvesSo_329 (lv_at hl 3 rfl) ?_
                              obtain ⟨o40, h41, hF⟩ := obd hF
                              refine wxRVi (As := [.int o15]) (rest := []) (b := (x 0)) ⟨hx, hb, hml, hown, hts⟩ (met_X5_isToucher l z0 hst dC dI cyI cyO x tr an fl fs N o21.2.1 o21.2.2 o15 o40 h41) (cwV 1 hts (gV w_methodLink_L_130 w_instanceMethod_X5_isToucher w_selects_X5_isToucher w_initialized_X5 w_code_X5_isToucher) rfl rfl rfl (by decide +kernel) ⟨Nat.le_of_ble_eq_true rfl, Nat.le_of_ble_eq_true rfl⟩) (va_recv hK.1 hP (ci := 5) (q0 := 1) rfl rfl) hP hK hZ hAz [1, 2, 3, 4, 5, 6, 7, 8, 9, 10, 11, 12, 13, 14, 15, 16, 17, 18, 19, 20, 21] rfl rfl hl.1 (Nat.le_of_ble_eq_true rfl) dL_areCurvesSo_331 ⟨(show _ ≤ 178 from by omega), (show _ ≤ 1068 from by omega)⟩ hS (fun k ce q9 H locs hw hP hS h9 hv9 hc9 => ?_) (fun ro40 H locs hw hP hS => ?_)
                              · have hw := hw.symm
                                subst hw
                                have hF := exc_l hF
                                cases hF
                              · skip
                                obtain ⟨hw, hz42⟩ := hw
                                have hw := hw.symm
                                subst hw
                                have hF := exc_r hF
                                obtain ⟨j342, hj342, hF⟩ := jn_use hF
                                have hJ342 : ∀ (s342 : Unit) (H : Heap) (locs : List Loc) (ls : Array Slot), va_P (dC, dI) vwCl (([[cI cyI qo 1 o19.2.1], (cXo x an tr o21.2.1), (cH cyO (x 1) (x 2) 2 fl), (cXk cyI x o21.2.1), (cH cyO (x 4) (x 5) 6 fs), (cT cyI x (X_text o21.2.1)), (cSo an o21.2.2), (cG cyI an (S_green o21.2.2)), (cV cyI an (S_score o21.2.2)), (cSo tr o13.2.2.2), (cG cyI tr (S_green o13.2.2.2)), (cV cyI tr (S_score o13.2.2.2)), (cS cyI b0 o19.2.2.2.2.1), (cS cyI b1 o19.2.2.2.2.2.1), (cS cyI b2 o19.2.2.2.2.2.2.1), (cS cyI b3 o19.2.2.2.2.2.2.2.1), (cS cyI b4 o19.2.2.2.2.2.2.2.2.1), (cS cyI b5 o19.2.2.2.2.2.2.2.2.2)] : List va_W).flatten) H → va_D A (([[cI cyI qo 1 o19.2.1], (cXo x an tr o21.2.1), (cH cyO (x 1) (x 2) 2 fl), (cXk cyI x o21.2.1), (cH cyO (x 4) (x 5) 6 fs), (cT cyI x (X_text o21.2.1)), (cSo an o21.2.2), (cG cyI an (S_green o21.2.2)), (cV cyI an (S_score o21.2.2)), (cSo tr o13.2.2.2), (cG cyI tr (S_green o13.2.2.2)), (cV cyI tr (S_score o13.2.2.2)), (cS cyI b0 o19.2.2.2.2.1), (cS cyI b1 o19.2.2.2.2.2.1), (cS cyI b2 o19.2.2.2.2.2.2.1), (cS cyI b3 o19.2.2.2.2.2.2.2.1), (cS cyI b4 o19.2.2.2.2.2.2.2.2.1), (cS cyI b5 o19.2.2.2.2.2.2.2.2.2)] : List va_W).flatten) → va_S A s.heap H locs → lv_has ls 15 [(0, .ref (x 0)), (8, .int o7.1), (11, .int o15), (12, .int o17)] → j342 s342 = some out → W p l e (headSpec (Cond.code yL_areCurvesSo cL_areCurvesSo 15 (some .boolean) :: wT) ({ frames := 9, cells := 178, slots := 1068, locals := 158 } : Room)).room s m ([.ref (x 0), .int p2, .ref qo] : List Value).toArray below meth c H locs (24 + 2 * (72 - (n45 + 1))) (144 + 12 * (72 - (n45 + 1))) (MQ below (va_Qi (fun (r : Int32) (u : (Nat → Int32) × XV × SV × SV × SV × SV × SV × SV × SV × SV) => (r, u) = out ∧ b01 r) (fun u t => va_P (dC, dI) vwCl (([[cI cyI qo 1 u.1], (cXo x an tr u.2.1), (cH cyO (x 1) (x 2) 2 fl), (cXk cyI x u.2.1), (cH cyO (x 4) (x 5) 6 fs), (cT cyI x (X_text u.2.1)), (cSo an u.2.2.1), (cG cyI an (S_green u.2.2.1)), (cV cyI an (S_score u.2.2.1)), (cSo tr u.2.2.2.1), (cG cyI tr (S_green u.2.2.2.1)), (cV cyI tr (S_score u.2.2.2.1)), (cS cyI b0 u.2.2.2.2.1), (cS cyI b1 u.2.2.2.2.2.1), (cS cyI b2 u.2.2.2.2.2.2.1), (cS cyI b3 u.2.2.2.2.2.2.2.1), (cS cyI b4 u.2.2.2.2.2.2.2.2.1), (cS cyI b5 u.2.2.2.2.2.2.2.2.2)] : List va_W).flatten) t.heap ∧ va_D A (([[cI cyI qo 1 u.1], (cXo x an tr u.2.1), (cH cyO (x 1) (x 2) 2 fl), (cXk cyI x u.2.1), (cH cyO (x 4) (x 5) 6 fs), (cT cyI x (X_text u.2.1)), (cSo an u.2.2.1), (cG cyI an (S_green u.2.2.1)), (cV cyI an (S_score u.2.2.1)), (cSo tr u.2.2.2.1), (cG cyI tr (S_green u.2.2.2.1)), (cV cyI tr (S_score u.2.2.2.1)), (cS cyI b0 u.2.2.2.2.1), (cS cyI b1 u.2.2.2.2.2.1), (cS cyI b2 u.2.2.2.2.2.2.1), (cS cyI b3 u.2.2.2.2.2.2.2.1), (cS cyI b4 u.2.2.2.2.2.2.2.2.1), (cS cyI b5 u.2.2.2.2.2.2.2.2.2)] : List va_W).flatten)) A) ([.ref (x 0), .int p2, .ref qo] : List Value).toArray s 178 1068 A) (F0 m 342 ls []) := by
                                  intro s342 H locs ls hP hD hS hl hF
                                  have hF := (congrFun hj342 s342).symm.trans hF
                                  refine lv_aload_n hx hb dL_areCurvesSo_342 rfl (lv_at hl 0 rfl) ?_
                                  obtain ⟨o43, h44, hF⟩ := obd hF
                                  refine wcRVi (As := []) (rest := []) (b := (x 0)) ⟨hx, hb, hml, hown, hts⟩ (met_X5_putBack l dC dI cyI cyO x tr an fl fs N o21.2.1 o21.2.2  o43 h44) (cwV 0 hts (gV w_methodLink_L_115 w_instanceMethod_X5_putBack w_selects_X5_putBack w_initialized_X5 w_code_X5_putBack) rfl rfl rfl (by decide +kernel) ⟨Nat.le_of_ble_eq_true rfl, Nat.le_of_ble_eq_true rfl⟩) (va_recv hK.1 hP (ci := 5) (q0 := 1) rfl rfl) hP hK [1, 2, 3, 4, 5, 6, 7, 8, 9, 10, 11, 12, 13, 14, 15, 16, 17, 18, 19, 20, 21] rfl rfl hl.1 (Nat.le_of_ble_eq_true rfl) dL_areCurvesSo_343 ⟨(show _ ≤ 178 from by omega), (show _ ≤ 1068 from by omega)⟩ hS (fun r H locs hw hP hS => ?_)
                                  have hw := hw.symm
                                  subst hw
                                  refine lv_iload hx hb dL_areCurvesSo_346 (lv_at hl 3 rfl) ?_
                                  refine lv_icmp_lt (tgt := 355) hx hb dL_areCurvesSo_348 (by decide) (fun c45 => ?_) (fun c45 => ?_)
                                  · have hF := itp c45 hF
                                    refine W.widen (k := (24 + 2 * (72 - (n45 + 1)))) (n := (144 + 12 * (72 - (n45 + 1)))) (by omega) (by omega) ?_
                                    exact hJ355 () _ _ _ hP hD hS (lv_sub hl [0, 1, 2] rfl) hF
                                  · have hF := itn c45 hF
                                    refine lv_iconst (v := 1) hx hb dL_areCurvesSo_351 (by decide) ?_
                                    refine lv_goto (tgt := 356) hx hb dL_areCurvesSo_352 (by decide) ?_
                                    refine W.widen (k := (24 + 2 * (72 - (n45 + 1)))) (n := (144 + 12 * (72 - (n45 + 1)))) (by omega) (by omega) ?_
                                    exact hJ356 (1 : Int32) _ _ _ b01_1 hP hD hS (lv_sub hl [0, 1, 2] rfl) hF
                                refine lv_if_eq (tgt := 342) hx hb dL_areCurvesSo_334 (by decide) (fun c46 => ?_) (fun c46 => ?_)
                                · have hF := itp c46 hF
                                  refine W.widen (k := (24 + 2 * (72 - (n45 + 1)))) (n := (144 + 12 * (72 - (n45 + 1)))) (by omega) (by omega) ?_
                                  exact hJ342 () _ _ _ hP hD hS (lv_sub hl [0, 1, 3, 4] rfl) hF
                                · have hF := itn c46 hF
                                  refine lv_iload hx hb dL_areCurvesSo_337 (lv_at hl 2 rfl) ?_
                                  refine lv_if_le (tgt := 355) hx hb dL_areCurvesSo_339 (by decide) (fun c47 => ?_) (fun c47 => ?_)
                                  · have hF := itp c47 hF
                                    refine W.widen (k := (24 + 2 * (72 - (n45 + 1)))) (n := (144 + 12 * (72 - (n45 + 1)))) (by omega) (by omega) ?_
                                    exact hJ355 () _ _ _ hP hD hS (lv_sub hl [0, 1, 3] rfl) hF
                                  · have hF := itn c47 hF
                                    refine W.widen (k := (24 + 2 * (72 - (n45 + 1)))) (n := (144 + 12 * (72 - (n45 + 1)))) (by omega) (by omega) ?_
                                    exact hJ342 () _ _ _ hP hD hS (lv_sub hl [0, 1, 3, 4] rfl) hF
                        refine lv_if_gt (tgt := 316) hx hb dL_areCurvesSo_262 (by decide) (fun c48 => ?_) (fun c48 => ?_)
                        · have hF := itp c48 hF
                          refine W.widen (k := (23 + 2 * (72 - (n45 + 1)))) (n := (138 + 12 * (72 - (n45 + 1)))) (by omega) (by omega) ?_
                          exact hJ316 () _ _ _ hP hD hS (lv_sub hl [0, 6, 7, 8, 9] rfl) hF
                        · have hF := itn c48 hF
                          refine lv_iload hx hb dL_areCurvesSo_265 (lv_at hl 5 rfl) ?_
                          refine lv_if_eq (tgt := 280) hx hb dL_areCurvesSo_267 (by decide) (fun c49 => ?_) (fun c49 => ?_)
                          · have hF := itp c49 hF
                            refine lv_aload_n hx hb dL_areCurvesSo_280 rfl (lv_at hl 1 rfl) ?_
                            refine lv_iconst (v := 0) hx hb dL_areCurvesSo_281 (by decide) ?_
                            refine va_iald hx hb hK.1 hP 0 0 rfl rfl (i := (0 : Int32)) (show ixok (0 : Int32) 1 by decide) dL_areCurvesSo_282 ?_
                            refine lv_if_ne (tgt := 355) hx hb dL_areCurvesSo_283 (by decide) (fun c51 => ?_) (fun c51 => ?_)
                            · have hF := itn c51 hF
                              refine W.widen (k := (24 + 2 * (72 - (n45 + 1)))) (n := (144 + 12 * (72 - (n45 + 1)))) (by omega) (by omega) ?_
                              exact hJ355 () _ _ _ hP hD hS (lv_sub hl [0, 6, 8] rfl) hF
                            · have hF := itp c51 hF
                              refine lv_bipush (v := 21) hx hb dL_areCurvesSo_286 (by decide) ?_
                              refine lv_aload_n hx hb dL_areCurvesSo_288 rfl (lv_at hl 0 rfl) ?_
                              refine lv_iload hx hb dL_areCurvesSo_289 (lv_at hl 8 rfl) ?_
                              obtain ⟨o52, h53, hF⟩ := obd hF
                              refine wxRVi (As := [.int o15]) (rest := [.int (21 : Int32)]) (b := (x 0)) ⟨hx, hb, hml, hown, hts⟩ (met_X5_rowOf l z0 hst dC dI cyI cyO x tr an fl fs N o21.2.1 o21.2.2 o15 o52 h53) (cwV 1 hts (gV w_methodLink_L_44 w_instanceMethod_X5_rowOf w_selects_X5_rowOf w_initialized_X5 w_code_X5_rowOf) rfl rfl rfl (by decide +kernel) ⟨Nat.le_of_ble_eq_true rfl, Nat.le_of_ble_eq_true rfl⟩) (va_recv hK.1 hP (ci := 5) (q0 := 1) rfl rfl) hP hK hZ hAz [1, 2, 3, 4, 5, 6, 7, 8, 9, 10, 11, 12, 13, 14, 15, 16, 17, 18, 19, 20, 21] rfl rfl hl.1 (Nat.le_of_ble_eq_true rfl) dL_areCurvesSo_291 ⟨(show _ ≤ 178 from by omega), (show _ ≤ 1068 from by omega)⟩ hS (fun k ce q9 H locs hw hP hS h9 hv9 hc9 => ?_) (fun ro52 H locs hw hP hS => ?_)
                              · have hw := hw.symm
                                subst hw
                                have hF := exc_l hF
                                cases hF
                              · skip
                                have hw := hw.symm
                                subst hw
                                have hF := exc_r hF
                                refine lv_imul hx hb dL_areCurvesSo_294 ?_
                                refine lv_aload_n hx hb dL_areCurvesSo_295 rfl (lv_at hl 0 rfl) ?_
                                refine lv_iload hx hb dL_areCurvesSo_296 (lv_at hl 8 rfl) ?_
                                obtain ⟨o54, h55, hF⟩ := obd hF
                                refine wxRVi (As := [.int o15]) (rest := [.int ((21 : Int32) * ro52)]) (b := (x 0)) ⟨hx, hb, hml, hown, hts⟩ (met_X5_columnOf l z0 hst dC dI cyI cyO x tr an fl fs N o21.2.1 o21.2.2 o15 o54 h55) (cwV 1 hts (gV w_methodLink_L_134 w_instanceMethod_X5_columnOf w_selects_X5_columnOf w_initialized_X5 w_code_X5_columnOf) rfl rfl rfl (by decide +kernel) ⟨Nat.le_of_ble_eq_true rfl, Nat.le_of_ble_eq_true rfl⟩) (va_recv hK.1 hP (ci := 5) (q0 := 1) rfl rfl) hP hK hZ hAz [1, 2, 3, 4, 5, 6, 7, 8, 9, 10, 11, 12, 13, 14, 15, 16, 17, 18, 19, 20, 21] rfl rfl hl.1 (Nat.le_of_ble_eq_true rfl) dL_areCurvesSo_298 ⟨(show _ ≤ 178 from by omega), (show _ ≤ 1068 from by omega)⟩ hS (fun k ce q9 H locs hw hP hS h9 hv9 hc9 => ?_) (fun ro54 H locs hw hP hS => ?_)
                                · have hw := hw.symm
                                  subst hw
                                  have hF := exc_l hF
                                  cases hF
                                · skip
                                  have hw := hw.symm
                                  subst hw
                                  have hF := exc_r hF
                                  refine lv_iadd hx hb dL_areCurvesSo_301 ?_
                                  refine lv_aload_n hx hb dL_areCurvesSo_302 rfl (lv_at hl 0 rfl) ?_
                                  refine lv_iload_n hx hb dL_areCurvesSo_303 rfl (lv_at hl 2 rfl) ?_
                                  refine lv_iload hx hb dL_areCurvesSo_304 (lv_at hl 4 rfl) ?_
                                  refine lv_iload hx hb dL_areCurvesSo_306 (lv_at hl 3 rfl) ?_
                                  refine lv_iload hx hb dL_areCurvesSo_308 (lv_at hl 4 rfl) ?_
                                  obtain ⟨o56, h57, hF⟩ := obd hF
                                  refine wxRVi (As := [.int (o1 - (9 : Int32)), .int ((15 : Int32) + o5), .int (o3 - (3 : Int32)), .int ((15 : Int32) + o5)]) (rest := [.int (((21 : Int32) * ro52) + ro54)]) (b := (x 0)) ⟨hx, hb, hml, hown, hts⟩ (met_X5_curveBySteps l z0 hst dC dI cyI cyO x tr an fl fs N o21.2.1 o21.2.2 (o1 - (9 : Int32)) ((15 : Int32) + o5) (o3 - (3 : Int32)) ((15 : Int32) + o5) o56 h57) (cwV 4 hts (gV w_methodLink_L_183 w_instanceMethod_X5_curveBySteps w_selects_X5_curveBySteps w_initialized_X5 w_code_X5_curveBySteps) rfl rfl rfl (by decide +kernel) ⟨Nat.le_of_ble_eq_true rfl, Nat.le_of_ble_eq_true rfl⟩) (va_recv hK.1 hP (ci := 5) (q0 := 1) rfl rfl) hP hK hZ hAz [1, 2, 3, 4, 5, 6, 7, 8, 9, 10, 11, 12, 13, 14, 15, 16, 17, 18, 19, 20, 21] rfl rfl hl.1 (Nat.le_of_ble_eq_true rfl) dL_areCurvesSo_310 ⟨(show _ ≤ 178 from by omega), (show _ ≤ 1068 from by omega)⟩ hS (fun k ce q9 H locs hw hP hS h9 hv9 hc9 => ?_) (fun ro56 H locs hw hP hS => ?_)
                                  · have hw := hw.symm
                                    subst hw
                                    have hF := exc_l hF
                                    cases hF
                                  · skip
                                    have hw := hw.symm
                                    subst hw
                                    have hF := exc_r hF
                                    refine lv_icmp_ne (tgt := 355) hx hb dL_areCurvesSo_313 (by decide) (fun c58 => ?_) (fun c58 => ?_)
                                    · have hF := itn c58 hF
                                      refine W.widen (k := (24 + 2 * (72 - (n45 + 1)))) (n := (144 + 12 * (72 - (n45 + 1)))) (by omega) (by omega) ?_
                                      exact hJ355 () _ _ _ hP hD hS (lv_sub hl [0, 6, 8] rfl) hF
                                    · have hF := itp c58 hF
                                      refine W.widen (k := (23 + 2 * (72 - (n45 + 1)))) (n := (138 + 12 * (72 - (n45 + 1)))) (by omega) (by omega) ?_
                                      exact hJ316 () _ _ _ hP hD hS (lv_sub hl [0, 6, 7, 8, 9] rfl) hF
                          · have hF := itn c49 hF
                            refine lv_aload_n hx hb dL_areCurvesSo_270 rfl (lv_at hl 1 rfl) ?_
                            refine lv_iconst (v := 0) hx hb dL_areCurvesSo_271 (by decide) ?_
                            refine va_iald hx hb hK.1 hP 0 0 rfl rfl (i := (0 : Int32)) (show ixok (0 : Int32) 1 by decide) dL_areCurvesSo_272 ?_
                            refine lv_iconst (v := 2) hx hb dL_areCurvesSo_273 (by decide) ?_
                            refine lv_icmp_ne (tgt := 355) hx hb dL_areCurvesSo_274 (by decide) (fun c60 => ?_) (fun c60 => ?_)
                            · have hF := itn c60 hF
                              refine W.widen (k := (24 + 2 * (72 - (n45 + 1)))) (n := (144 + 12 * (72 - (n45 + 1)))) (by omega) (by omega) ?_
                              exact hJ355 () _ _ _ hP hD hS (lv_sub hl [0, 6, 8] rfl) hF
                            · have hF := itp c60 hF
                              refine lv_goto (tgt := 316) hx hb dL_areCurvesSo_277 (by decide) ?_
                              refine W.widen (k := (23 + 2 * (72 - (n45 + 1)))) (n := (138 + 12 * (72 - (n45 + 1)))) (by omega) (by omega) ?_
                              exact hJ316 () _ _ _ hP hD hS (lv_sub hl [0, 6, 7, 8, 9] rfl) hF
                    refine lv_if_ne (tgt := 240) hx hb dL_areCurvesSo_233 (by decide) (fun c61 => ?_) (fun c61 => ?_)
                    · have hF := itn c61 hF
                      refine lv_aload_n hx hb dL_areCurvesSo_240 rfl (lv_at hl 7 rfl) ?_
                      obtain ⟨o62, h63, hF⟩ := obd hF
                      refine wxRVi (As := []) (rest := [.int ro13]) (b := (x 0)) ⟨hx, hb, hml, hown, hts⟩ (met_X5_leader l z0 hst dC dI cyI cyO x tr an fl fs N o21.2.1 o21.2.2  o62 h63) (cwV 0 hts (gV w_methodLink_L_50 w_instanceMethod_X5_leader w_selects_X5_leader w_initialized_X5 w_code_X5_leader) rfl rfl rfl (by decide +kernel) ⟨Nat.le_of_ble_eq_true rfl, Nat.le_of_ble_eq_true rfl⟩) (va_recv hK.1 hP (ci := 5) (q0 := 1) rfl rfl) hP hK hZ hAz [1, 2, 3, 4, 5, 6, 7, 8, 9, 10, 11, 12, 13, 14, 15, 16, 17, 18, 19, 20, 21] rfl rfl hl.1 (Nat.le_of_ble_eq_true rfl) dL_areCurvesSo_241 ⟨(show _ ≤ 178 from by omega), (show _ ≤ 1068 from by omega)⟩ hS (fun k ce q9 H locs hw hP hS h9 hv9 hc9 => ?_) (fun ro62 H locs hw hP hS => ?_)
                      · have hw := hw.symm
                        subst hw
                        have hF := exc_l hF
                        cases hF
                      · skip
                        have hw := hw.symm
                        subst hw
                        have hF := exc_r hF
                        refine lv_iload hx hb dL_areCurvesSo_244 (lv_at hl 6 rfl) ?_
                        refine lv_icmp_ne (tgt := 254) hx hb dL_areCurvesSo_246 (by decide) (fun c64 => ?_) (fun c64 => ?_)
                        · have hF := itn c64 hF
                          refine lv_iload hx hb dL_areCurvesSo_254 (lv_at hl 0 rfl) ?_
                          refine lv_ineg hx hb dL_areCurvesSo_256 ?_
                          refine W.widen (k := (18 + 2 * (72 - (n45 + 1)))) (n := (108 + 12 * (72 - (n45 + 1)))) (by omega) (by omega) ?_
                          exact hJ257 (-o21.1) _ _ _ hP hD hS (lv_sub hl [7, 8, 9, 10, 11, 12, 6, 5, 3, 2] rfl) hF
                        · have hF := itp c64 hF
                          refine lv_iload hx hb dL_areCurvesSo_249 (lv_at hl 0 rfl) ?_
                          refine lv_goto (tgt := 257) hx hb dL_areCurvesSo_251 (by decide) ?_
                          refine W.widen (k := (18 + 2 * (72 - (n45 + 1)))) (n := (108 + 12 * (72 - (n45 + 1)))) (by omega) (by omega) ?_
                          exact hJ257 o21.1 _ _ _ hP hD hS (lv_sub hl [7, 8, 9, 10, 11, 12, 6, 5, 3, 2] rfl) hF
                    · have hF := itp c61 hF
                      refine lv_iconst (v := 0) hx hb dL_areCurvesSo_236 (by decide) ?_
                      refine lv_goto (tgt := 257) hx hb dL_areCurvesSo_237 (by decide) ?_
                      refine W.widen (k := (18 + 2 * (72 - (n45 + 1)))) (n := (108 + 12 * (72 - (n45 + 1)))) (by omega) (by omega) ?_
                      exact hJ257 (0 : Int32) _ _ _ hP hD hS (lv_sub hl [7, 8, 9, 10, 11, 12, 6, 5, 3, 2] rfl) hF
          · have hF := itp c10 hF
            refine W.widen (k := (9 + 2 * (72 - (n45 + 1)))) (n := (54 + 12 * (72 - (n45 + 1)))) (by omega) (by omega) ?_
            exact hJ157 () _ _ _ hP hD hS (lv_sub hl [7] rfl) hF
      refine lv_icmp_gt (tgt := 137) hx hb dL_areCurvesSo_49 (by decide) (fun c65 => ?_) (fun c65 => ?_)
      · have hF := itp c65 hF
        refine W.widen (k := (0 + 2 * (72 - (n45 + 1)))) (n := (0 + 12 * (72 - (n45 + 1)))) (by omega) (by omega) ?_
        exact hJ137 () _ _ _ hP hD hS (lv_sub hl [0, 1, 2, 3, 4, 5, 6] rfl) hF
      · have hF := itn c65 hF
        refine lv_iload hx hb dL_areCurvesSo_52 (lv_at hl 6 rfl) ?_
        refine lv_if_eq (tgt := 137) hx hb dL_areCurvesSo_54 (by decide) (fun c66 => ?_) (fun c66 => ?_)
        · have hF := itp c66 hF
          refine W.widen (k := (0 + 2 * (72 - (n45 + 1)))) (n := (0 + 12 * (72 - (n45 + 1)))) (by omega) (by omega) ?_
          exact hJ137 () _ _ _ hP hD hS (lv_sub hl [0, 1, 2, 3, 4, 5, 6] rfl) hF
        · have hF := itn c66 hF
          refine lv_aload_n hx hb dL_areCurvesSo_57 rfl (lv_at hl 0 rfl) ?_
          refine lv_iload_n hx hb dL_areCurvesSo_58 rfl (lv_at hl 2 rfl) ?_
          refine lv_iload hx hb dL_areCurvesSo_59 (lv_at hl 4 rfl) ?_
          refine lv_iload hx hb dL_areCurvesSo_61 (lv_at hl 3 rfl) ?_
          refine lv_iload hx hb dL_areCurvesSo_63 (lv_at hl 7 rfl) ?_
          obtain ⟨o67, h68, hF⟩ := obd hF
          refine wxRVi (As := [.int (o1 - (9 : Int32)), .int ((15 : Int32) + o5), .int (o3 - (3 : Int32)), .int s45.2.2]) (rest := []) (b := (x 0)) ⟨hx, hb, hml, hown, hts⟩ (met_X5_curveBySteps l z0 hst dC dI cyI cyO x tr an fl fs N xv nv (o1 - (9 : Int32)) ((15 : Int32) + o5) (o3 - (3 : Int32)) s45.2.2 o67 h68) (cwV 4 hts (gV w_methodLink_L_183 w_instanceMethod_X5_curveBySteps w_selects_X5_curveBySteps w_initialized_X5 w_code_X5_curveBySteps) rfl rfl rfl (by decide +kernel) ⟨Nat.le_of_ble_eq_true rfl, Nat.le_of_ble_eq_true rfl⟩) (va_recv hK.1 hP (ci := 5) (q0 := 1) rfl rfl) hP hK hZ hAz [1, 2, 3, 4, 5, 6, 7, 8, 9, 10, 11, 12, 13, 14, 15, 16, 17, 18, 19, 20, 21] rfl rfl hl.1 (Nat.le_of_ble_eq_true rfl) dL_areCurvesSo_65 ⟨(show _ ≤ 178 from by omega), (show _ ≤ 1068 from by omega)⟩ hS (fun k ce q9 H locs hw hP hS h9 hv9 hc9 => ?_) (fun ro67 H locs hw hP hS => ?_)
          · have hw := hw.symm
            subst hw
            have hF := exc_l hF
            cases hF
          · skip
            have hw := hw.symm
            subst hw
            have hF := exc_r hF
            refine lv_istore (lv' := [(9, .int ro67), (0, .ref (x 0)), (2, .ref qo), (3, .int (o1 - (9 : Int32))), (4, .int (o3 - (3 : Int32))), (5, .int ((15 : Int32) + o5)), (6, .int s45.1), (7, .int s45.2.1), (8, .int s45.2.2)]) hx hb dL_areCurvesSo_68 hl (by decide) rfl (fun ls hl => ?_)
            refine lv_iload hx hb dL_areCurvesSo_70 (lv_at hl 0 rfl) ?_
            refine lv_aload_n hx hb dL_areCurvesSo_72 rfl (lv_at hl 1 rfl) ?_
            refine lv_iload_n hx hb dL_areCurvesSo_73 rfl (lv_at hl 3 rfl) ?_
            refine lv_iload hx hb dL_areCurvesSo_74 (lv_at hl 5 rfl) ?_
            refine lv_iload hx hb dL_areCurvesSo_76 (lv_at hl 4 rfl) ?_
            refine lv_iload hx hb dL_areCurvesSo_78 (lv_at hl 8 rfl) ?_
            obtain ⟨o69, h70, hF⟩ := obd hF
            refine wxRVi (As := [.int (o1 - (9 : Int32)), .int ((15 : Int32) + o5), .int (o3 - (3 : Int32)), .int s45.2.2]) (rest := [.int ro67]) (b := (x 0)) ⟨hx, hb, hml, hown, hts⟩ (met_X5_curveByFormula l z0 hst dC dI cyI cyO x tr an fl fs N xv nv (o1 - (9 : Int32)) ((15 : Int32) + o5) (o3 - (3 : Int32)) s45.2.2 o69 h70) (cwV 4 hts (gV w_methodLink_L_187 w_instanceMethod_X5_curveByFormula w_selects_X5_curveByFormula w_initialized_X5 w_code_X5_curveByFormula) rfl rfl rfl (by decide +kernel) ⟨Nat.le_of_ble_eq_true rfl, Nat.le_of_ble_eq_true rfl⟩) (va_recv hK.1 hP (ci := 5) (q0 := 1) rfl rfl) hP hK hZ hAz [1, 2, 3, 4, 5, 6, 7, 8, 9, 10, 11, 12, 13, 14, 15, 16, 17, 18, 19, 20, 21] rfl rfl hl.1 (Nat.le_of_ble_eq_true rfl) dL_areCurvesSo_80 ⟨(show _ ≤ 178 from by omega), (show _ ≤ 1068 from by omega)⟩ hS (fun k ce q9 H locs hw hP hS h9 hv9 hc9 => ?_) (fun ro69 H locs hw hP hS => ?_)
            · have hw := hw.symm
              subst hw
              have hF := exc_l hF
              cases hF
            · skip
              have hw := hw.symm
              subst hw
              have hF := exc_r hF
              obtain ⟨j117, hj117, hF⟩ := jn_use hF
              have hJ117 : ∀ (s117 : Int32) (H : Heap) (locs : List Loc) (ls : Array Slot) (hz_117_s0 : b01 s117), va_P (dC, dI) vwCl (([[cI cyI qo 1 fo], (cXo x an tr xv), (cH cyO (x 1) (x 2) 2 fl), (cXk cyI x xv), (cH cyO (x 4) (x 5) 6 fs), (cT cyI x (X_text xv)), (cSo an nv), (cG cyI an (S_green nv)), (cV cyI an (S_score nv)), (cSo tr tv), (cG cyI tr (S_green tv)), (cV cyI tr (S_score tv)), (cS cyI b0 v0), (cS cyI b1 v1), (cS cyI b2 v2), (cS cyI b3 v3), (cS cyI b4 v4), (cS cyI b5 v5)] : List va_W).flatten) H → va_D A (([[cI cyI qo 1 fo], (cXo x an tr xv), (cH cyO (x 1) (x 2) 2 fl), (cXk cyI x xv), (cH cyO (x 4) (x 5) 6 fs), (cT cyI x (X_text xv)), (cSo an nv), (cG cyI an (S_green nv)), (cV cyI an (S_score nv)), (cSo tr tv), (cG cyI tr (S_green tv)), (cV cyI tr (S_score tv)), (cS cyI b0 v0), (cS cyI b1 v1), (cS cyI b2 v2), (cS cyI b3 v3), (cS cyI b4 v4), (cS cyI b5 v5)] : List va_W).flatten) → va_S A s.heap H locs → lv_has ls 15 [(0, .ref (x 0)), (2, .ref qo), (3, .int (o1 - (9 : Int32))), (4, .int (o3 - (3 : Int32))), (5, .int ((15 : Int32) + o5)), (8, .int s45.2.2), (9, .int ro67)] → j117 s117 = some out → W p l e (headSpec (Cond.code yL_areCurvesSo cL_areCurvesSo 15 (some .boolean) :: wT) ({ frames := 9, cells := 178, slots := 1068, locals := 158 } : Room)).room s m ([.ref (x 0), .int p2, .ref qo] : List Value).toArray below meth c H locs (2 + 2 * (72 - (n45 + 1))) (12 + 12 * (72 - (n45 + 1))) (MQ below (va_Qi (fun (r : Int32) (u : (Nat → Int32) × XV × SV × SV × SV × SV × SV × SV × SV × SV) => (r, u) = out ∧ b01 r) (fun u t => va_P (dC, dI) vwCl (([[cI cyI qo 1 u.1], (cXo x an tr u.2.1), (cH cyO (x 1) (x 2) 2 fl), (cXk cyI x u.2.1), (cH cyO (x 4) (x 5) 6 fs), (cT cyI x (X_text u.2.1)), (cSo an u.2.2.1), (cG cyI an (S_green u.2.2.1)), (cV cyI an (S_score u.2.2.1)), (cSo tr u.2.2.2.1), (cG cyI tr (S_green u.2.2.2.1)), (cV cyI tr (S_score u.2.2.2.1)), (cS cyI b0 u.2.2.2.2.1), (cS cyI b1 u.2.2.2.2.2.1), (cS cyI b2 u.2.2.2.2.2.2.1), (cS cyI b3 u.2.2.2.2.2.2.2.1), (cS cyI b4 u.2.2.2.2.2.2.2.2.1), (cS cyI b5 u.2.2.2.2.2.2.2.2.2)] : List va_W).flatten) t.heap ∧ va_D A (([[cI cyI qo 1 u.1], (cXo x an tr u.2.1), (cH cyO (x 1) (x 2) 2 fl), (cXk cyI x u.2.1), (cH cyO (x 4) (x 5) 6 fs), (cT cyI x (X_text u.2.1)), (cSo an u.2.2.1), (cG cyI an (S_green u.2.2.1)), (cV cyI an (S_score u.2.2.1)), (cSo tr u.2.2.2.1), (cG cyI tr (S_green u.2.2.2.1)), (cV cyI tr (S_score u.2.2.2.1)), (cS cyI b0 u.2.2.2.2.1), (cS cyI b1 u.2.2.2.2.2.1), (cS cyI b2 u.2.2.2.2.2.2.1), (cS cyI b3 u.2.2.2.2.2.2.2.1), (cS cyI b4 u.2.2.2.2.2.2.2.2.1), (cS cyI b5 u.2.2.2.2.2.2.2.2.2)] : List va_W).flatten)) A) ([.ref (x 0), .int p2, .ref qo] : List Value).toArray s 178 1068 A) (F0 m 117 ls [.int s117]) := by
                intro s117 H locs ls hz_117_s0 hP hD hS hl hF
                have hF := (congrFun hj117 s117).symm.trans hF
                refine lv_istore (lv' := [(7, .int s117), (0, .ref (x 0)), (2, .ref qo), (3, .int (o1 - (9 : Int32))), (4, .int (o3 - (3 : Int32))), (5, .int ((15 : Int32) + o5)), (8, .int s45.2.2), (9, .int ro67)]) hx hb dL_areCurvesSo_117 hl (by decide) rfl (fun ls hl => ?_)
                refine lv_iload hx hb dL_areCurvesSo_119 (lv_at hl 7 rfl) ?_
                obtain ⟨j129, hj129, hF⟩ := jn_use hF
                have hJ129 : ∀ (s129 : Int32) (H : Heap) (locs : List Loc) (ls : Array Slot) (hz_129_s0 : b01 s129), va_P (dC, dI) vwCl (([[cI cyI qo 1 fo], (cXo x an tr xv), (cH cyO (x 1) (x 2) 2 fl), (cXk cyI x xv), (cH cyO (x 4) (x 5) 6 fs), (cT cyI x (X_text xv)), (cSo an nv), (cG cyI an (S_green nv)), (cV cyI an (S_score nv)), (cSo tr tv), (cG cyI tr (S_green tv)), (cV cyI tr (S_score tv)), (cS cyI b0 v0), (cS cyI b1 v1), (cS cyI b2 v2), (cS cyI b3 v3), (cS cyI b4 v4), (cS cyI b5 v5)] : List va_W).flatten) H → va_D A (([[cI cyI qo 1 fo], (cXo x an tr xv), (cH cyO (x 1) (x 2) 2 fl), (cXk cyI x xv), (cH cyO (x 4) (x 5) 6 fs), (cT cyI x (X_text xv)), (cSo an nv), (cG cyI an (S_green nv)), (cV cyI an (S_score nv)), (cSo tr tv), (cG cyI tr (S_green tv)), (cV cyI tr (S_score tv)), (cS cyI b0 v0), (cS cyI b1 v1), (cS cyI b2 v2), (cS cyI b3 v3), (cS cyI b4 v4), (cS cyI b5 v5)] : List va_W).flatten) → va_S A s.heap H locs → lv_has ls 15 [(0, .ref (x 0)), (2, .ref qo), (3, .int (o1 - (9 : Int32))), (4, .int (o3 - (3 : Int32))), (5, .int ((15 : Int32) + o5)), (7, .int s117), (8, .int s45.2.2)] → j129 s129 = some out → W p l e (headSpec (Cond.code yL_areCurvesSo cL_areCurvesSo 15 (some .boolean) :: wT) ({ frames := 9, cells := 178, slots := 1068, locals := 158 } : Room)).room s m ([.ref (x 0), .int p2, .ref qo] : List Value).toArray below meth c H locs (2 + 2 * (72 - (n45 + 1))) (12 + 12 * (72 - (n45 + 1))) (MQ below (va_Qi (fun (r : Int32) (u : (Nat → Int32) × XV × SV × SV × SV × SV × SV × SV × SV × SV) => (r, u) = out ∧ b01 r) (fun u t => va_P (dC, dI) vwCl (([[cI cyI qo 1 u.1], (cXo x an tr u.2.1), (cH cyO (x 1) (x 2) 2 fl), (cXk cyI x u.2.1), (cH cyO (x 4) (x 5) 6 fs), (cT cyI x (X_text u.2.1)), (cSo an u.2.2.1), (cG cyI an (S_green u.2.2.1)), (cV cyI an (S_score u.2.2.1)), (cSo tr u.2.2.2.1), (cG cyI tr (S_green u.2.2.2.1)), (cV cyI tr (S_score u.2.2.2.1)), (cS cyI b0 u.2.2.2.2.1), (cS cyI b1 u.2.2.2.2.2.1), (cS cyI b2 u.2.2.2.2.2.2.1), (cS cyI b3 u.2.2.2.2.2.2.2.1), (cS cyI b4 u.2.2.2.2.2.2.2.2.1), (cS cyI b5 u.2.2.2.2.2.2.2.2.2)] : List va_W).flatten) t.heap ∧ va_D A (([[cI cyI qo 1 u.1], (cXo x an tr u.2.1), (cH cyO (x 1) (x 2) 2 fl), (cXk cyI x u.2.1), (cH cyO (x 4) (x 5) 6 fs), (cT cyI x (X_text u.2.1)), (cSo an u.2.2.1), (cG cyI an (S_green u.2.2.1)), (cV cyI an (S_score u.2.2.1)), (cSo tr u.2.2.2.1), (cG cyI tr (S_green u.2.2.2.1)), (cV cyI tr (S_score u.2.2.2.1)), (cS cyI b0 u.2.2.2.2.1), (cS cyI b1 u.2.2.2.2.2.1), (cS cyI b2 u.2.2.2.2.2.2.1), (cS cyI b3 u.2.2.2.2.2.2.2.1), (cS cyI b4 u.2.2.2.2.2.2.2.2.1), (cS cyI b5 u.2.2.2.2.2.2.2.2.2)] : List va_W).flatten)) A) ([.ref (x 0), .int p2, .ref qo] : List Value).toArray s 178 1068 A) (F0 m 129 ls [.int s129]) := by
                  intro s129 H locs ls hz_129_s0 hP hD hS hl hF
                  have hF := (congrFun hj129 s129).symm.trans hF
                  refine lv_istore (lv' := [(6, .int s129), (0, .ref (x 0)), (2, .ref qo), (3, .int (o1 - (9 : Int32))), (4, .int (o3 - (3 : Int32))), (5, .int ((15 : Int32) + o5)), (7, .int s117), (8, .int s45.2.2)]) hx hb dL_areCurvesSo_129 hl (by decide) rfl (fun ls hl => ?_)
                  refine lv_iinc (v := (s45.2.2 + (1 : Int32))) (lv' := [(8, .int (s45.2.2 + (1 : Int32))), (6, .int s129), (0, .ref (x 0)), (2, .ref qo), (3, .int (o1 - (9 : Int32))), (4, .int (o3 - (3 : Int32))), (5, .int ((15 : Int32) + o5)), (7, .int s117)]) hx hb dL_areCurvesSo_131 hl (k := 7) rfl rfl (by decide) rfl (fun ls hl => ?_)
                  refine lv_goto (tgt := 45) hx hb dL_areCurvesSo_134 (by decide) ?_
                  refine W.widen (k := (0 + 2 * (72 - (n45)))) (n := (0 + 12 * (72 - (n45)))) (by omega) (by omega) ?_
                  exact ih45 (by omega) (s129, s117, (s45.2.2 + (1 : Int32))) _ _ _ hz_129_s0 hz_117_s0 hP hD hS (lv_sub hl [2, 3, 4, 5, 6, 1, 7, 0] rfl) hF
                refine lv_if_ge (tgt := 128) hx hb dL_areCurvesSo_121 (by decide) (fun c71 => ?_) (fun c71 => ?_)
                · have hF := itp c71 hF
                  refine lv_iconst (v := 0) hx hb dL_areCurvesSo_128 (by decide) ?_
                  refine W.widen (k := (2 + 2 * (72 - (n45 + 1)))) (n := (12 + 12 * (72 - (n45 + 1)))) (by omega) (by omega) ?_
                  exact hJ129 (0 : Int32) _ _ _ b01_0 hP hD hS (lv_sub hl [1, 2, 3, 4, 5, 0, 6] rfl) hF
                · have hF := itn c71 hF
                  refine lv_iconst (v := 1) hx hb dL_areCurvesSo_124 (by decide) ?_
                  refine lv_goto (tgt := 129) hx hb dL_areCurvesSo_125 (by decide) ?_
                  refine W.widen (k := (2 + 2 * (72 - (n45 + 1)))) (n := (12 + 12 * (72 - (n45 + 1)))) (by omega) (by omega) ?_
                  exact hJ129 (1 : Int32) _ _ _ b01_1 hP hD hS (lv_sub hl [1, 2, 3, 4, 5, 0, 6] rfl) hF
              obtain ⟨j116, hj116, hF⟩ := jn_use hF
              have hJ116 : ∀ (s116 : Unit) (H : Heap) (locs : List Loc) (ls : Array Slot), va_P (dC, dI) vwCl (([[cI cyI qo 1 fo], (cXo x an tr xv), (cH cyO (x 1) (x 2) 2 fl), (cXk cyI x xv), (cH cyO (x 4) (x 5) 6 fs), (cT cyI x (X_text xv)), (cSo an nv), (cG cyI an (S_green nv)), (cV cyI an (S_score nv)), (cSo tr tv), (cG cyI tr (S_green tv)), (cV cyI tr (S_score tv)), (cS cyI b0 v0), (cS cyI b1 v1), (cS cyI b2 v2), (cS cyI b3 v3), (cS cyI b4 v4), (cS cyI b5 v5)] : List va_W).flatten) H → va_D A (([[cI cyI qo 1 fo], (cXo x an tr xv), (cH cyO (x 1) (x 2) 2 fl), (cXk cyI x xv), (cH cyO (x 4) (x 5) 6 fs), (cT cyI x (X_text xv)), (cSo an nv), (cG cyI an (S_green nv)), (cV cyI an (S_score nv)), (cSo tr tv), (cG cyI tr (S_green tv)), (cV cyI tr (S_score tv)), (cS cyI b0 v0), (cS cyI b1 v1), (cS cyI b2 v2), (cS cyI b3 v3), (cS cyI b4 v4), (cS cyI b5 v5)] : List va_W).flatten) → va_S A s.heap H locs → lv_has ls 15 [(0, .ref (x 0)), (2, .ref qo), (3, .int (o1 - (9 : Int32))), (4, .int (o3 - (3 : Int32))), (5, .int ((15 : Int32) + o5)), (8, .int s45.2.2), (9, .int ro67)] → j116 s116 = some out → W p l e (headSpec (Cond.code yL_areCurvesSo cL_areCurvesSo 15 (some .boolean) :: wT) ({ frames := 9, cells := 178, slots := 1068, locals := 158 } : Room)).room s m ([.ref (x 0), .int p2, .ref qo] : List Value).toArray below meth c H locs (2 + 2 * (72 - (n45 + 1))) (12 + 12 * (72 - (n45 + 1))) (MQ below (va_Qi (fun (r : Int32) (u : (Nat → Int32) × XV × SV × SV × SV × SV × SV × SV × SV × SV) => (r, u) = out ∧ b01 r) (fun u t => va_P (dC, dI) vwCl (([[cI cyI qo 1 u.1], (cXo x an tr u.2.1), (cH cyO (x 1) (x 2) 2 fl), (cXk cyI x u.2.1), (cH cyO (x 4) (x 5) 6 fs), (cT cyI x (X_text u.2.1)), (cSo an u.2.2.1), (cG cyI an (S_green u.2.2.1)), (cV cyI an (S_score u.2.2.1)), (cSo tr u.2.2.2.1), (cG cyI tr (S_green u.2.2.2.1)), (cV cyI tr (S_score u.2.2.2.1)), (cS cyI b0 u.2.2.2.2.1), (cS cyI b1 u.2.2.2.2.2.1), (cS cyI b2 u.2.2.2.2.2.2.1), (cS cyI b3 u.2.2.2.2.2.2.2.1), (cS cyI b4 u.2.2.2.2.2.2.2.2.1), (cS cyI b5 u.2.2.2.2.2.2.2.2.2)] : List va_W).flatten) t.heap ∧ va_D A (([[cI cyI qo 1 u.1], (cXo x an tr u.2.1), (cH cyO (x 1) (x 2) 2 fl), (cXk cyI x u.2.1), (cH cyO (x 4) (x 5) 6 fs), (cT cyI x (X_text u.2.1)), (cSo an u.2.2.1), (cG cyI an (S_green u.2.2.1)), (cV cyI an (S_score u.2.2.1)), (cSo tr u.2.2.2.1), (cG cyI tr (S_green u.2.2.2.1)), (cV cyI tr (S_score u.2.2.2.1)), (cS cyI b0 u.2.2.2.2.1), (cS cyI b1 u.2.2.2.2.2.1), (cS cyI b2 u.2.2.2.2.2.2.1), (cS cyI b3 u.2.2.2.2.2.2.2.1), (cS cyI b4 u.2.2.2.2.2.2.2.2.1), (cS cyI b5 u.2.2.2.2.2.2.2.2.2)] : List va_W).flatten)) A) ([.ref (x 0), .int p2, .ref qo] : List Value).toArray s 178 1068 A) (F0 m 116 ls []) := by
                intro s116 H locs ls hP hD hS hl hF
                have hF := (congrFun hj116 s116).symm.trans hF
                refine lv_iconst (v := 0) hx hb dL_areCurvesSo_116 (by decide) ?_
                refine W.widen (k := (2 + 2 * (72 - (n45 + 1)))) (n := (12 + 12 * (72 - (n45 + 1)))) (by omega) (by omega) ?_
                exact hJ117 (0 : Int32) _ _ _ b01_0 hP hD hS (lv_sub hl [0, 1, 2, 3, 4, 5, 6] rfl) hF
              refine lv_icmp_ne (tgt := 116) hx hb dL_areCurvesSo_83 (by decide) (fun c72 => ?_) (fun c72 => ?_)
              · have hF := itn c72 hF
                refine W.widen (k := (2 + 2 * (72 - (n45 + 1)))) (n := (12 + 12 * (72 - (n45 + 1)))) (by omega) (by omega) ?_
                exact hJ116 () _ _ _ hP hD hS (lv_sub hl [1, 2, 3, 4, 5, 8, 0] rfl) hF
              · have hF := itp c72 hF
                refine lv_iload hx hb dL_areCurvesSo_86 (lv_at hl 6 rfl) ?_
                obtain ⟨j97, hj97, hF⟩ := jn_use hF
                have hJ97 : ∀ (s97 : Unit) (H : Heap) (locs : List Loc) (ls : Array Slot), va_P (dC, dI) vwCl (([[cI cyI qo 1 fo], (cXo x an tr xv), (cH cyO (x 1) (x 2) 2 fl), (cXk cyI x xv), (cH cyO (x 4) (x 5) 6 fs), (cT cyI x (X_text xv)), (cSo an nv), (cG cyI an (S_green nv)), (cV cyI an (S_score nv)), (cSo tr tv), (cG cyI tr (S_green tv)), (cV cyI tr (S_score tv)), (cS cyI b0 v0), (cS cyI b1 v1), (cS cyI b2 v2), (cS cyI b3 v3), (cS cyI b4 v4), (cS cyI b5 v5)] : List va_W).flatten) H → va_D A (([[cI cyI qo 1 fo], (cXo x an tr xv), (cH cyO (x 1) (x 2) 2 fl), (cXk cyI x xv), (cH cyO (x 4) (x 5) 6 fs), (cT cyI x (X_text xv)), (cSo an nv), (cG cyI an (S_green nv)), (cV cyI an (S_score nv)), (cSo tr tv), (cG cyI tr (S_green tv)), (cV cyI tr (S_score tv)), (cS cyI b0 v0), (cS cyI b1 v1), (cS cyI b2 v2), (cS cyI b3 v3), (cS cyI b4 v4), (cS cyI b5 v5)] : List va_W).flatten) → va_S A s.heap H locs → lv_has ls 15 [(0, .ref (x 0)), (2, .ref qo), (3, .int (o1 - (9 : Int32))), (4, .int (o3 - (3 : Int32))), (5, .int ((15 : Int32) + o5)), (8, .int s45.2.2), (9, .int ro67)] → j97 s97 = some out → W p l e (headSpec (Cond.code yL_areCurvesSo cL_areCurvesSo 15 (some .boolean) :: wT) ({ frames := 9, cells := 178, slots := 1068, locals := 158 } : Room)).room s m ([.ref (x 0), .int p2, .ref qo] : List Value).toArray below meth c H locs (2 + 2 * (72 - (n45 + 1))) (12 + 12 * (72 - (n45 + 1))) (MQ below (va_Qi (fun (r : Int32) (u : (Nat → Int32) × XV × SV × SV × SV × SV × SV × SV × SV × SV) => (r, u) = out ∧ b01 r) (fun u t => va_P (dC, dI) vwCl (([[cI cyI qo 1 u.1], (cXo x an tr u.2.1), (cH cyO (x 1) (x 2) 2 fl), (cXk cyI x u.2.1), (cH cyO (x 4) (x 5) 6 fs), (cT cyI x (X_text u.2.1)), (cSo an u.2.2.1), (cG cyI an (S_green u.2.2.1)), (cV cyI an (S_score u.2.2.1)), (cSo tr u.2.2.2.1), (cG cyI tr (S_green u.2.2.2.1)), (cV cyI tr (S_score u.2.2.2.1)), (cS cyI b0 u.2.2.2.2.1), (cS cyI b1 u.2.2.2.2.2.1), (cS cyI b2 u.2.2.2.2.2.2.1), (cS cyI b3 u.2.2.2.2.2.2.2.1), (cS cyI b4 u.2.2.2.2.2.2.2.2.1), (cS cyI b5 u.2.2.2.2.2.2.2.2.2)] : List va_W).flatten) t.heap ∧ va_D A (([[cI cyI qo 1 u.1], (cXo x an tr u.2.1), (cH cyO (x 1) (x 2) 2 fl), (cXk cyI x u.2.1), (cH cyO (x 4) (x 5) 6 fs), (cT cyI x (X_text u.2.1)), (cSo an u.2.2.1), (cG cyI an (S_green u.2.2.1)), (cV cyI an (S_score u.2.2.1)), (cSo tr u.2.2.2.1), (cG cyI tr (S_green u.2.2.2.1)), (cV cyI tr (S_score u.2.2.2.1)), (cS cyI b0 u.2.2.2.2.1), (cS cyI b1 u.2.2.2.2.2.1), (cS cyI b2 u.2.2.2.2.2.2.1), (cS cyI b3 u.2.2.2.2.2.2.2.1), (cS cyI b4 u.2.2.2.2.2.2.2.2.1), (cS cyI b5 u.2.2.2.2.2.2.2.2.2)] : List va_W).flatten)) A) ([.ref (x 0), .int p2, .ref qo] : List Value).toArray s 178 1068 A) (F0 m 97 ls []) := by
                  intro s97 H locs ls hP hD hS hl hF
                  have hF := (congrFun hj97 s97).symm.trans hF
                  refine lv_iload hx hb dL_areCurvesSo_97 (lv_at hl 6 rfl) ?_
                  obtain ⟨j112, hj112, hF⟩ := jn_use hF
                  have hJ112 : ∀ (s112 : Unit) (H : Heap) (locs : List Loc) (ls : Array Slot), va_P (dC, dI) vwCl (([[cI cyI qo 1 fo], (cXo x an tr xv), (cH cyO (x 1) (x 2) 2 fl), (cXk cyI x xv), (cH cyO (x 4) (x 5) 6 fs), (cT cyI x (X_text xv)), (cSo an nv), (cG cyI an (S_green nv)), (cV cyI an (S_score nv)), (cSo tr tv), (cG cyI tr (S_green tv)), (cV cyI tr (S_score tv)), (cS cyI b0 v0), (cS cyI b1 v1), (cS cyI b2 v2), (cS cyI b3 v3), (cS cyI b4 v4), (cS cyI b5 v5)] : List va_W).flatten) H → va_D A (([[cI cyI qo 1 fo], (cXo x an tr xv), (cH cyO (x 1) (x 2) 2 fl), (cXk cyI x xv), (cH cyO (x 4) (x 5) 6 fs), (cT cyI x (X_text xv)), (cSo an nv), (cG cyI an (S_green nv)), (cV cyI an (S_score nv)), (cSo tr tv), (cG cyI tr (S_green tv)), (cV cyI tr (S_score tv)), (cS cyI b0 v0), (cS cyI b1 v1), (cS cyI b2 v2), (cS cyI b3 v3), (cS cyI b4 v4), (cS cyI b5 v5)] : List va_W).flatten) → va_S A s.heap H locs → lv_has ls 15 [(0, .ref (x 0)), (2, .ref qo), (3, .int (o1 - (9 : Int32))), (4, .int (o3 - (3 : Int32))), (5, .int ((15 : Int32) + o5)), (8, .int s45.2.2), (9, .int ro67)] → j112 s112 = some out → W p l e (headSpec (Cond.code yL_areCurvesSo cL_areCurvesSo 15 (some .boolean) :: wT) ({ frames := 9, cells := 178, slots := 1068, locals := 158 } : Room)).room s m ([.ref (x 0), .int p2, .ref qo] : List Value).toArray below meth c H locs (2 + 2 * (72 - (n45 + 1))) (12 + 12 * (72 - (n45 + 1))) (MQ below (va_Qi (fun (r : Int32) (u : (Nat → Int32) × XV × SV × SV × SV × SV × SV × SV × SV × SV) => (r, u) = out ∧ b01 r) (fun u t => va_P (dC, dI) vwCl (([[cI cyI qo 1 u.1], (cXo x an tr u.2.1), (cH cyO (x 1) (x 2) 2 fl), (cXk cyI x u.2.1), (cH cyO (x 4) (x 5) 6 fs), (cT cyI x (X_text u.2.1)), (cSo an u.2.2.1), (cG cyI an (S_green u.2.2.1)), (cV cyI an (S_score u.2.2.1)), (cSo tr u.2.2.2.1), (cG cyI tr (S_green u.2.2.2.1)), (cV cyI tr (S_score u.2.2.2.1)), (cS cyI b0 u.2.2.2.2.1), (cS cyI b1 u.2.2.2.2.2.1), (cS cyI b2 u.2.2.2.2.2.2.1), (cS cyI b3 u.2.2.2.2.2.2.2.1), (cS cyI b4 u.2.2.2.2.2.2.2.2.1), (cS cyI b5 u.2.2.2.2.2.2.2.2.2)] : List va_W).flatten) t.heap ∧ va_D A (([[cI cyI qo 1 u.1], (cXo x an tr u.2.1), (cH cyO (x 1) (x 2) 2 fl), (cXk cyI x u.2.1), (cH cyO (x 4) (x 5) 6 fs), (cT cyI x (X_text u.2.1)), (cSo an u.2.2.1), (cG cyI an (S_green u.2.2.1)), (cV cyI an (S_score u.2.2.1)), (cSo tr u.2.2.2.1), (cG cyI tr (S_green u.2.2.2.1)), (cV cyI tr (S_score u.2.2.2.1)), (cS cyI b0 u.2.2.2.2.1), (cS cyI b1 u.2.2.2.2.2.1), (cS cyI b2 u.2.2.2.2.2.2.1), (cS cyI b3 u.2.2.2.2.2.2.2.1), (cS cyI b4 u.2.2.2.2.2.2.2.2.1), (cS cyI b5 u.2.2.2.2.2.2.2.2.2)] : List va_W).flatten)) A) ([.ref (x 0), .int p2, .ref qo] : List Value).toArray s 178 1068 A) (F0 m 112 ls []) := by
                    intro s112 H locs ls hP hD hS hl hF
                    have hF := (congrFun hj112 s112).symm.trans hF
                    refine lv_iconst (v := 1) hx hb dL_areCurvesSo_112 (by decide) ?_
                    refine lv_goto (tgt := 117) hx hb dL_areCurvesSo_113 (by decide) ?_
                    refine W.widen (k := (2 + 2 * (72 - (n45 + 1)))) (n := (12 + 12 * (72 - (n45 + 1)))) (by omega) (by omega) ?_
                    exact hJ117 (1 : Int32) _ _ _ b01_1 hP hD hS (lv_sub hl [0, 1, 2, 3, 4, 5, 6] rfl) hF
                  refine lv_if_lt (tgt := 112) hx hb dL_areCurvesSo_99 (by decide) (fun c73 => ?_) (fun c73 => ?_)
                  · have hF := itp c73 hF
                    refine W.widen (k := (2 + 2 * (72 - (n45 + 1)))) (n := (12 + 12 * (72 - (n45 + 1)))) (by omega) (by omega) ?_
                    exact hJ112 () _ _ _ hP hD hS (lv_sub hl [0, 1, 2, 3, 4, 5, 6] rfl) hF
                  · have hF := itn c73 hF
                    refine lv_iload hx hb dL_areCurvesSo_102 (lv_at hl 6 rfl) ?_
                    refine lv_bipush (v := 21) hx hb dL_areCurvesSo_104 (by decide) ?_
                    refine lv_idiv hx hb dL_areCurvesSo_106 (by decide) ?_
                    refine lv_iload hx hb dL_areCurvesSo_107 (lv_at hl 5 rfl) ?_
                    refine lv_icmp_ne (tgt := 116) hx hb dL_areCurvesSo_109 (by decide) (fun c74 => ?_) (fun c74 => ?_)
                    · have hF := itn c74 hF
                      refine W.widen (k := (2 + 2 * (72 - (n45 + 1)))) (n := (12 + 12 * (72 - (n45 + 1)))) (by omega) (by omega) ?_
                      exact hJ116 () _ _ _ hP hD hS (lv_sub hl [0, 1, 2, 3, 4, 5, 6] rfl) hF
                    · have hF := itp c74 hF
                      refine W.widen (k := (2 + 2 * (72 - (n45 + 1)))) (n := (12 + 12 * (72 - (n45 + 1)))) (by omega) (by omega) ?_
                      exact hJ112 () _ _ _ hP hD hS (lv_sub hl [0, 1, 2, 3, 4, 5, 6] rfl) hF
                refine lv_if_eq (tgt := 97) hx hb dL_areCurvesSo_88 (by decide) (fun c75 => ?_) (fun c75 => ?_)
                · have hF := itp c75 hF
                  refine W.widen (k := (2 + 2 * (72 - (n45 + 1)))) (n := (12 + 12 * (72 - (n45 + 1)))) (by omega) (by omega) ?_
                  exact hJ97 () _ _ _ hP hD hS (lv_sub hl [1, 2, 3, 4, 5, 8, 0] rfl) hF
                · have hF := itn c75 hF
                  refine lv_iload hx hb dL_areCurvesSo_91 (lv_at hl 0 rfl) ?_
                  refine lv_iconst (v := -1) hx hb dL_areCurvesSo_93 (by decide) ?_
                  refine lv_icmp_ne (tgt := 116) hx hb dL_areCurvesSo_94 (by decide) (fun c76 => ?_) (fun c76 => ?_)
                  · have hF := itn c76 hF
                    refine W.widen (k := (2 + 2 * (72 - (n45 + 1)))) (n := (12 + 12 * (72 - (n45 + 1)))) (by omega) (by omega) ?_
                    exact hJ116 () _ _ _ hP hD hS (lv_sub hl [1, 2, 3, 4, 5, 8, 0] rfl) hF
                  · have hF := itp c76 hF
                    refine W.widen (k := (2 + 2 * (72 - (n45 + 1)))) (n := (12 + 12 * (72 - (n45 + 1)))) (by omega) (by omega) ?_
                    exact hJ97 () _ _ _ hP hD hS (lv_sub hl [1, 2, 3, 4, 5, 8, 0] rfl) hF
  refine W.widen (k := (0 + 2 * (72 - (72)))) (n := (0 + 12 * (72 - (72)))) (by omega) (by omega) ?_
  exact hL45 72 (Nat.le_refl _) ((0 : Int32), (1 : Int32), (0 : Int32)) _ _ _ b01_0 b01_1 hP hD hS (lv_sub hl [6, 8, 5, 4, 3, 2, 1, 0] rfl) hF
