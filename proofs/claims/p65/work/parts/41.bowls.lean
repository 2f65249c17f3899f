/-! written by program from the bytecode: what each method computes, and its contract -/

theorem dL_areBowlsSo_0 : decode cL_areBowlsSo 0 = .ok (.aload_n 0, 1) := by decide +kernel
theorem dL_areBowlsSo_1 : decode cL_areBowlsSo 1 = .ok (.invokevirtual 77, 3) := by decide +kernel
theorem dL_areBowlsSo_4 : decode cL_areBowlsSo 4 = .ok (.istore_n 1, 1) := by decide +kernel
theorem dL_areBowlsSo_5 : decode cL_areBowlsSo 5 = .ok (.iconst 0, 1) := by decide +kernel
theorem dL_areBowlsSo_6 : decode cL_areBowlsSo 6 = .ok (.istore_n 2, 1) := by decide +kernel
theorem dL_areBowlsSo_7 : decode cL_areBowlsSo 7 = .ok (.aload_n 0, 1) := by decide +kernel
theorem dL_areBowlsSo_8 : decode cL_areBowlsSo 8 = .ok (.invokevirtual 124, 3) := by decide +kernel
theorem dL_areBowlsSo_11 : decode cL_areBowlsSo 11 = .ok (.istore_n 3, 1) := by decide +kernel
theorem dL_areBowlsSo_12 : decode cL_areBowlsSo 12 = .ok (.iconst (-1), 1) := by decide +kernel
theorem dL_areBowlsSo_13 : decode cL_areBowlsSo 13 = .ok (.istore 4, 2) := by decide +kernel
theorem dL_areBowlsSo_15 : decode cL_areBowlsSo 15 = .ok (.aload_n 0, 1) := by decide +kernel
theorem dL_areBowlsSo_16 : decode cL_areBowlsSo 16 = .ok (.invokevirtual 74, 3) := by decide +kernel
theorem dL_areBowlsSo_19 : decode cL_areBowlsSo 19 = .ok (.istore 5, 2) := by decide +kernel
theorem dL_areBowlsSo_21 : decode cL_areBowlsSo 21 = .ok (.iload_n 1, 1) := by decide +kernel
theorem dL_areBowlsSo_22 : decode cL_areBowlsSo 22 = .ok (.iconst 2, 1) := by decide +kernel
theorem dL_areBowlsSo_23 : decode cL_areBowlsSo 23 = .ok (.aload_n 0, 1) := by decide +kernel
theorem dL_areBowlsSo_24 : decode cL_areBowlsSo 24 = .ok (.invokevirtual 80, 3) := by decide +kernel
theorem dL_areBowlsSo_27 : decode cL_areBowlsSo 27 = .ok (.imul, 1) := by decide +kernel
theorem dL_areBowlsSo_28 : decode cL_areBowlsSo 28 = .ok (.if_icmp .gt 119, 3) := by decide +kernel
theorem dL_areBowlsSo_31 : decode cL_areBowlsSo 31 = .ok (.iload 5, 2) := by decide +kernel
theorem dL_areBowlsSo_33 : decode cL_areBowlsSo 33 = .ok (.ifCond .ne 7, 3) := by decide +kernel
theorem dL_areBowlsSo_36 : decode cL_areBowlsSo 36 = .ok (.iload_n 1, 1) := by decide +kernel
theorem dL_areBowlsSo_37 : decode cL_areBowlsSo 37 = .ok (.ifCond .ne 110, 3) := by decide +kernel
theorem dL_areBowlsSo_40 : decode cL_areBowlsSo 40 = .ok (.iload_n 3, 1) := by decide +kernel
theorem dL_areBowlsSo_41 : decode cL_areBowlsSo 41 = .ok (.aload_n 0, 1) := by decide +kernel
theorem dL_areBowlsSo_42 : decode cL_areBowlsSo 42 = .ok (.invokevirtual 137, 3) := by decide +kernel
theorem dL_areBowlsSo_45 : decode cL_areBowlsSo 45 = .ok (.if_icmp .ne 102, 3) := by decide +kernel
theorem dL_areBowlsSo_48 : decode cL_areBowlsSo 48 = .ok (.iload_n 3, 1) := by decide +kernel
theorem dL_areBowlsSo_49 : decode cL_areBowlsSo 49 = .ok (.ifCond .lt 98, 3) := by decide +kernel
theorem dL_areBowlsSo_52 : decode cL_areBowlsSo 52 = .ok (.iload_n 3, 1) := by decide +kernel
theorem dL_areBowlsSo_53 : decode cL_areBowlsSo 53 = .ok (.bipush 8, 2) := by decide +kernel
theorem dL_areBowlsSo_55 : decode cL_areBowlsSo 55 = .ok (.if_icmp .gt 92, 3) := by decide +kernel
theorem dL_areBowlsSo_58 : decode cL_areBowlsSo 58 = .ok (.iload_n 3, 1) := by decide +kernel
theorem dL_areBowlsSo_59 : decode cL_areBowlsSo 59 = .ok (.ifCond .ne 7, 3) := by decide +kernel
theorem dL_areBowlsSo_62 : decode cL_areBowlsSo 62 = .ok (.iconst 1, 1) := by decide +kernel
theorem dL_areBowlsSo_63 : decode cL_areBowlsSo 63 = .ok (.goto 4, 3) := by decide +kernel
theorem dL_areBowlsSo_66 : decode cL_areBowlsSo 66 = .ok (.iconst 0, 1) := by decide +kernel
theorem dL_areBowlsSo_67 : decode cL_areBowlsSo 67 = .ok (.aload_n 0, 1) := by decide +kernel
theorem dL_areBowlsSo_68 : decode cL_areBowlsSo 68 = .ok (.iconst 2, 1) := by decide +kernel
theorem dL_areBowlsSo_69 : decode cL_areBowlsSo 69 = .ok (.iconst 0, 1) := by decide +kernel
theorem dL_areBowlsSo_70 : decode cL_areBowlsSo 70 = .ok (.invokestatic 93, 3) := by decide +kernel
theorem dL_areBowlsSo_73 : decode cL_areBowlsSo 73 = .ok (.bipush (-9), 2) := by decide +kernel
theorem dL_areBowlsSo_75 : decode cL_areBowlsSo 75 = .ok (.if_icmp .ne 7, 3) := by decide +kernel
theorem dL_areBowlsSo_78 : decode cL_areBowlsSo 78 = .ok (.iconst 1, 1) := by decide +kernel
theorem dL_areBowlsSo_79 : decode cL_areBowlsSo 79 = .ok (.goto 4, 3) := by decide +kernel
theorem dL_areBowlsSo_82 : decode cL_areBowlsSo 82 = .ok (.iconst 0, 1) := by decide +kernel
theorem dL_areBowlsSo_83 : decode cL_areBowlsSo 83 = .ok (.if_icmp .ne 64, 3) := by decide +kernel
theorem dL_areBowlsSo_86 : decode cL_areBowlsSo 86 = .ok (.iload 5, 2) := by decide +kernel
theorem dL_areBowlsSo_88 : decode cL_areBowlsSo 88 = .ok (.ifCond .eq 30, 3) := by decide +kernel
theorem dL_areBowlsSo_91 : decode cL_areBowlsSo 91 = .ok (.aload_n 0, 1) := by decide +kernel
theorem dL_areBowlsSo_92 : decode cL_areBowlsSo 92 = .ok (.invokevirtual 59, 3) := by decide +kernel
theorem dL_areBowlsSo_95 : decode cL_areBowlsSo 95 = .ok (.bipush 20, 2) := by decide +kernel
theorem dL_areBowlsSo_97 : decode cL_areBowlsSo 97 = .ok (.if_icmp .lt 50, 3) := by decide +kernel
theorem dL_areBowlsSo_100 : decode cL_areBowlsSo 100 = .ok (.aload_n 0, 1) := by decide +kernel
theorem dL_areBowlsSo_101 : decode cL_areBowlsSo 101 = .ok (.invokevirtual 59, 3) := by decide +kernel
theorem dL_areBowlsSo_104 : decode cL_areBowlsSo 104 = .ok (.bipush 60, 2) := by decide +kernel
theorem dL_areBowlsSo_106 : decode cL_areBowlsSo 106 = .ok (.if_icmp .gt 41, 3) := by decide +kernel
theorem dL_areBowlsSo_109 : decode cL_areBowlsSo 109 = .ok (.aload_n 0, 1) := by decide +kernel
theorem dL_areBowlsSo_110 : decode cL_areBowlsSo 110 = .ok (.invokevirtual 140, 3) := by decide +kernel
theorem dL_areBowlsSo_113 : decode cL_areBowlsSo 113 = .ok (.bipush 10, 2) := by decide +kernel
theorem dL_areBowlsSo_115 : decode cL_areBowlsSo 115 = .ok (.if_icmp .ne 32, 3) := by decide +kernel
theorem dL_areBowlsSo_118 : decode cL_areBowlsSo 118 = .ok (.aload_n 0, 1) := by decide +kernel
theorem dL_areBowlsSo_119 : decode cL_areBowlsSo 119 = .ok (.invokevirtual 83, 3) := by decide +kernel
theorem dL_areBowlsSo_122 : decode cL_areBowlsSo 122 = .ok (.ifCond .eq 21, 3) := by decide +kernel
theorem dL_areBowlsSo_125 : decode cL_areBowlsSo 125 = .ok (.iload 5, 2) := by decide +kernel
theorem dL_areBowlsSo_127 : decode cL_areBowlsSo 127 = .ok (.ifCond .eq 20, 3) := by decide +kernel
theorem dL_areBowlsSo_130 : decode cL_areBowlsSo 130 = .ok (.aload_n 0, 1) := by decide +kernel
theorem dL_areBowlsSo_131 : decode cL_areBowlsSo 131 = .ok (.invokevirtual 59, 3) := by decide +kernel
theorem dL_areBowlsSo_134 : decode cL_areBowlsSo 134 = .ok (.bipush 60, 2) := by decide +kernel
theorem dL_areBowlsSo_136 : decode cL_areBowlsSo 136 = .ok (.if_icmp .ne 11, 3) := by decide +kernel
theorem dL_areBowlsSo_139 : decode cL_areBowlsSo 139 = .ok (.iload_n 3, 1) := by decide +kernel
theorem dL_areBowlsSo_140 : decode cL_areBowlsSo 140 = .ok (.ifCond .ne 7, 3) := by decide +kernel
theorem dL_areBowlsSo_143 : decode cL_areBowlsSo 143 = .ok (.iconst 1, 1) := by decide +kernel
theorem dL_areBowlsSo_144 : decode cL_areBowlsSo 144 = .ok (.goto 4, 3) := by decide +kernel
theorem dL_areBowlsSo_147 : decode cL_areBowlsSo 147 = .ok (.iconst 0, 1) := by decide +kernel
theorem dL_areBowlsSo_148 : decode cL_areBowlsSo 148 = .ok (.istore 6, 2) := by decide +kernel
theorem dL_areBowlsSo_150 : decode cL_areBowlsSo 150 = .ok (.iconst 0, 1) := by decide +kernel
theorem dL_areBowlsSo_151 : decode cL_areBowlsSo 151 = .ok (.istore 7, 2) := by decide +kernel
theorem dL_areBowlsSo_153 : decode cL_areBowlsSo 153 = .ok (.iload 7, 2) := by decide +kernel
theorem dL_areBowlsSo_155 : decode cL_areBowlsSo 155 = .ok (.iload_n 1, 1) := by decide +kernel
theorem dL_areBowlsSo_156 : decode cL_areBowlsSo 156 = .ok (.if_icmp .ge 291, 3) := by decide +kernel
theorem dL_areBowlsSo_159 : decode cL_areBowlsSo 159 = .ok (.iload 6, 2) := by decide +kernel
theorem dL_areBowlsSo_161 : decode cL_areBowlsSo 161 = .ok (.ifCond .eq 286, 3) := by decide +kernel
theorem dL_areBowlsSo_164 : decode cL_areBowlsSo 164 = .ok (.aload_n 0, 1) := by decide +kernel
theorem dL_areBowlsSo_165 : decode cL_areBowlsSo 165 = .ok (.iconst 0, 1) := by decide +kernel
theorem dL_areBowlsSo_166 : decode cL_areBowlsSo 166 = .ok (.iload 7, 2) := by decide +kernel
theorem dL_areBowlsSo_168 : decode cL_areBowlsSo 168 = .ok (.invokestatic 93, 3) := by decide +kernel
theorem dL_areBowlsSo_171 : decode cL_areBowlsSo 171 = .ok (.istore 8, 2) := by decide +kernel
theorem dL_areBowlsSo_173 : decode cL_areBowlsSo 173 = .ok (.aload_n 0, 1) := by decide +kernel
theorem dL_areBowlsSo_174 : decode cL_areBowlsSo 174 = .ok (.iconst 1, 1) := by decide +kernel
theorem dL_areBowlsSo_175 : decode cL_areBowlsSo 175 = .ok (.iload 7, 2) := by decide +kernel
theorem dL_areBowlsSo_177 : decode cL_areBowlsSo 177 = .ok (.invokestatic 93, 3) := by decide +kernel
theorem dL_areBowlsSo_180 : decode cL_areBowlsSo 180 = .ok (.istore 9, 2) := by decide +kernel
theorem dL_areBowlsSo_182 : decode cL_areBowlsSo 182 = .ok (.aload_n 0, 1) := by decide +kernel
theorem dL_areBowlsSo_183 : decode cL_areBowlsSo 183 = .ok (.iload 7, 2) := by decide +kernel
theorem dL_areBowlsSo_185 : decode cL_areBowlsSo 185 = .ok (.invokevirtual 127, 3) := by decide +kernel
theorem dL_areBowlsSo_188 : decode cL_areBowlsSo 188 = .ok (.istore 10, 2) := by decide +kernel
theorem dL_areBowlsSo_190 : decode cL_areBowlsSo 190 = .ok (.iload_n 2, 1) := by decide +kernel
theorem dL_areBowlsSo_191 : decode cL_areBowlsSo 191 = .ok (.iload 10, 2) := by decide +kernel
theorem dL_areBowlsSo_193 : decode cL_areBowlsSo 193 = .ok (.iconst 2, 1) := by decide +kernel
theorem dL_areBowlsSo_194 : decode cL_areBowlsSo 194 = .ok (.if_icmp .ge 7, 3) := by decide +kernel
theorem dL_areBowlsSo_197 : decode cL_areBowlsSo 197 = .ok (.iconst 1, 1) := by decide +kernel
theorem dL_areBowlsSo_198 : decode cL_areBowlsSo 198 = .ok (.goto 4, 3) := by decide +kernel
theorem dL_areBowlsSo_201 : decode cL_areBowlsSo 201 = .ok (.iconst 0, 1) := by decide +kernel
theorem dL_areBowlsSo_202 : decode cL_areBowlsSo 202 = .ok (.iadd, 1) := by decide +kernel
theorem dL_areBowlsSo_203 : decode cL_areBowlsSo 203 = .ok (.istore_n 2, 1) := by decide +kernel
theorem dL_areBowlsSo_204 : decode cL_areBowlsSo 204 = .ok (.aload_n 0, 1) := by decide +kernel
theorem dL_areBowlsSo_205 : decode cL_areBowlsSo 205 = .ok (.iload 7, 2) := by decide +kernel
theorem dL_areBowlsSo_207 : decode cL_areBowlsSo 207 = .ok (.invokevirtual 143, 3) := by decide +kernel
theorem dL_areBowlsSo_210 : decode cL_areBowlsSo 210 = .ok (.aload_n 0, 1) := by decide +kernel
theorem dL_areBowlsSo_211 : decode cL_areBowlsSo 211 = .ok (.invokevirtual 100, 3) := by decide +kernel
theorem dL_areBowlsSo_214 : decode cL_areBowlsSo 214 = .ok (.iload 7, 2) := by decide +kernel
theorem dL_areBowlsSo_216 : decode cL_areBowlsSo 216 = .ok (.iadd, 1) := by decide +kernel
theorem dL_areBowlsSo_217 : decode cL_areBowlsSo 217 = .ok (.iconst 2, 1) := by decide +kernel
theorem dL_areBowlsSo_218 : decode cL_areBowlsSo 218 = .ok (.irem, 1) := by decide +kernel
theorem dL_areBowlsSo_219 : decode cL_areBowlsSo 219 = .ok (.if_icmp .ne 219, 3) := by decide +kernel
theorem dL_areBowlsSo_222 : decode cL_areBowlsSo 222 = .ok (.iload 10, 2) := by decide +kernel
theorem dL_areBowlsSo_224 : decode cL_areBowlsSo 224 = .ok (.iconst 2, 1) := by decide +kernel
theorem dL_areBowlsSo_225 : decode cL_areBowlsSo 225 = .ok (.if_icmp .ne 7, 3) := by decide +kernel
theorem dL_areBowlsSo_228 : decode cL_areBowlsSo 228 = .ok (.iconst 1, 1) := by decide +kernel
theorem dL_areBowlsSo_229 : decode cL_areBowlsSo 229 = .ok (.goto 4, 3) := by decide +kernel
theorem dL_areBowlsSo_232 : decode cL_areBowlsSo 232 = .ok (.iconst 0, 1) := by decide +kernel
theorem dL_areBowlsSo_233 : decode cL_areBowlsSo 233 = .ok (.iload 8, 2) := by decide +kernel
theorem dL_areBowlsSo_235 : decode cL_areBowlsSo 235 = .ok (.bipush (-9), 2) := by decide +kernel
theorem dL_areBowlsSo_237 : decode cL_areBowlsSo 237 = .ok (.if_icmp .ne 7, 3) := by decide +kernel
theorem dL_areBowlsSo_240 : decode cL_areBowlsSo 240 = .ok (.iconst 1, 1) := by decide +kernel
theorem dL_areBowlsSo_241 : decode cL_areBowlsSo 241 = .ok (.goto 4, 3) := by decide +kernel
theorem dL_areBowlsSo_244 : decode cL_areBowlsSo 244 = .ok (.iconst 0, 1) := by decide +kernel
theorem dL_areBowlsSo_245 : decode cL_areBowlsSo 245 = .ok (.if_icmp .ne 193, 3) := by decide +kernel
theorem dL_areBowlsSo_248 : decode cL_areBowlsSo 248 = .ok (.iload 10, 2) := by decide +kernel
theorem dL_areBowlsSo_250 : decode cL_areBowlsSo 250 = .ok (.iconst 1, 1) := by decide +kernel
theorem dL_areBowlsSo_251 : decode cL_areBowlsSo 251 = .ok (.if_icmp .ne 7, 3) := by decide +kernel
theorem dL_areBowlsSo_254 : decode cL_areBowlsSo 254 = .ok (.iconst 1, 1) := by decide +kernel
theorem dL_areBowlsSo_255 : decode cL_areBowlsSo 255 = .ok (.goto 4, 3) := by decide +kernel
theorem dL_areBowlsSo_258 : decode cL_areBowlsSo 258 = .ok (.iconst 0, 1) := by decide +kernel
theorem dL_areBowlsSo_259 : decode cL_areBowlsSo 259 = .ok (.iload 8, 2) := by decide +kernel
theorem dL_areBowlsSo_261 : decode cL_areBowlsSo 261 = .ok (.bipush 60, 2) := by decide +kernel
theorem dL_areBowlsSo_263 : decode cL_areBowlsSo 263 = .ok (.if_icmp .ne 7, 3) := by decide +kernel
theorem dL_areBowlsSo_266 : decode cL_areBowlsSo 266 = .ok (.iconst 1, 1) := by decide +kernel
theorem dL_areBowlsSo_267 : decode cL_areBowlsSo 267 = .ok (.goto 4, 3) := by decide +kernel
theorem dL_areBowlsSo_270 : decode cL_areBowlsSo 270 = .ok (.iconst 0, 1) := by decide +kernel
theorem dL_areBowlsSo_271 : decode cL_areBowlsSo 271 = .ok (.if_icmp .ne 167, 3) := by decide +kernel
theorem dL_areBowlsSo_274 : decode cL_areBowlsSo 274 = .ok (.iload 10, 2) := by decide +kernel
theorem dL_areBowlsSo_276 : decode cL_areBowlsSo 276 = .ok (.iconst 2, 1) := by decide +kernel
theorem dL_areBowlsSo_277 : decode cL_areBowlsSo 277 = .ok (.if_icmp .lt 19, 3) := by decide +kernel
theorem dL_areBowlsSo_280 : decode cL_areBowlsSo 280 = .ok (.iload 9, 2) := by decide +kernel
theorem dL_areBowlsSo_282 : decode cL_areBowlsSo 282 = .ok (.bipush (-9), 2) := by decide +kernel
theorem dL_areBowlsSo_284 : decode cL_areBowlsSo 284 = .ok (.if_icmp .ne 154, 3) := by decide +kernel
theorem dL_areBowlsSo_287 : decode cL_areBowlsSo 287 = .ok (.aload_n 0, 1) := by decide +kernel
theorem dL_areBowlsSo_288 : decode cL_areBowlsSo 288 = .ok (.iload 7, 2) := by decide +kernel
theorem dL_areBowlsSo_290 : decode cL_areBowlsSo 290 = .ok (.invokevirtual 130, 3) := by decide +kernel
theorem dL_areBowlsSo_293 : decode cL_areBowlsSo 293 = .ok (.ifCond .ne 145, 3) := by decide +kernel
theorem dL_areBowlsSo_296 : decode cL_areBowlsSo 296 = .ok (.iload 10, 2) := by decide +kernel
theorem dL_areBowlsSo_298 : decode cL_areBowlsSo 298 = .ok (.iconst 1, 1) := by decide +kernel
theorem dL_areBowlsSo_299 : decode cL_areBowlsSo 299 = .ok (.if_icmp .ne 12, 3) := by decide +kernel
theorem dL_areBowlsSo_302 : decode cL_areBowlsSo 302 = .ok (.aload_n 0, 1) := by decide +kernel
theorem dL_areBowlsSo_303 : decode cL_areBowlsSo 303 = .ok (.iload 7, 2) := by decide +kernel
theorem dL_areBowlsSo_305 : decode cL_areBowlsSo 305 = .ok (.invokevirtual 130, 3) := by decide +kernel
theorem dL_areBowlsSo_308 : decode cL_areBowlsSo 308 = .ok (.ifCond .eq 130, 3) := by decide +kernel
theorem dL_areBowlsSo_311 : decode cL_areBowlsSo 311 = .ok (.iload 10, 2) := by decide +kernel
theorem dL_areBowlsSo_313 : decode cL_areBowlsSo 313 = .ok (.iconst 2, 1) := by decide +kernel
theorem dL_areBowlsSo_314 : decode cL_areBowlsSo 314 = .ok (.if_icmp .eq 28, 3) := by decide +kernel
theorem dL_areBowlsSo_317 : decode cL_areBowlsSo 317 = .ok (.iload 9, 2) := by decide +kernel
theorem dL_areBowlsSo_319 : decode cL_areBowlsSo 319 = .ok (.ifCond .lt 119, 3) := by decide +kernel
theorem dL_areBowlsSo_322 : decode cL_areBowlsSo 322 = .ok (.aload_n 0, 1) := by decide +kernel
theorem dL_areBowlsSo_323 : decode cL_areBowlsSo 323 = .ok (.iload 7, 2) := by decide +kernel
theorem dL_areBowlsSo_325 : decode cL_areBowlsSo 325 = .ok (.invokevirtual 134, 3) := by decide +kernel
theorem dL_areBowlsSo_328 : decode cL_areBowlsSo 328 = .ok (.ifCond .lt 110, 3) := by decide +kernel
theorem dL_areBowlsSo_331 : decode cL_areBowlsSo 331 = .ok (.aload_n 0, 1) := by decide +kernel
theorem dL_areBowlsSo_332 : decode cL_areBowlsSo 332 = .ok (.iload 7, 2) := by decide +kernel
theorem dL_areBowlsSo_334 : decode cL_areBowlsSo 334 = .ok (.invokevirtual 134, 3) := by decide +kernel
theorem dL_areBowlsSo_337 : decode cL_areBowlsSo 337 = .ok (.bipush 21, 2) := by decide +kernel
theorem dL_areBowlsSo_339 : decode cL_areBowlsSo 339 = .ok (.if_icmp .ge 99, 3) := by decide +kernel
theorem dL_areBowlsSo_342 : decode cL_areBowlsSo 342 = .ok (.iload 10, 2) := by decide +kernel
theorem dL_areBowlsSo_344 : decode cL_areBowlsSo 344 = .ok (.ifCond .ne 25, 3) := by decide +kernel
theorem dL_areBowlsSo_347 : decode cL_areBowlsSo 347 = .ok (.aload_n 0, 1) := by decide +kernel
theorem dL_areBowlsSo_348 : decode cL_areBowlsSo 348 = .ok (.iload 8, 2) := by decide +kernel
theorem dL_areBowlsSo_350 : decode cL_areBowlsSo 350 = .ok (.aload_n 0, 1) := by decide +kernel
theorem dL_areBowlsSo_351 : decode cL_areBowlsSo 351 = .ok (.iload 7, 2) := by decide +kernel
theorem dL_areBowlsSo_353 : decode cL_areBowlsSo 353 = .ok (.invokevirtual 134, 3) := by decide +kernel
theorem dL_areBowlsSo_356 : decode cL_areBowlsSo 356 = .ok (.invokevirtual 146, 3) := by decide +kernel
theorem dL_areBowlsSo_359 : decode cL_areBowlsSo 359 = .ok (.iload 7, 2) := by decide +kernel
theorem dL_areBowlsSo_361 : decode cL_areBowlsSo 361 = .ok (.if_icmp .ne 77, 3) := by decide +kernel
theorem dL_areBowlsSo_364 : decode cL_areBowlsSo 364 = .ok (.iload 9, 2) := by decide +kernel
theorem dL_areBowlsSo_366 : decode cL_areBowlsSo 366 = .ok (.ifCond .le 72, 3) := by decide +kernel
theorem dL_areBowlsSo_369 : decode cL_areBowlsSo 369 = .ok (.aload_n 0, 1) := by decide +kernel
theorem dL_areBowlsSo_370 : decode cL_areBowlsSo 370 = .ok (.iload 7, 2) := by decide +kernel
theorem dL_areBowlsSo_372 : decode cL_areBowlsSo 372 = .ok (.invokevirtual 149, 3) := by decide +kernel
theorem dL_areBowlsSo_375 : decode cL_areBowlsSo 375 = .ok (.bipush 15, 2) := by decide +kernel
theorem dL_areBowlsSo_377 : decode cL_areBowlsSo 377 = .ok (.if_icmp .lt 61, 3) := by decide +kernel
theorem dL_areBowlsSo_380 : decode cL_areBowlsSo 380 = .ok (.aload_n 0, 1) := by decide +kernel
theorem dL_areBowlsSo_381 : decode cL_areBowlsSo 381 = .ok (.iload 7, 2) := by decide +kernel
theorem dL_areBowlsSo_383 : decode cL_areBowlsSo 383 = .ok (.invokevirtual 149, 3) := by decide +kernel
theorem dL_areBowlsSo_386 : decode cL_areBowlsSo 386 = .ok (.bipush 70, 2) := by decide +kernel
theorem dL_areBowlsSo_388 : decode cL_areBowlsSo 388 = .ok (.if_icmp .gt 50, 3) := by decide +kernel
theorem dL_areBowlsSo_391 : decode cL_areBowlsSo 391 = .ok (.aload_n 0, 1) := by decide +kernel
theorem dL_areBowlsSo_392 : decode cL_areBowlsSo 392 = .ok (.iload 7, 2) := by decide +kernel
theorem dL_areBowlsSo_394 : decode cL_areBowlsSo 394 = .ok (.invokevirtual 152, 3) := by decide +kernel
theorem dL_areBowlsSo_397 : decode cL_areBowlsSo 397 = .ok (.bipush (-9), 2) := by decide +kernel
theorem dL_areBowlsSo_399 : decode cL_areBowlsSo 399 = .ok (.if_icmp .lt 39, 3) := by decide +kernel
theorem dL_areBowlsSo_402 : decode cL_areBowlsSo 402 = .ok (.aload_n 0, 1) := by decide +kernel
theorem dL_areBowlsSo_403 : decode cL_areBowlsSo 403 = .ok (.iload 7, 2) := by decide +kernel
theorem dL_areBowlsSo_405 : decode cL_areBowlsSo 405 = .ok (.invokevirtual 152, 3) := by decide +kernel
theorem dL_areBowlsSo_408 : decode cL_areBowlsSo 408 = .ok (.bipush 9, 2) := by decide +kernel
theorem dL_areBowlsSo_410 : decode cL_areBowlsSo 410 = .ok (.if_icmp .gt 28, 3) := by decide +kernel
theorem dL_areBowlsSo_413 : decode cL_areBowlsSo 413 = .ok (.aload_n 0, 1) := by decide +kernel
theorem dL_areBowlsSo_414 : decode cL_areBowlsSo 414 = .ok (.iload 7, 2) := by decide +kernel
theorem dL_areBowlsSo_416 : decode cL_areBowlsSo 416 = .ok (.invokevirtual 155, 3) := by decide +kernel
theorem dL_areBowlsSo_419 : decode cL_areBowlsSo 419 = .ok (.bipush (-3), 2) := by decide +kernel
theorem dL_areBowlsSo_421 : decode cL_areBowlsSo 421 = .ok (.if_icmp .lt 17, 3) := by decide +kernel
theorem dL_areBowlsSo_424 : decode cL_areBowlsSo 424 = .ok (.aload_n 0, 1) := by decide +kernel
theorem dL_areBowlsSo_425 : decode cL_areBowlsSo 425 = .ok (.iload 7, 2) := by decide +kernel
theorem dL_areBowlsSo_427 : decode cL_areBowlsSo 427 = .ok (.invokevirtual 155, 3) := by decide +kernel
theorem dL_areBowlsSo_430 : decode cL_areBowlsSo 430 = .ok (.iconst 3, 1) := by decide +kernel
theorem dL_areBowlsSo_431 : decode cL_areBowlsSo 431 = .ok (.if_icmp .gt 7, 3) := by decide +kernel
theorem dL_areBowlsSo_434 : decode cL_areBowlsSo 434 = .ok (.iconst 1, 1) := by decide +kernel
theorem dL_areBowlsSo_435 : decode cL_areBowlsSo 435 = .ok (.goto 4, 3) := by decide +kernel
theorem dL_areBowlsSo_438 : decode cL_areBowlsSo 438 = .ok (.iconst 0, 1) := by decide +kernel
theorem dL_areBowlsSo_439 : decode cL_areBowlsSo 439 = .ok (.istore 6, 2) := by decide +kernel
theorem dL_areBowlsSo_441 : decode cL_areBowlsSo 441 = .ok (.iinc 7 1, 3) := by decide +kernel
theorem dL_areBowlsSo_444 : decode cL_areBowlsSo 444 = .ok (.goto (-291), 3) := by decide +kernel
theorem dL_areBowlsSo_447 : decode cL_areBowlsSo 447 = .ok (.iconst 0, 1) := by decide +kernel
theorem dL_areBowlsSo_448 : decode cL_areBowlsSo 448 = .ok (.istore 7, 2) := by decide +kernel
theorem dL_areBowlsSo_450 : decode cL_areBowlsSo 450 = .ok (.iload 7, 2) := by decide +kernel
theorem dL_areBowlsSo_452 : decode cL_areBowlsSo 452 = .ok (.iload_n 2, 1) := by decide +kernel
theorem dL_areBowlsSo_453 : decode cL_areBowlsSo 453 = .ok (.if_icmp .ge 44, 3) := by decide +kernel
theorem dL_areBowlsSo_456 : decode cL_areBowlsSo 456 = .ok (.iload 6, 2) := by decide +kernel
theorem dL_areBowlsSo_458 : decode cL_areBowlsSo 458 = .ok (.ifCond .eq 39, 3) := by decide +kernel
theorem dL_areBowlsSo_461 : decode cL_areBowlsSo 461 = .ok (.aload_n 0, 1) := by decide +kernel
theorem dL_areBowlsSo_462 : decode cL_areBowlsSo 462 = .ok (.aload_n 0, 1) := by decide +kernel
theorem dL_areBowlsSo_463 : decode cL_areBowlsSo 463 = .ok (.iload 7, 2) := by decide +kernel
theorem dL_areBowlsSo_465 : decode cL_areBowlsSo 465 = .ok (.invokevirtual 158, 3) := by decide +kernel
theorem dL_areBowlsSo_468 : decode cL_areBowlsSo 468 = .ok (.invokevirtual 47, 3) := by decide +kernel
theorem dL_areBowlsSo_471 : decode cL_areBowlsSo 471 = .ok (.istore 8, 2) := by decide +kernel
theorem dL_areBowlsSo_473 : decode cL_areBowlsSo 473 = .ok (.iload 8, 2) := by decide +kernel
theorem dL_areBowlsSo_475 : decode cL_areBowlsSo 475 = .ok (.iload 4, 2) := by decide +kernel
theorem dL_areBowlsSo_477 : decode cL_areBowlsSo 477 = .ok (.if_icmp .lt 7, 3) := by decide +kernel
theorem dL_areBowlsSo_480 : decode cL_areBowlsSo 480 = .ok (.iconst 1, 1) := by decide +kernel
theorem dL_areBowlsSo_481 : decode cL_areBowlsSo 481 = .ok (.goto 4, 3) := by decide +kernel
theorem dL_areBowlsSo_484 : decode cL_areBowlsSo 484 = .ok (.iconst 0, 1) := by decide +kernel
theorem dL_areBowlsSo_485 : decode cL_areBowlsSo 485 = .ok (.istore 6, 2) := by decide +kernel
theorem dL_areBowlsSo_487 : decode cL_areBowlsSo 487 = .ok (.iload 8, 2) := by decide +kernel
theorem dL_areBowlsSo_489 : decode cL_areBowlsSo 489 = .ok (.istore 4, 2) := by decide +kernel
theorem dL_areBowlsSo_491 : decode cL_areBowlsSo 491 = .ok (.iinc 7 1, 3) := by decide +kernel
theorem dL_areBowlsSo_494 : decode cL_areBowlsSo 494 = .ok (.goto (-44), 3) := by decide +kernel
theorem dL_areBowlsSo_497 : decode cL_areBowlsSo 497 = .ok (.iload 6, 2) := by decide +kernel
theorem dL_areBowlsSo_499 : decode cL_areBowlsSo 499 = .ok (.ifCond .eq 173, 3) := by decide +kernel
theorem dL_areBowlsSo_502 : decode cL_areBowlsSo 502 = .ok (.aload_n 0, 1) := by decide +kernel
theorem dL_areBowlsSo_503 : decode cL_areBowlsSo 503 = .ok (.iconst 0, 1) := by decide +kernel
theorem dL_areBowlsSo_504 : decode cL_areBowlsSo 504 = .ok (.invokevirtual 161, 3) := by decide +kernel
theorem dL_areBowlsSo_507 : decode cL_areBowlsSo 507 = .ok (.aload_n 0, 1) := by decide +kernel
theorem dL_areBowlsSo_508 : decode cL_areBowlsSo 508 = .ok (.iconst 1, 1) := by decide +kernel
theorem dL_areBowlsSo_509 : decode cL_areBowlsSo 509 = .ok (.invokevirtual 161, 3) := by decide +kernel
theorem dL_areBowlsSo_512 : decode cL_areBowlsSo 512 = .ok (.iadd, 1) := by decide +kernel
theorem dL_areBowlsSo_513 : decode cL_areBowlsSo 513 = .ok (.iload_n 2, 1) := by decide +kernel
theorem dL_areBowlsSo_514 : decode cL_areBowlsSo 514 = .ok (.if_icmp .ne 158, 3) := by decide +kernel
theorem dL_areBowlsSo_517 : decode cL_areBowlsSo 517 = .ok (.aload_n 0, 1) := by decide +kernel
theorem dL_areBowlsSo_518 : decode cL_areBowlsSo 518 = .ok (.iconst 4, 1) := by decide +kernel
theorem dL_areBowlsSo_519 : decode cL_areBowlsSo 519 = .ok (.iconst 0, 1) := by decide +kernel
theorem dL_areBowlsSo_520 : decode cL_areBowlsSo 520 = .ok (.invokestatic 93, 3) := by decide +kernel
theorem dL_areBowlsSo_523 : decode cL_areBowlsSo 523 = .ok (.bipush (-9), 2) := by decide +kernel
theorem dL_areBowlsSo_525 : decode cL_areBowlsSo 525 = .ok (.if_icmp .ne 7, 3) := by decide +kernel
theorem dL_areBowlsSo_528 : decode cL_areBowlsSo 528 = .ok (.iconst 1, 1) := by decide +kernel
theorem dL_areBowlsSo_529 : decode cL_areBowlsSo 529 = .ok (.goto 4, 3) := by decide +kernel
theorem dL_areBowlsSo_532 : decode cL_areBowlsSo 532 = .ok (.iconst 0, 1) := by decide +kernel
theorem dL_areBowlsSo_533 : decode cL_areBowlsSo 533 = .ok (.iload 5, 2) := by decide +kernel
theorem dL_areBowlsSo_535 : decode cL_areBowlsSo 535 = .ok (.ifCond .eq 20, 3) := by decide +kernel
theorem dL_areBowlsSo_538 : decode cL_areBowlsSo 538 = .ok (.iload_n 1, 1) := by decide +kernel
theorem dL_areBowlsSo_539 : decode cL_areBowlsSo 539 = .ok (.iconst 2, 1) := by decide +kernel
theorem dL_areBowlsSo_540 : decode cL_areBowlsSo 540 = .ok (.aload_n 0, 1) := by decide +kernel
theorem dL_areBowlsSo_541 : decode cL_areBowlsSo 541 = .ok (.invokevirtual 80, 3) := by decide +kernel
theorem dL_areBowlsSo_544 : decode cL_areBowlsSo 544 = .ok (.imul, 1) := by decide +kernel
theorem dL_areBowlsSo_545 : decode cL_areBowlsSo 545 = .ok (.if_icmp .eq 10, 3) := by decide +kernel
theorem dL_areBowlsSo_548 : decode cL_areBowlsSo 548 = .ok (.aload_n 0, 1) := by decide +kernel
theorem dL_areBowlsSo_549 : decode cL_areBowlsSo 549 = .ok (.invokevirtual 83, 3) := by decide +kernel
theorem dL_areBowlsSo_552 : decode cL_areBowlsSo 552 = .ok (.ifCond .eq 7, 3) := by decide +kernel
theorem dL_areBowlsSo_555 : decode cL_areBowlsSo 555 = .ok (.iconst 1, 1) := by decide +kernel
theorem dL_areBowlsSo_556 : decode cL_areBowlsSo 556 = .ok (.goto 4, 3) := by decide +kernel
theorem dL_areBowlsSo_559 : decode cL_areBowlsSo 559 = .ok (.iconst 0, 1) := by decide +kernel
theorem dL_areBowlsSo_560 : decode cL_areBowlsSo 560 = .ok (.if_icmp .ne 112, 3) := by decide +kernel
theorem dL_areBowlsSo_563 : decode cL_areBowlsSo 563 = .ok (.aload_n 0, 1) := by decide +kernel
theorem dL_areBowlsSo_564 : decode cL_areBowlsSo 564 = .ok (.iconst 3, 1) := by decide +kernel
theorem dL_areBowlsSo_565 : decode cL_areBowlsSo 565 = .ok (.iconst 0, 1) := by decide +kernel
theorem dL_areBowlsSo_566 : decode cL_areBowlsSo 566 = .ok (.invokestatic 93, 3) := by decide +kernel
theorem dL_areBowlsSo_569 : decode cL_areBowlsSo 569 = .ok (.bipush (-9), 2) := by decide +kernel
theorem dL_areBowlsSo_571 : decode cL_areBowlsSo 571 = .ok (.if_icmp .ne 7, 3) := by decide +kernel
theorem dL_areBowlsSo_574 : decode cL_areBowlsSo 574 = .ok (.iconst 1, 1) := by decide +kernel
theorem dL_areBowlsSo_575 : decode cL_areBowlsSo 575 = .ok (.goto 4, 3) := by decide +kernel
theorem dL_areBowlsSo_578 : decode cL_areBowlsSo 578 = .ok (.iconst 0, 1) := by decide +kernel
theorem dL_areBowlsSo_579 : decode cL_areBowlsSo 579 = .ok (.aload_n 0, 1) := by decide +kernel
theorem dL_areBowlsSo_580 : decode cL_areBowlsSo 580 = .ok (.iconst 0, 1) := by decide +kernel
theorem dL_areBowlsSo_581 : decode cL_areBowlsSo 581 = .ok (.invokevirtual 161, 3) := by decide +kernel
theorem dL_areBowlsSo_584 : decode cL_areBowlsSo 584 = .ok (.ifCond .eq 11, 3) := by decide +kernel
theorem dL_areBowlsSo_587 : decode cL_areBowlsSo 587 = .ok (.aload_n 0, 1) := by decide +kernel
theorem dL_areBowlsSo_588 : decode cL_areBowlsSo 588 = .ok (.iconst 1, 1) := by decide +kernel
theorem dL_areBowlsSo_589 : decode cL_areBowlsSo 589 = .ok (.invokevirtual 161, 3) := by decide +kernel
theorem dL_areBowlsSo_592 : decode cL_areBowlsSo 592 = .ok (.ifCond .ne 7, 3) := by decide +kernel
theorem dL_areBowlsSo_595 : decode cL_areBowlsSo 595 = .ok (.iconst 1, 1) := by decide +kernel
theorem dL_areBowlsSo_596 : decode cL_areBowlsSo 596 = .ok (.goto 4, 3) := by decide +kernel
theorem dL_areBowlsSo_599 : decode cL_areBowlsSo 599 = .ok (.iconst 0, 1) := by decide +kernel
theorem dL_areBowlsSo_600 : decode cL_areBowlsSo 600 = .ok (.if_icmp .ne 72, 3) := by decide +kernel
theorem dL_areBowlsSo_603 : decode cL_areBowlsSo 603 = .ok (.iload_n 3, 1) := by decide +kernel
theorem dL_areBowlsSo_604 : decode cL_areBowlsSo 604 = .ok (.ifCond .eq 21, 3) := by decide +kernel
theorem dL_areBowlsSo_607 : decode cL_areBowlsSo 607 = .ok (.aload_n 0, 1) := by decide +kernel
theorem dL_areBowlsSo_608 : decode cL_areBowlsSo 608 = .ok (.aload_n 0, 1) := by decide +kernel
theorem dL_areBowlsSo_609 : decode cL_areBowlsSo 609 = .ok (.iconst 0, 1) := by decide +kernel
theorem dL_areBowlsSo_610 : decode cL_areBowlsSo 610 = .ok (.invokevirtual 158, 3) := by decide +kernel
theorem dL_areBowlsSo_613 : decode cL_areBowlsSo 613 = .ok (.invokevirtual 143, 3) := by decide +kernel
theorem dL_areBowlsSo_616 : decode cL_areBowlsSo 616 = .ok (.aload_n 0, 1) := by decide +kernel
theorem dL_areBowlsSo_617 : decode cL_areBowlsSo 617 = .ok (.iconst 2, 1) := by decide +kernel
theorem dL_areBowlsSo_618 : decode cL_areBowlsSo 618 = .ok (.iconst 0, 1) := by decide +kernel
theorem dL_areBowlsSo_619 : decode cL_areBowlsSo 619 = .ok (.invokestatic 93, 3) := by decide +kernel
theorem dL_areBowlsSo_622 : decode cL_areBowlsSo 622 = .ok (.if_icmp .ne 50, 3) := by decide +kernel
theorem dL_areBowlsSo_625 : decode cL_areBowlsSo 625 = .ok (.aload_n 0, 1) := by decide +kernel
theorem dL_areBowlsSo_626 : decode cL_areBowlsSo 626 = .ok (.iconst 3, 1) := by decide +kernel
theorem dL_areBowlsSo_627 : decode cL_areBowlsSo 627 = .ok (.iconst 0, 1) := by decide +kernel
theorem dL_areBowlsSo_628 : decode cL_areBowlsSo 628 = .ok (.invokestatic 93, 3) := by decide +kernel
theorem dL_areBowlsSo_631 : decode cL_areBowlsSo 631 = .ok (.ifCond .ne 7, 3) := by decide +kernel
theorem dL_areBowlsSo_634 : decode cL_areBowlsSo 634 = .ok (.iload_n 3, 1) := by decide +kernel
theorem dL_areBowlsSo_635 : decode cL_areBowlsSo 635 = .ok (.ifCond .ne 37, 3) := by decide +kernel
theorem dL_areBowlsSo_638 : decode cL_areBowlsSo 638 = .ok (.iload_n 2, 1) := by decide +kernel
theorem dL_areBowlsSo_639 : decode cL_areBowlsSo 639 = .ok (.iconst 1, 1) := by decide +kernel
theorem dL_areBowlsSo_640 : decode cL_areBowlsSo 640 = .ok (.if_icmp .le 7, 3) := by decide +kernel
theorem dL_areBowlsSo_643 : decode cL_areBowlsSo 643 = .ok (.iconst 1, 1) := by decide +kernel
theorem dL_areBowlsSo_644 : decode cL_areBowlsSo 644 = .ok (.goto 4, 3) := by decide +kernel
theorem dL_areBowlsSo_647 : decode cL_areBowlsSo 647 = .ok (.iconst 0, 1) := by decide +kernel
theorem dL_areBowlsSo_648 : decode cL_areBowlsSo 648 = .ok (.aload_n 0, 1) := by decide +kernel
theorem dL_areBowlsSo_649 : decode cL_areBowlsSo 649 = .ok (.invokevirtual 164, 3) := by decide +kernel
theorem dL_areBowlsSo_652 : decode cL_areBowlsSo 652 = .ok (.ifCond .gt 8, 3) := by decide +kernel
theorem dL_areBowlsSo_655 : decode cL_areBowlsSo 655 = .ok (.iload_n 2, 1) := by decide +kernel
theorem dL_areBowlsSo_656 : decode cL_areBowlsSo 656 = .ok (.iconst 1, 1) := by decide +kernel
theorem dL_areBowlsSo_657 : decode cL_areBowlsSo 657 = .ok (.if_icmp .le 7, 3) := by decide +kernel
theorem dL_areBowlsSo_660 : decode cL_areBowlsSo 660 = .ok (.iconst 1, 1) := by decide +kernel
theorem dL_areBowlsSo_661 : decode cL_areBowlsSo 661 = .ok (.goto 4, 3) := by decide +kernel
theorem dL_areBowlsSo_664 : decode cL_areBowlsSo 664 = .ok (.iconst 0, 1) := by decide +kernel
theorem dL_areBowlsSo_665 : decode cL_areBowlsSo 665 = .ok (.if_icmp .ne 7, 3) := by decide +kernel
theorem dL_areBowlsSo_668 : decode cL_areBowlsSo 668 = .ok (.iconst 1, 1) := by decide +kernel
theorem dL_areBowlsSo_669 : decode cL_areBowlsSo 669 = .ok (.goto 4, 3) := by decide +kernel
theorem dL_areBowlsSo_672 : decode cL_areBowlsSo 672 = .ok (.iconst 0, 1) := by decide +kernel
theorem dL_areBowlsSo_673 : decode cL_areBowlsSo 673 = .ok (.ireturn, 1) := by decide +kernel
def f_L_areBowlsSo (N : Nat) (xv : XV) (nv : SV) : Option (Int32 × (XV × SV)) :=
  (f_X5_bowls N xv nv).bind (fun o1 => (f_X5_pointsByOrder N xv nv).bind (fun o3 => (f_X5_isJackThere N o3.2.1 o3.2.2).bind (fun o5 => (f_X5_bowlsOfSide N o3.2.1 o3.2.2).bind (fun o8 => jn (fun (s148 : Int32 × XV × SV) => lpN (fun (s153 : Int32 × Int32 × Int32 × XV × SV) (k153 : (Int32 × Int32 × Int32 × XV × SV) → Option (Int32 × (XV × SV))) => jn (fun (s447 : Unit) => lpN (fun (s450 : Int32 × Int32 × Int32 × XV × SV) (k450 : (Int32 × Int32 × Int32 × XV × SV) → Option (Int32 × (XV × SV))) => jn (fun (s497 : Unit) => jn (fun (s673 : Int32 × XV × SV) => some (s673.1, (s673.2.1, s673.2.2))) (fun (j673 : (Int32 × XV × SV) → Option (Int32 × (XV × SV))) => jn (fun (s672 : XV × SV) => j673 ((0 : Int32), s672.1, s672.2)) (fun (j672 : (XV × SV) → Option (Int32 × (XV × SV))) => (if s450.2.1 = 0 then j672 (s450.2.2.2.1, s450.2.2.2.2) else (f_X5_aliveOf N s450.2.2.2.1 s450.2.2.2.2 (0 : Int32)).bind (fun o11 => exc o11 (fun k => none) (fun (ro11 : Int32) => (f_X5_aliveOf N s450.2.2.2.1 s450.2.2.2.2 (1 : Int32)).bind (fun o13 => exc o13 (fun k => none) (fun (ro13 : Int32) => (if (ro11 + ro13) = s153.1 then (f_L_looks N s450.2.2.2.1 s450.2.2.2.2 (4 : Int32) (0 : Int32)).bind (fun o16 => jn (fun (s533 : Int32) => jn (fun (s560 : Int32) => (if s533 = s560 then (f_L_looks N o16.2.1 o16.2.2 (3 : Int32) (0 : Int32)).bind (fun o19 => jn (fun (s579 : Int32) => (f_X5_aliveOf N o19.2.1 o19.2.2 (0 : Int32)).bind (fun o21 => exc o21 (fun k => none) (fun (ro21 : Int32) => jn (fun (s600 : Int32) => (if s579 = s600 then jn (fun (s625 : XV × SV) => (f_L_looks N s625.1 s625.2 (3 : Int32) (0 : Int32)).bind (fun o24 => jn (fun (s638 : Unit) => jn (fun (s648 : Int32) => (f_X5_spread N o24.2.1 o24.2.2).bind (fun o26 => jn (fun (s665 : Int32) => (if s648 = s665 then j673 ((1 : Int32), o24.2.1, o24.2.2) else j672 (o24.2.1, o24.2.2))) (fun (j665 : (Int32) → Option (Int32 × (XV × SV))) => jn (fun (s660 : Unit) => j665 (1 : Int32)) (fun (j660 : (Unit) → Option (Int32 × (XV × SV))) => (if 0 < o26 then j660 () else (if s153.1 ≤ (1 : Int32) then j665 (0 : Int32) else j660 ())))))) (fun (j648 : (Int32) → Option (Int32 × (XV × SV))) => (if s153.1 ≤ (1 : Int32) then j648 (0 : Int32) else j648 (1 : Int32)))) (fun (j638 : (Unit) → Option (Int32 × (XV × SV))) => (if o24.1 = 0 then (if o3.1 = 0 then j638 () else j672 (o24.2.1, o24.2.2)) else j638 ())))) (fun (j625 : (XV × SV) → Option (Int32 × (XV × SV))) => (if o3.1 = 0 then j625 (o19.2.1, o19.2.2) else (f_X5_nearest N o19.2.1 o19.2.2 (0 : Int32)).bind (fun o35 => exc o35.1 (fun k => none) (fun (ro35 : Int32) => (f_X5_sideOf N o35.2.1 o35.2.2 ro35).bind (fun o37 => exc o37 (fun k => none) (fun (ro37 : Int32) => (f_L_looks N o35.2.1 o35.2.2 (2 : Int32) (0 : Int32)).bind (fun o39 => (if ro37 = o39.1 then j625 (o39.2.1, o39.2.2) else j672 (o39.2.1, o39.2.2))))))))) else j672 (o19.2.1, o19.2.2))) (fun (j600 : (Int32) → Option (Int32 × (XV × SV))) => jn (fun (s595 : Unit) => j600 (1 : Int32)) (fun (j595 : (Unit) → Option (Int32 × (XV × SV))) => (if ro21 = 0 then j595 () else (f_X5_aliveOf N o19.2.1 o19.2.2 (1 : Int32)).bind (fun o43 => exc o43 (fun k => none) (fun (ro43 : Int32) => (if ro43 = 0 then j595 () else j600 (0 : Int32)))))))))) (fun (j579 : (Int32) → Option (Int32 × (XV × SV))) => (if o19.1 = (-9 : Int32) then j579 (1 : Int32) else j579 (0 : Int32)))) else j672 (o16.2.1, o16.2.2))) (fun (j560 : (Int32) → Option (Int32 × (XV × SV))) => jn (fun (s555 : Unit) => j560 (1 : Int32)) (fun (j555 : (Unit) → Option (Int32 × (XV × SV))) => (if o5 = 0 then j555 () else (f_X5_bowlsOfSide N o16.2.1 o16.2.2).bind (fun o48 => (if o1 = ((2 : Int32) * o48) then j555 () else (f_X5_isBurnt N o16.2.1 o16.2.2).bind (fun o51 => (if o51 = 0 then j560 (0 : Int32) else j555 ())))))))) (fun (j533 : (Int32) → Option (Int32 × (XV × SV))) => (if o16.1 = (-9 : Int32) then j533 (1 : Int32) else j533 (0 : Int32)))) else j672 (s450.2.2.2.1, s450.2.2.2.2)))))))))) (fun (j497 : (Unit) → Option (Int32 × (XV × SV))) => (if s153.1 ≤ s450.2.2.1 then j497 () else (if s450.2.1 = 0 then j497 () else (f_X5_nearest N s450.2.2.2.1 s450.2.2.2.2 s450.2.2.1).bind (fun o58 => exc o58.1 (fun k => none) (fun (ro58 : Int32) => (f_X5_distanceOf N o58.2.1 o58.2.2 ro58).bind (fun o60 => exc o60 (fun k => none) (fun (ro60 : Int32) => jn (fun (s485 : Int32) => k450 (ro60, s485, (s450.2.2.1 + (1 : Int32)), o58.2.1, o58.2.2)) (fun (j485 : (Int32) → Option (Int32 × (XV × SV))) => (if ro60 < s450.1 then j485 (0 : Int32) else j485 (1 : Int32))))))))))) 10 ((-1 : Int32), s153.2.1, (0 : Int32), s153.2.2.2.1, s153.2.2.2.2)) (fun (j447 : (Unit) → Option (Int32 × (XV × SV))) => (if o1 ≤ s153.2.2.1 then j447 () else (if s153.2.1 = 0 then j447 () else (f_L_looks N s153.2.2.2.1 s153.2.2.2.2 (0 : Int32) s153.2.2.1).bind (fun o65 => (f_L_looks N o65.2.1 o65.2.2 (1 : Int32) s153.2.2.1).bind (fun o67 => (f_X5_stateOf N o67.2.1 o67.2.2 s153.2.2.1).bind (fun o69 => exc o69 (fun k => none) (fun (ro69 : Int32) => jn (fun (s202 : Int32) => (f_X5_sideOf N o67.2.1 o67.2.2 s153.2.2.1).bind (fun o71 => exc o71 (fun k => none) (fun (ro71 : Int32) => (f_X5_first N o67.2.1 o67.2.2).bind (fun o73 => jn (fun (s439 : Int32) => k153 ((s153.1 + s202), s439, (s153.2.2.1 + (1 : Int32)), o67.2.1, o67.2.2)) (fun (j439 : (Int32) → Option (Int32 × (XV × SV))) => jn (fun (s438 : Unit) => j439 (0 : Int32)) (fun (j438 : (Unit) → Option (Int32 × (XV × SV))) => (if ro71 = ((o73 + s153.2.2.1) - (o73 + s153.2.2.1) / (2 : Int32) * (2 : Int32)) then jn (fun (s233 : Int32) => jn (fun (s245 : Int32) => (if s233 = s245 then jn (fun (s259 : Int32) => jn (fun (s271 : Int32) => (if s259 = s271 then jn (fun (s296 : Unit) => jn (fun (s311 : Unit) => jn (fun (s342 : Unit) => jn (fun (s369 : Unit) => (f_X5_weightOf N o67.2.1 o67.2.2 s153.2.2.1).bind (fun o78 => exc o78 (fun k => none) (fun (ro78 : Int32) => (if ro78 < (15 : Int32) then j438 () else (f_X5_weightOf N o67.2.1 o67.2.2 s153.2.2.1).bind (fun o81 => exc o81 (fun k => none) (fun (ro81 : Int32) => (if (70 : Int32) < ro81 then j438 () else (f_X5_aimOf N o67.2.1 o67.2.2 s153.2.2.1).bind (fun o84 => exc o84 (fun k => none) (fun (ro84 : Int32) => (if ro84 < (-9 : Int32) then j438 () else (f_X5_aimOf N o67.2.1 o67.2.2 s153.2.2.1).bind (fun o87 => exc o87 (fun k => none) (fun (ro87 : Int32) => (if (9 : Int32) < ro87 then j438 () else (f_X5_biasOf N o67.2.1 o67.2.2 s153.2.2.1).bind (fun o90 => exc o90 (fun k => none) (fun (ro90 : Int32) => (if ro90 < (-3 : Int32) then j438 () else (f_X5_biasOf N o67.2.1 o67.2.2 s153.2.2.1).bind (fun o93 => exc o93 (fun k => none) (fun (ro93 : Int32) => (if (3 : Int32) < ro93 then j438 () else j439 (1 : Int32)))))))))))))))))))) (fun (j369 : (Unit) → Option (Int32 × (XV × SV))) => (if ro69 = 0 then (f_X5_columnOf N o67.2.1 o67.2.2 s153.2.2.1).bind (fun o97 => exc o97 (fun k => none) (fun (ro97 : Int32) => (f_X5_bowlAt N o67.2.1 o67.2.2 o65.1 ro97).bind (fun o99 => exc o99 (fun k => none) (fun (ro99 : Int32) => (if ro99 = s153.2.2.1 then (if o67.1 ≤ 0 then j438 () else j369 ()) else j438 ()))))) else j369 ()))) (fun (j342 : (Unit) → Option (Int32 × (XV × SV))) => (if ro69 = (2 : Int32) then j342 () else (if o67.1 < 0 then j438 () else (f_X5_columnOf N o67.2.1 o67.2.2 s153.2.2.1).bind (fun o105 => exc o105 (fun k => none) (fun (ro105 : Int32) => (if ro105 < 0 then j438 () else (f_X5_columnOf N o67.2.1 o67.2.2 s153.2.2.1).bind (fun o108 => exc o108 (fun k => none) (fun (ro108 : Int32) => (if (21 : Int32) ≤ ro108 then j438 () else j342 ())))))))))) (fun (j311 : (Unit) → Option (Int32 × (XV × SV))) => (if ro69 = (1 : Int32) then (f_X5_isToucher N o67.2.1 o67.2.2 s153.2.2.1).bind (fun o112 => exc o112 (fun k => none) (fun (ro112 : Int32) => (if ro112 = 0 then j438 () else j311 ()))) else j311 ()))) (fun (j296 : (Unit) → Option (Int32 × (XV × SV))) => (if ro69 < (2 : Int32) then j296 () else (if o67.1 = (-9 : Int32) then (f_X5_isToucher N o67.2.1 o67.2.2 s153.2.2.1).bind (fun o118 => exc o118 (fun k => none) (fun (ro118 : Int32) => (if ro118 = 0 then j296 () else j438 ()))) else j438 ()))) else j438 ())) (fun (j271 : (Int32) → Option (Int32 × (XV × SV))) => (if o65.1 = (60 : Int32) then j271 (1 : Int32) else j271 (0 : Int32)))) (fun (j259 : (Int32) → Option (Int32 × (XV × SV))) => (if ro69 = (1 : Int32) then j259 (1 : Int32) else j259 (0 : Int32))) else j438 ())) (fun (j245 : (Int32) → Option (Int32 × (XV × SV))) => (if o65.1 = (-9 : Int32) then j245 (1 : Int32) else j245 (0 : Int32)))) (fun (j233 : (Int32) → Option (Int32 × (XV × SV))) => (if ro69 = (2 : Int32) then j233 (1 : Int32) else j233 (0 : Int32))) else j438 ()))))))) (fun (j202 : (Int32) → Option (Int32 × (XV × SV))) => (if (2 : Int32) ≤ ro69 then j202 (0 : Int32) else j202 (1 : Int32))))))))))) 10 ((0 : Int32), s148.1, (0 : Int32), s148.2.1, s148.2.2)) (fun (j148 : (Int32 × XV × SV) → Option (Int32 × (XV × SV))) => jn (fun (s147 : XV × SV) => j148 ((0 : Int32), s147.1, s147.2)) (fun (j147 : (XV × SV) → Option (Int32 × (XV × SV))) => (if ((2 : Int32) * o8) < o1 then j147 (o3.2.1, o3.2.2) else jn (fun (s40 : Unit) => (f_X5_pointsByPairs N o3.2.1 o3.2.2).bind (fun o128 => (if o3.1 = o128 then (if o3.1 < 0 then j147 (o3.2.1, o3.2.2) else (if (8 : Int32) < o3.1 then j147 (o3.2.1, o3.2.2) else jn (fun (s67 : Int32) => (f_L_looks N o3.2.1 o3.2.2 (2 : Int32) (0 : Int32)).bind (fun o133 => jn (fun (s83 : Int32) => (if s67 = s83 then jn (fun (s118 : Unit) => (f_X5_isBurnt N o133.2.1 o133.2.2).bind (fun o136 => jn (fun (s143 : Unit) => j148 ((1 : Int32), o133.2.1, o133.2.2)) (fun (j143 : (Unit) → Option (Int32 × (XV × SV))) => (if o136 = 0 then j143 () else (if o5 = 0 then j147 (o133.2.1, o133.2.2) else (f_X5_jackRow N o133.2.1 o133.2.2).bind (fun o141 => exc o141 (fun k => none) (fun (ro141 : Int32) => (if ro141 = (60 : Int32) then (if o3.1 = 0 then j143 () else j147 (o133.2.1, o133.2.2)) else j147 (o133.2.1, o133.2.2))))))))) (fun (j118 : (Unit) → Option (Int32 × (XV × SV))) => (if o5 = 0 then j118 () else (f_X5_jackRow N o133.2.1 o133.2.2).bind (fun o146 => exc o146 (fun k => none) (fun (ro146 : Int32) => (if ro146 < (20 : Int32) then j147 (o133.2.1, o133.2.2) else (f_X5_jackRow N o133.2.1 o133.2.2).bind (fun o149 => exc o149 (fun k => none) (fun (ro149 : Int32) => (if (60 : Int32) < ro149 then j147 (o133.2.1, o133.2.2) else (f_X5_jackColumn N o133.2.1 o133.2.2).bind (fun o152 => exc o152 (fun k => none) (fun (ro152 : Int32) => (if ro152 = (10 : Int32) then j118 () else j147 (o133.2.1, o133.2.2)))))))))))) else j147 (o133.2.1, o133.2.2))) (fun (j83 : (Int32) → Option (Int32 × (XV × SV))) => (if o133.1 = (-9 : Int32) then j83 (1 : Int32) else j83 (0 : Int32))))) (fun (j67 : (Int32) → Option (Int32 × (XV × SV))) => (if o3.1 = 0 then j67 (1 : Int32) else j67 (0 : Int32))))) else j147 (o3.2.1, o3.2.2)))) (fun (j40 : (Unit) → Option (Int32 × (XV × SV))) => (if o5 = 0 then (if o1 = 0 then j40 () else j147 (o3.2.1, o3.2.2)) else j40 ())))))))))
set_option maxHeartbeats 4000000 in
set_option maxRecDepth 100000 in
theorem met_L_areBowlsSo (l : Launch) (z0 : Nat) (hst : l.stackTraces = false) (dC : Nat → ClassId) (dI : Nat → Nat → Nat) (cyI cyO : ClassId) (x : Nat → Nat) (tr : Nat → Nat) (an : Nat → Nat) (fl fs : Nat → Option Nat) (sz : Nat) (N : Nat) (xv : XV) (nv : SV) (out : Int32 × (XV × SV)) (hF : f_L_areBowlsSo N xv nv = some out) : Met l yL_areBowlsSo (Cond.code yL_areBowlsSo cL_areBowlsSo 11 (some .boolean) :: wT) ({ frames := 9, cells := 445, slots := 2670, locals := 147 } : Room) (wWrX z0 dC dI cyI cyO [.ref (x 0)] (([(cXo x an tr xv), (cH cyO (x 1) (x 2) 2 fl), (cXk cyI x xv), (cH cyO (x 4) (x 5) 6 fs), (cT cyI x (X_text xv)), (cSo an nv), (cG cyI an (S_green nv)), (cV cyI an (S_score nv))] : List va_W).flatten) sz) (va_Qi (fun (r : Int32) (u : XV × SV) => (r, u) = out ∧ b01 r) (fun u t => va_P (dC, dI) vwCl (([(cXo x an tr u.1), (cH cyO (x 1) (x 2) 2 fl), (cXk cyI x u.1), (cH cyO (x 4) (x 5) 6 fs), (cT cyI x (X_text u.1)), (cSo an u.2), (cG cyI an (S_green u.2)), (cV cyI an (S_score u.2))] : List va_W).flatten) t.heap ∧ va_D (va_A (([(cXo x an tr xv), (cH cyO (x 1) (x 2) 2 fl), (cXk cyI x xv), (cH cyO (x 4) (x 5) 6 fs), (cT cyI x (X_text xv)), (cSo an nv), (cG cyI an (S_green nv)), (cV cyI an (S_score nv))] : List va_W).flatten) sz) (([(cXo x an tr u.1), (cH cyO (x 1) (x 2) 2 fl), (cXk cyI x u.1), (cH cyO (x 4) (x 5) 6 fs), (cT cyI x (X_text u.1)), (cSo an u.2), (cG cyI an (S_green u.2)), (cV cyI an (S_score u.2))] : List va_W).flatten)) (va_A (([(cXo x an tr xv), (cH cyO (x 1) (x 2) 2 fl), (cXk cyI x xv), (cH cyO (x 4) (x 5) 6 fs), (cT cyI x (X_text xv)), (cSo an nv), (cG cyI an (S_green nv)), (cV cyI an (S_score nv))] : List va_W).flatten) sz)) 445 2670 (va_A (([(cXo x an tr xv), (cH cyO (x 1) (x 2) 2 fl), (cXk cyI x xv), (cH cyO (x 4) (x 5) 6 fs), (cT cyI x (X_text xv)), (cSo an nv), (cG cyI an (S_green nv)), (cV cyI an (S_score nv))] : List va_W).flatten) sz) := by
  refine Met.ofW (cc := cL_areBowlsSo) (maxL := 11) (ret := (some .boolean)) (by decide) rfl ?_
  intro p e s m args below meth c s₁ B hml hv
  obtain ⟨rfl, hsz, hP, hK, hD0, hz0, hZ⟩ := hv
  have hx := B.exec
  have hb := B.bytes
  have hr := B.returns
  have hts0 := atoms_spec (ws := (Cond.code yL_areBowlsSo cL_areBowlsSo 11 (some .boolean) :: wT)) B.pre
  have hts := fun w h => hts0 w (List.mem_cons_of_mem _ h)
  clear hts0
  have hown : s.vm.findClass RL = some m.cls := findClass_of_methodNamed B.named
  have hlocks := B.notSynchronized
  subst hsz
  have hD := hD0.self (sz := s.heap.size)
  have hAz := wA_ge hD0 hz0
  generalize hAe : va_A (([(cXo x an tr xv), (cH cyO (x 1) (x 2) 2 fl), (cXk cyI x xv), (cH cyO (x 4) (x 5) 6 fs), (cT cyI x (X_text xv)), (cSo an nv), (cG cyI an (S_green nv)), (cV cyI an (S_score nv))] : List va_W).flatten) s.heap.size = A at hD hAz ⊢
  have hA : ∀ q : Nat, s.heap.size ≤ q → A q := fun q h => by rw [← hAe]; exact Or.inr h
  clear hD0
  have hS : va_S A s.heap s.heap [] := va_S.rf
  have hl := lv_entry [.ref (x 0)] (n := 11) (Nat.le_of_ble_eq_true rfl)
  rw [lg_entry_eq]
  generalize (lg_sl [.ref (x 0)] ++ List.replicate (11 - (lg_sl [.ref (x 0)]).length) Slot.unset).toArray = ls at hl ⊢
  have hl : lv_has ls 11 [(0, .ref (x 0))] := hl
  unfold f_L_areBowlsSo at hF
  refine lv_aload_n hx hb dL_areBowlsSo_0 rfl (lv_at hl 0 rfl) ?_
  obtain ⟨o1, h2, hF⟩ := obd hF
  refine wcRVi (As := []) (rest := []) (b := (x 0)) ⟨hx, hb, hml, hown, hts⟩ (met_X5_bowls l dC dI cyI cyO x tr an fl fs N xv nv  o1 h2) (cwV 0 hts (gV w_methodLink_L_77 w_instanceMethod_X5_bowls w_selects_X5_bowls w_initialized_X5 w_code_X5_bowls) rfl rfl rfl (by decide +kernel) ⟨Nat.le_of_ble_eq_true rfl, Nat.le_of_ble_eq_true rfl⟩) (va_recv hK.1 hP (ci := 5) (q0 := 0) rfl rfl) hP hK [0, 1, 2, 3, 4, 5, 6, 7, 8, 9, 10, 11, 12, 13, 14, 15, 16, 17, 18, 19, 20] rfl rfl hl.1 (Nat.le_of_ble_eq_true rfl) dL_areBowlsSo_1 ⟨(show _ ≤ 445 from by omega), (show _ ≤ 2670 from by omega)⟩ hS (fun r H locs hw hP hS => ?_)
  have hw := hw.symm
  subst hw
  refine lv_istore_n (lv' := [(1, .int o1), (0, .ref (x 0))]) hx hb dL_areBowlsSo_4 rfl hl (by decide) rfl (fun ls hl => ?_)
  refine lv_iconst (v := 0) hx hb dL_areBowlsSo_5 (by decide) ?_
  refine lv_istore_n (lv' := [(2, .int (0 : Int32)), (1, .int o1), (0, .ref (x 0))]) hx hb dL_areBowlsSo_6 rfl hl (by decide) rfl (fun ls hl => ?_)
  refine lv_aload_n hx hb dL_areBowlsSo_7 rfl (lv_at hl 2 rfl) ?_
  obtain ⟨o3, h4, hF⟩ := obd hF
  refine wcPVi (As := []) (rest := []) (wr := ([] : List va_W).flatten) (b := (x 0)) ⟨hx, hb, hml, hown, hts⟩ (met_X5_pointsByOrder l dC dI cyI cyO x tr an fl fs _ N xv nv  o3 h4) (cwV 0 hts (gV w_methodLink_L_124 w_instanceMethod_X5_pointsByOrder w_selects_X5_pointsByOrder w_initialized_X5 w_code_X5_pointsByOrder) rfl rfl rfl (by decide +kernel) ⟨Nat.le_of_ble_eq_true rfl, Nat.le_of_ble_eq_true rfl⟩) (va_recv hK.1 hP (ci := 5) (q0 := 0) rfl rfl) hP hD hK (seg_perm (n := 8) (R := []) (C := [(cXo x an tr xv), (cH cyO (x 1) (x 2) 2 fl), (cXk cyI x xv), (cH cyO (x 4) (x 5) 6 fs), (cT cyI x (X_text xv)), (cSo an nv), (cG cyI an (S_green nv)), (cV cyI an (S_score nv))]) [] [0, 1, 2, 3, 4, 5, 6, 7] rfl rfl rfl (by decide) rfl) rfl hl.1 (Nat.le_of_ble_eq_true rfl) dL_areBowlsSo_8 ⟨(show _ ≤ 445 from by omega), (show _ ≤ 2670 from by omega)⟩ hS hA (fun r u H locs hw hP hD hS => ?_)
  obtain rfl : r = o3.1 := congrArg Prod.fst hw
  obtain rfl : u = o3.2 := congrArg Prod.snd hw
  clear hw
  have hq := seg_permS (segs := [(cXo x an tr o3.2.1), (cH cyO (x 1) (x 2) 2 fl), (cXk cyI x o3.2.1), (cH cyO (x 4) (x 5) 6 fs), (cT cyI x (X_text o3.2.1)), (cSo an o3.2.2), (cG cyI an (S_green o3.2.2)), (cV cyI an (S_score o3.2.2))]) (R := []) (C := [(cXo x an tr o3.2.1), (cH cyO (x 1) (x 2) 2 fl), (cXk cyI x o3.2.1), (cH cyO (x 4) (x 5) 6 fs), (cT cyI x (X_text o3.2.1)), (cSo an o3.2.2), (cG cyI an (S_green o3.2.2)), (cV cyI an (S_score o3.2.2))]) (n := 8) [] [0, 1, 2, 3, 4, 5, 6, 7] rfl rfl rfl (by decide)
  have hP : va_P (dC, dI) vwCl (([(cXo x an tr o3.2.1), (cH cyO (x 1) (x 2) 2 fl), (cXk cyI x o3.2.1), (cH cyO (x 4) (x 5) 6 fs), (cT cyI x (X_text o3.2.1)), (cSo an o3.2.2), (cG cyI an (S_green o3.2.2)), (cV cyI an (S_score o3.2.2))] : List va_W).flatten) H := hP.perm hq
  have hD : va_D A (([(cXo x an tr o3.2.1), (cH cyO (x 1) (x 2) 2 fl), (cXk cyI x o3.2.1), (cH cyO (x 4) (x 5) 6 fs), (cT cyI x (X_text o3.2.1)), (cSo an o3.2.2), (cG cyI an (S_green o3.2.2)), (cV cyI an (S_score o3.2.2))] : List va_W).flatten) := hD.perm hq
  clear hq
  refine lv_istore_n (lv' := [(3, .int o3.1), (2, .int (0 : Int32)), (1, .int o1), (0, .ref (x 0))]) hx hb dL_areBowlsSo_11 rfl hl (by decide) rfl (fun ls hl => ?_)
  refine lv_iconst (v := -1) hx hb dL_areBowlsSo_12 (by decide) ?_
  refine lv_istore (lv' := [(4, .int (-1 : Int32)), (3, .int o3.1), (2, .int (0 : Int32)), (1, .int o1), (0, .ref (x 0))]) hx hb dL_areBowlsSo_13 hl (by decide) rfl (fun ls hl => ?_)
  refine lv_aload_n hx hb dL_areBowlsSo_15 rfl (lv_at hl 4 rfl) ?_
  obtain ⟨o5, h6, hF⟩ := obd hF
  refine wcRVi (As := []) (rest := []) (b := (x 0)) ⟨hx, hb, hml, hown, hts⟩ (met_X5_isJackThere l dC dI cyI cyO x tr an fl fs N o3.2.1 o3.2.2  o5 h6) (cwV 0 hts (gV w_methodLink_L_74 w_instanceMethod_X5_isJackThere w_selects_X5_isJackThere w_initialized_X5 w_code_X5_isJackThere) rfl rfl rfl (by decide +kernel) ⟨Nat.le_of_ble_eq_true rfl, Nat.le_of_ble_eq_true rfl⟩) (va_recv hK.1 hP (ci := 5) (q0 := 0) rfl rfl) hP hK [0, 1, 2, 3, 4, 5, 6, 7, 8, 9, 10, 11, 12, 13, 14, 15, 16, 17, 18, 19, 20] rfl rfl hl.1 (Nat.le_of_ble_eq_true rfl) dL_areBowlsSo_16 ⟨(show _ ≤ 445 from by omega), (show _ ≤ 2670 from by omega)⟩ hS (fun r H locs hw hP hS => ?_)
  obtain ⟨hw, hz7⟩ := hw
  have hw := hw.symm
  subst hw
  refine lv_istore (lv' := [(5, .int o5), (4, .int (-1 : Int32)), (3, .int o3.1), (2, .int (0 : Int32)), (1, .int o1), (0, .ref (x 0))]) hx hb dL_areBowlsSo_19 hl (by decide) rfl (fun ls hl => ?_)
  refine lv_iload_n hx hb dL_areBowlsSo_21 rfl (lv_at hl 4 rfl) ?_
  refine lv_iconst (v := 2) hx hb dL_areBowlsSo_22 (by decide) ?_
  refine lv_aload_n hx hb dL_areBowlsSo_23 rfl (lv_at hl 5 rfl) ?_
  obtain ⟨o8, h9, hF⟩ := obd hF
  refine wcRVi (As := []) (rest := [.int (2 : Int32), .int o1]) (b := (x 0)) ⟨hx, hb, hml, hown, hts⟩ (met_X5_bowlsOfSide l dC dI cyI cyO x tr an fl fs N o3.2.1 o3.2.2  o8 h9) (cwV 0 hts (gV w_methodLink_L_80 w_instanceMethod_X5_bowlsOfSide w_selects_X5_bowlsOfSide w_initialized_X5 w_code_X5_bowlsOfSide) rfl rfl rfl (by decide +kernel) ⟨Nat.le_of_ble_eq_true rfl, Nat.le_of_ble_eq_true rfl⟩) (va_recv hK.1 hP (ci := 5) (q0 := 0) rfl rfl) hP hK [0, 1, 2, 3, 4, 5, 6, 7, 8, 9, 10, 11, 12, 13, 14, 15, 16, 17, 18, 19, 20] rfl rfl hl.1 (Nat.le_of_ble_eq_true rfl) dL_areBowlsSo_24 ⟨(show _ ≤ 445 from by omega), (show _ ≤ 2670 from by omega)⟩ hS (fun r H locs hw hP hS => ?_)
  have hw := hw.symm
  subst hw
  refine lv_imul hx hb dL_areBowlsSo_27 ?_
  obtain ⟨j148, hj148, hF⟩ := jn_use hF
  have hJ148 : ∀ (s148 : Int32 × XV × SV) (H : Heap) (locs : List Loc) (ls : Array Slot) (hz_148_s0 : b01 s148.1), va_P (dC, dI) vwCl (([(cXo x an tr s148.2.1), (cH cyO (x 1) (x 2) 2 fl), (cXk cyI x s148.2.1), (cH cyO (x 4) (x 5) 6 fs), (cT cyI x (X_text s148.2.1)), (cSo an s148.2.2), (cG cyI an (S_green s148.2.2)), (cV cyI an (S_score s148.2.2))] : List va_W).flatten) H → va_D A (([(cXo x an tr s148.2.1), (cH cyO (x 1) (x 2) 2 fl), (cXk cyI x s148.2.1), (cH cyO (x 4) (x 5) 6 fs), (cT cyI x (X_text s148.2.1)), (cSo an s148.2.2), (cG cyI an (S_green s148.2.2)), (cV cyI an (S_score s148.2.2))] : List va_W).flatten) → va_S A s.heap H locs → lv_has ls 11 [(0, .ref (x 0)), (1, .int o1), (2, .int (0 : Int32)), (3, .int o3.1), (4, .int (-1 : Int32)), (5, .int o5)] → j148 s148 = some out → W p l e (headSpec (Cond.code yL_areBowlsSo cL_areBowlsSo 11 (some .boolean) :: wT) ({ frames := 9, cells := 445, slots := 2670, locals := 147 } : Room)).room s m ([.ref (x 0)] : List Value).toArray below meth c H locs 13 78 (MQ below (va_Qi (fun (r : Int32) (u : XV × SV) => (r, u) = out ∧ b01 r) (fun u t => va_P (dC, dI) vwCl (([(cXo x an tr u.1), (cH cyO (x 1) (x 2) 2 fl), (cXk cyI x u.1), (cH cyO (x 4) (x 5) 6 fs), (cT cyI x (X_text u.1)), (cSo an u.2), (cG cyI an (S_green u.2)), (cV cyI an (S_score u.2))] : List va_W).flatten) t.heap ∧ va_D A (([(cXo x an tr u.1), (cH cyO (x 1) (x 2) 2 fl), (cXk cyI x u.1), (cH cyO (x 4) (x 5) 6 fs), (cT cyI x (X_text u.1)), (cSo an u.2), (cG cyI an (S_green u.2)), (cV cyI an (S_score u.2))] : List va_W).flatten)) A) ([.ref (x 0)] : List Value).toArray s 445 2670 A) (F0 m 148 ls [.int s148.1]) := by
    intro s148 H locs ls hz_148_s0 hP hD hS hl hF
    have hF := (congrFun hj148 s148).symm.trans hF
    refine lv_istore (lv' := [(6, .int s148.1), (0, .ref (x 0)), (1, .int o1), (2, .int (0 : Int32)), (3, .int o3.1), (4, .int (-1 : Int32)), (5, .int o5)]) hx hb dL_areBowlsSo_148 hl (by decide) rfl (fun ls hl => ?_)
    refine lv_iconst (v := 0) hx hb dL_areBowlsSo_150 (by decide) ?_
    refine lv_istore (lv' := [(7, .int (0 : Int32)), (6, .int s148.1), (0, .ref (x 0)), (1, .int o1), (2, .int (0 : Int32)), (3, .int o3.1), (4, .int (-1 : Int32)), (5, .int o5)]) hx hb dL_areBowlsSo_151 hl (by decide) rfl (fun ls hl => ?_)
    obtain ⟨st153, hst153, hF⟩ := lpN_use hF
    have hL153 : ∀ (n153 : Nat) (hn153 : n153 ≤ 10) (s153 : Int32 × Int32 × Int32 × XV × SV) (H : Heap) (locs : List Loc) (ls : Array Slot) (hz_153_6 : b01 s153.2.1), va_P (dC, dI) vwCl (([(cXo x an tr s153.2.2.2.1), (cH cyO (x 1) (x 2) 2 fl), (cXk cyI x s153.2.2.2.1), (cH cyO (x 4) (x 5) 6 fs), (cT cyI x (X_text s153.2.2.2.1)), (cSo an s153.2.2.2.2), (cG cyI an (S_green s153.2.2.2.2)), (cV cyI an (S_score s153.2.2.2.2))] : List va_W).flatten) H → va_D A (([(cXo x an tr s153.2.2.2.1), (cH cyO (x 1) (x 2) 2 fl), (cXk cyI x s153.2.2.2.1), (cH cyO (x 4) (x 5) 6 fs), (cT cyI x (X_text s153.2.2.2.1)), (cSo an s153.2.2.2.2), (cG cyI an (S_green s153.2.2.2.2)), (cV cyI an (S_score s153.2.2.2.2))] : List va_W).flatten) → va_S A s.heap H locs → lv_has ls 11 [(0, .ref (x 0)), (1, .int o1), (2, .int s153.1), (3, .int o3.1), (4, .int (-1 : Int32)), (5, .int o5), (6, .int s153.2.1), (7, .int s153.2.2.1)] → lpN st153 n153 s153 = some out → W p l e (headSpec (Cond.code yL_areBowlsSo cL_areBowlsSo 11 (some .boolean) :: wT) ({ frames := 9, cells := 445, slots := 2670, locals := 147 } : Room)).room s m ([.ref (x 0)] : List Value).toArray below meth c H locs (13 + 35 * (10 - (n153))) (78 + 210 * (10 - (n153))) (MQ below (va_Qi (fun (r : Int32) (u : XV × SV) => (r, u) = out ∧ b01 r) (fun u t => va_P (dC, dI) vwCl (([(cXo x an tr u.1), (cH cyO (x 1) (x 2) 2 fl), (cXk cyI x u.1), (cH cyO (x 4) (x 5) 6 fs), (cT cyI x (X_text u.1)), (cSo an u.2), (cG cyI an (S_green u.2)), (cV cyI an (S_score u.2))] : List va_W).flatten) t.heap ∧ va_D A (([(cXo x an tr u.1), (cH cyO (x 1) (x 2) 2 fl), (cXk cyI x u.1), (cH cyO (x 4) (x 5) 6 fs), (cT cyI x (X_text u.1)), (cSo an u.2), (cG cyI an (S_green u.2)), (cV cyI an (S_score u.2))] : List va_W).flatten)) A) ([.ref (x 0)] : List Value).toArray s 445 2670 A) (F0 m 153 ls []) := by
      intro n153
      induction n153 with
      | zero => intro hn153 s153 H locs ls hz_153_6 hP hD hS hl hF; exact lpN_0 hF
      | succ n153 ih153 =>
        intro hn153 s153 H locs ls hz_153_6 hP hD hS hl hF
        have hF := (congrFun (congrFun hst153 s153) (lpN st153 n153)).symm.trans (lpN_s hF)
        refine lv_iload hx hb dL_areBowlsSo_153 (lv_at hl 7 rfl) ?_
        refine lv_iload_n hx hb dL_areBowlsSo_155 rfl (lv_at hl 1 rfl) ?_
        obtain ⟨j447, hj447, hF⟩ := jn_use hF
        have hJ447 : ∀ (s447 : Unit) (H : Heap) (locs : List Loc) (ls : Array Slot), va_P (dC, dI) vwCl (([(cXo x an tr s153.2.2.2.1), (cH cyO (x 1) (x 2) 2 fl), (cXk cyI x s153.2.2.2.1), (cH cyO (x 4) (x 5) 6 fs), (cT cyI x (X_text s153.2.2.2.1)), (cSo an s153.2.2.2.2), (cG cyI an (S_green s153.2.2.2.2)), (cV cyI an (S_score s153.2.2.2.2))] : List va_W).flatten) H → va_D A (([(cXo x an tr s153.2.2.2.1), (cH cyO (x 1) (x 2) 2 fl), (cXk cyI x s153.2.2.2.1), (cH cyO (x 4) (x 5) 6 fs), (cT cyI x (X_text s153.2.2.2.1)), (cSo an s153.2.2.2.2), (cG cyI an (S_green s153.2.2.2.2)), (cV cyI an (S_score s153.2.2.2.2))] : List va_W).flatten) → va_S A s.heap H locs → lv_has ls 11 [(0, .ref (x 0)), (1, .int o1), (2, .int s153.1), (3, .int o3.1), (4, .int (-1 : Int32)), (5, .int o5), (6, .int s153.2.1)] → j447 s447 = some out → W p l e (headSpec (Cond.code yL_areBowlsSo cL_areBowlsSo 11 (some .boolean) :: wT) ({ frames := 9, cells := 445, slots := 2670, locals := 147 } : Room)).room s m ([.ref (x 0)] : List Value).toArray below meth c H locs (13 + 35 * (10 - (n153 + 1))) (78 + 210 * (10 - (n153 + 1))) (MQ below (va_Qi (fun (r : Int32) (u : XV × SV) => (r, u) = out ∧ b01 r) (fun u t => va_P (dC, dI) vwCl (([(cXo x an tr u.1), (cH cyO (x 1) (x 2) 2 fl), (cXk cyI x u.1), (cH cyO (x 4) (x 5) 6 fs), (cT cyI x (X_text u.1)), (cSo an u.2), (cG cyI an (S_green u.2)), (cV cyI an (S_score u.2))] : List va_W).flatten) t.heap ∧ va_D A (([(cXo x an tr u.1), (cH cyO (x 1) (x 2) 2 fl), (cXk cyI x u.1), (cH cyO (x 4) (x 5) 6 fs), (cT cyI x (X_text u.1)), (cSo an u.2), (cG cyI an (S_green u.2)), (cV cyI an (S_score u.2))] : List va_W).flatten)) A) ([.ref (x 0)] : List Value).toArray s 445 2670 A) (F0 m 447 ls []) := by
          intro s447 H locs ls hP hD hS hl hF
          have hF := (congrFun hj447 s447).symm.trans hF
          refine lv_iconst (v := 0) hx hb dL_areBowlsSo_447 (by decide) ?_
          refine lv_istore (lv' := [(7, .int (0 : Int32)), (0, .ref (x 0)), (1, .int o1), (2, .int s153.1), (3, .int o3.1), (4, .int (-1 : Int32)), (5, .int o5), (6, .int s153.2.1)]) hx hb dL_areBowlsSo_448 hl (by decide) rfl (fun ls hl => ?_)
          obtain ⟨st450, hst450, hF⟩ := lpN_use hF
          have hL450 : ∀ (n450 : Nat) (hn450 : n450 ≤ 10) (s450 : Int32 × Int32 × Int32 × XV × SV) (H : Heap) (locs : List Loc) (ls : Array Slot) (hz_450_6 : b01 s450.2.1), va_P (dC, dI) vwCl (([(cXo x an tr s450.2.2.2.1), (cH cyO (x 1) (x 2) 2 fl), (cXk cyI x s450.2.2.2.1), (cH cyO (x 4) (x 5) 6 fs), (cT cyI x (X_text s450.2.2.2.1)), (cSo an s450.2.2.2.2), (cG cyI an (S_green s450.2.2.2.2)), (cV cyI an (S_score s450.2.2.2.2))] : List va_W).flatten) H → va_D A (([(cXo x an tr s450.2.2.2.1), (cH cyO (x 1) (x 2) 2 fl), (cXk cyI x s450.2.2.2.1), (cH cyO (x 4) (x 5) 6 fs), (cT cyI x (X_text s450.2.2.2.1)), (cSo an s450.2.2.2.2), (cG cyI an (S_green s450.2.2.2.2)), (cV cyI an (S_score s450.2.2.2.2))] : List va_W).flatten) → va_S A s.heap H locs → lv_has ls 11 [(0, .ref (x 0)), (1, .int o1), (2, .int s153.1), (3, .int o3.1), (4, .int s450.1), (5, .int o5), (6, .int s450.2.1), (7, .int s450.2.2.1)] → lpN st450 n450 s450 = some out → W p l e (headSpec (Cond.code yL_areBowlsSo cL_areBowlsSo 11 (some .boolean) :: wT) ({ frames := 9, cells := 445, slots := 2670, locals := 147 } : Room)).room s m ([.ref (x 0)] : List Value).toArray below meth c H locs (13 + 35 * (10 - (n153 + 1)) + 4 * (10 - (n450))) (78 + 210 * (10 - (n153 + 1)) + 24 * (10 - (n450))) (MQ below (va_Qi (fun (r : Int32) (u : XV × SV) => (r, u) = out ∧ b01 r) (fun u t => va_P (dC, dI) vwCl (([(cXo x an tr u.1), (cH cyO (x 1) (x 2) 2 fl), (cXk cyI x u.1), (cH cyO (x 4) (x 5) 6 fs), (cT cyI x (X_text u.1)), (cSo an u.2), (cG cyI an (S_green u.2)), (cV cyI an (S_score u.2))] : List va_W).flatten) t.heap ∧ va_D A (([(cXo x an tr u.1), (cH cyO (x 1) (x 2) 2 fl), (cXk cyI x u.1), (cH cyO (x 4) (x 5) 6 fs), (cT cyI x (X_text u.1)), (cSo an u.2), (cG cyI an (S_green u.2)), (cV cyI an (S_score u.2))] : List va_W).flatten)) A) ([.ref (x 0)] : List Value).toArray s 445 2670 A) (F0 m 450 ls []) := by
            intro n450
            induction n450 with
            | zero => intro hn450 s450 H locs ls hz_450_6 hP hD hS hl hF; exact lpN_0 hF
            | succ n450 ih450 =>
              intro hn450 s450 H locs ls hz_450_6 hP hD hS hl hF
              have hF := (congrFun (congrFun hst450 s450) (lpN st450 n450)).symm.trans (lpN_s hF)
              refine lv_iload hx hb dL_areBowlsSo_450 (lv_at hl 7 rfl) ?_
              refine lv_iload_n hx hb dL_areBowlsSo_452 rfl (lv_at hl 2 rfl) ?_
              obtain ⟨j497, hj497, hF⟩ := jn_use hF
              have hJ497 : ∀ (s497 : Unit) (H : Heap) (locs : List Loc) (ls : Array Slot), va_P (dC, dI) vwCl (([(cXo x an tr s450.2.2.2.1), (cH cyO (x 1) (x 2) 2 fl), (cXk cyI x s450.2.2.2.1), (cH cyO (x 4) (x 5) 6 fs), (cT cyI x (X_text s450.2.2.2.1)), (cSo an s450.2.2.2.2), (cG cyI an (S_green s450.2.2.2.2)), (cV cyI an (S_score s450.2.2.2.2))] : List va_W).flatten) H → va_D A (([(cXo x an tr s450.2.2.2.1), (cH cyO (x 1) (x 2) 2 fl), (cXk cyI x s450.2.2.2.1), (cH cyO (x 4) (x 5) 6 fs), (cT cyI x (X_text s450.2.2.2.1)), (cSo an s450.2.2.2.2), (cG cyI an (S_green s450.2.2.2.2)), (cV cyI an (S_score s450.2.2.2.2))] : List va_W).flatten) → va_S A s.heap H locs → lv_has ls 11 [(0, .ref (x 0)), (1, .int o1), (2, .int s153.1), (3, .int o3.1), (5, .int o5), (6, .int s450.2.1)] → j497 s497 = some out → W p l e (headSpec (Cond.code yL_areBowlsSo cL_areBowlsSo 11 (some .boolean) :: wT) ({ frames := 9, cells := 445, slots := 2670, locals := 147 } : Room)).room s m ([.ref (x 0)] : List Value).toArray below meth c H locs (13 + 35 * (10 - (n153 + 1)) + 4 * (10 - (n450 + 1))) (78 + 210 * (10 - (n153 + 1)) + 24 * (10 - (n450 + 1))) (MQ below (va_Qi (fun (r : Int32) (u : XV × SV) => (r, u) = out ∧ b01 r) (fun u t => va_P (dC, dI) vwCl (([(cXo x an tr u.1), (cH cyO (x 1) (x 2) 2 fl), (cXk cyI x u.1), (cH cyO (x 4) (x 5) 6 fs), (cT cyI x (X_text u.1)), (cSo an u.2), (cG cyI an (S_green u.2)), (cV cyI an (S_score u.2))] : List va_W).flatten) t.heap ∧ va_D A (([(cXo x an tr u.1), (cH cyO (x 1) (x 2) 2 fl), (cXk cyI x u.1), (cH cyO (x 4) (x 5) 6 fs), (cT cyI x (X_text u.1)), (cSo an u.2), (cG cyI an (S_green u.2)), (cV cyI an (S_score u.2))] : List va_W).flatten)) A) ([.ref (x 0)] : List Value).toArray s 445 2670 A) (F0 m 497 ls []) := by
                intro s497 H locs ls hP hD hS hl hF
                have hF := (congrFun hj497 s497).symm.trans hF
                refine lv_iload hx hb dL_areBowlsSo_497 (lv_at hl 5 rfl) ?_
                obtain ⟨j673, hj673, hF⟩ := jn_use hF
                have hJ673 : ∀ (s673 : Int32 × XV × SV) (H : Heap) (locs : List Loc) (ls : Array Slot) (hz_673_s0 : b01 s673.1), va_P (dC, dI) vwCl (([(cXo x an tr s673.2.1), (cH cyO (x 1) (x 2) 2 fl), (cXk cyI x s673.2.1), (cH cyO (x 4) (x 5) 6 fs), (cT cyI x (X_text s673.2.1)), (cSo an s673.2.2), (cG cyI an (S_green s673.2.2)), (cV cyI an (S_score s673.2.2))] : List va_W).flatten) H → va_D A (([(cXo x an tr s673.2.1), (cH cyO (x 1) (x 2) 2 fl), (cXk cyI x s673.2.1), (cH cyO (x 4) (x 5) 6 fs), (cT cyI x (X_text s673.2.1)), (cSo an s673.2.2), (cG cyI an (S_green s673.2.2)), (cV cyI an (S_score s673.2.2))] : List va_W).flatten) → va_S A s.heap H locs → lv_has ls 11 [] → j673 s673 = some out → W p l e (headSpec (Cond.code yL_areBowlsSo cL_areBowlsSo 11 (some .boolean) :: wT) ({ frames := 9, cells := 445, slots := 2670, locals := 147 } : Room)).room s m ([.ref (x 0)] : List Value).toArray below meth c H locs (55 + 35 * (10 - (n153 + 1)) + 4 * (10 - (n450 + 1))) (330 + 210 * (10 - (n153 + 1)) + 24 * (10 - (n450 + 1))) (MQ below (va_Qi (fun (r : Int32) (u : XV × SV) => (r, u) = out ∧ b01 r) (fun u t => va_P (dC, dI) vwCl (([(cXo x an tr u.1), (cH cyO (x 1) (x 2) 2 fl), (cXk cyI x u.1), (cH cyO (x 4) (x 5) 6 fs), (cT cyI x (X_text u.1)), (cSo an u.2), (cG cyI an (S_green u.2)), (cV cyI an (S_score u.2))] : List va_W).flatten) t.heap ∧ va_D A (([(cXo x an tr u.1), (cH cyO (x 1) (x 2) 2 fl), (cXk cyI x u.1), (cH cyO (x 4) (x 5) 6 fs), (cT cyI x (X_text u.1)), (cSo an u.2), (cG cyI an (S_green u.2)), (cV cyI an (S_score u.2))] : List va_W).flatten)) A) ([.ref (x 0)] : List Value).toArray s 445 2670 A) (F0 m 673 ls [.int s673.1]) := by
                  intro s673 H locs ls hz_673_s0 hP hD hS hl hF
                  have hF := (congrFun hj673 s673).symm.trans hF
                  refine W.widen (k := 445) (n := 2670) (by omega) (by omega) ?_
                  exact W.zret (ty := .boolean) (v := s673.1) hx hb hr (b01_n hz_673_s0) (fun t ht hW => ⟨⟨_, (s673.2.1, s673.2.2), rfl, ⟨Option.some.inj hF, hz_673_s0⟩, by rw [ht]; exact hP, hD⟩, hS.F ht⟩) hS.2.2 dL_areBowlsSo_673
                obtain ⟨j672, hj672, hF⟩ := jn_use hF
                have hJ672 : ∀ (s672 : XV × SV) (H : Heap) (locs : List Loc) (ls : Array Slot), va_P (dC, dI) vwCl (([(cXo x an tr s672.1), (cH cyO (x 1) (x 2) 2 fl), (cXk cyI x s672.1), (cH cyO (x 4) (x 5) 6 fs), (cT cyI x (X_text s672.1)), (cSo an s672.2), (cG cyI an (S_green s672.2)), (cV cyI an (S_score s672.2))] : List va_W).flatten) H → va_D A (([(cXo x an tr s672.1), (cH cyO (x 1) (x 2) 2 fl), (cXk cyI x s672.1), (cH cyO (x 4) (x 5) 6 fs), (cT cyI x (X_text s672.1)), (cSo an s672.2), (cG cyI an (S_green s672.2)), (cV cyI an (S_score s672.2))] : List va_W).flatten) → va_S A s.heap H locs → lv_has ls 11 [] → j672 s672 = some out → W p l e (headSpec (Cond.code yL_areBowlsSo cL_areBowlsSo 11 (some .boolean) :: wT) ({ frames := 9, cells := 445, slots := 2670, locals := 147 } : Room)).room s m ([.ref (x 0)] : List Value).toArray below meth c H locs (55 + 35 * (10 - (n153 + 1)) + 4 * (10 - (n450 + 1))) (330 + 210 * (10 - (n153 + 1)) + 24 * (10 - (n450 + 1))) (MQ below (va_Qi (fun (r : Int32) (u : XV × SV) => (r, u) = out ∧ b01 r) (fun u t => va_P (dC, dI) vwCl (([(cXo x an tr u.1), (cH cyO (x 1) (x 2) 2 fl), (cXk cyI x u.1), (cH cyO (x 4) (x 5) 6 fs), (cT cyI x (X_text u.1)), (cSo an u.2), (cG cyI an (S_green u.2)), (cV cyI an (S_score u.2))] : List va_W).flatten) t.heap ∧ va_D A (([(cXo x an tr u.1), (cH cyO (x 1) (x 2) 2 fl), (cXk cyI x u.1), (cH cyO (x 4) (x 5) 6 fs), (cT cyI x (X_text u.1)), (cSo an u.2), (cG cyI an (S_green u.2)), (cV cyI an (S_score u.2))] : List va_W).flatten)) A) ([.ref (x 0)] : List Value).toArray s 445 2670 A) (F0 m 672 ls []) := by
                  intro s672 H locs ls hP hD hS hl hF
                  have hF := (congrFun hj672 s672).symm.trans hF
                  refine lv_iconst (v := 0) hx hb dL_areBowlsSo_672 (by decide) ?_
                  refine W.widen (k := (55 + 35 * (10 - (n153 + 1)) + 4 * (10 - (n450 + 1)))) (n := (330 + 210 * (10 - (n153 + 1)) + 24 * (10 - (n450 + 1)))) (by omega) (by omega) ?_
                  exact hJ673 ((0 : Int32), s672.1, s672.2) _ _ _ b01_0 hP hD hS (lv_sub hl [] rfl) hF
                refine lv_if_eq (tgt := 672) hx hb dL_areBowlsSo_499 (by decide) (fun c10 => ?_) (fun c10 => ?_)
                · have hF := itp c10 hF
                  refine W.widen (k := (55 + 35 * (10 - (n153 + 1)) + 4 * (10 - (n450 + 1)))) (n := (330 + 210 * (10 - (n153 + 1)) + 24 * (10 - (n450 + 1)))) (by omega) (by omega) ?_
                  exact hJ672 (s450.2.2.2.1, s450.2.2.2.2) _ _ _ hP hD hS (lv_sub hl [] rfl) hF
                · have hF := itn c10 hF
                  refine lv_aload_n hx hb dL_areBowlsSo_502 rfl (lv_at hl 0 rfl) ?_
                  refine lv_iconst (v := 0) hx hb dL_areBowlsSo_503 (by decide) ?_
                  obtain ⟨o11, h12, hF⟩ := obd hF
                  refine wxRVi (As := [.int (0 : Int32)]) (rest := []) (b := (x 0)) ⟨hx, hb, hml, hown, hts⟩ (met_X5_aliveOf l z0 hst dC dI cyI cyO x tr an fl fs N s450.2.2.2.1 s450.2.2.2.2 (0 : Int32) o11 h12) (cwV 1 hts (gV w_methodLink_L_161 w_instanceMethod_X5_aliveOf w_selects_X5_aliveOf w_initialized_X5 w_code_X5_aliveOf) rfl rfl rfl (by decide +kernel) ⟨Nat.le_of_ble_eq_true rfl, Nat.le_of_ble_eq_true rfl⟩) (va_recv hK.1 hP (ci := 5) (q0 := 0) rfl rfl) hP hK hZ hAz [0, 1, 2, 3, 4, 5, 6, 7, 8, 9, 10, 11, 12, 13, 14, 15, 16, 17, 18, 19, 20] rfl rfl hl.1 (Nat.le_of_ble_eq_true rfl) dL_areBowlsSo_504 ⟨(show _ ≤ 445 from by omega), (show _ ≤ 2670 from by omega)⟩ hS (fun k ce q9 H locs hw hP hS h9 hv9 hc9 => ?_) (fun ro11 H locs hw hP hS => ?_)
                  · have hw := hw.symm
                    subst hw
                    have hF := exc_l hF
                    cases hF
                  · skip
                    have hw := hw.symm
                    subst hw
                    have hF := exc_r hF
                    refine lv_aload_n hx hb dL_areBowlsSo_507 rfl (lv_at hl 0 rfl) ?_
                    refine lv_iconst (v := 1) hx hb dL_areBowlsSo_508 (by decide) ?_
                    obtain ⟨o13, h14, hF⟩ := obd hF
                    refine wxRVi (As := [.int (1 : Int32)]) (rest := [.int ro11]) (b := (x 0)) ⟨hx, hb, hml, hown, hts⟩ (met_X5_aliveOf l z0 hst dC dI cyI cyO x tr an fl fs N s450.2.2.2.1 s450.2.2.2.2 (1 : Int32) o13 h14) (cwV 1 hts (gV w_methodLink_L_161 w_instanceMethod_X5_aliveOf w_selects_X5_aliveOf w_initialized_X5 w_code_X5_aliveOf) rfl rfl rfl (by decide +kernel) ⟨Nat.le_of_ble_eq_true rfl, Nat.le_of_ble_eq_true rfl⟩) (va_recv hK.1 hP (ci := 5) (q0 := 0) rfl rfl) hP hK hZ hAz [0, 1, 2, 3, 4, 5, 6, 7, 8, 9, 10, 11, 12, 13, 14, 15, 16, 17, 18, 19, 20] rfl rfl hl.1 (Nat.le_of_ble_eq_true rfl) dL_areBowlsSo_509 ⟨(show _ ≤ 445 from by omega), (show _ ≤ 2670 from by omega)⟩ hS (fun k ce q9 H locs hw hP hS h9 hv9 hc9 => ?_) (fun ro13 H locs hw hP hS => ?_)
                    · have hw := hw.symm
                      subst hw
                      have hF := exc_l hF
                      cases hF
                    · skip
                      have hw := hw.symm
                      subst hw
                      have hF := exc_r hF
                      refine lv_iadd hx hb dL_areBowlsSo_512 ?_
                      refine lv_iload_n hx hb dL_areBowlsSo_513 rfl (lv_at hl 2 rfl) ?_
                      refine lv_icmp_ne (tgt := 672) hx hb dL_areBowlsSo_514 (by decide) (fun c15 => ?_) (fun c15 => ?_)
                      · have hF := itn c15 hF
                        refine W.widen (k := (55 + 35 * (10 - (n153 + 1)) + 4 * (10 - (n450 + 1)))) (n := (330 + 210 * (10 - (n153 + 1)) + 24 * (10 - (n450 + 1)))) (by omega) (by omega) ?_
                        exact hJ672 (s450.2.2.2.1, s450.2.2.2.2) _ _ _ hP hD hS (lv_sub hl [] rfl) hF
                      · have hF := itp c15 hF
                        refine lv_aload_n hx hb dL_areBowlsSo_517 rfl (lv_at hl 0 rfl) ?_
                        refine lv_iconst (v := 4) hx hb dL_areBowlsSo_518 (by decide) ?_
                        refine lv_iconst (v := 0) hx hb dL_areBowlsSo_519 (by decide) ?_
                        obtain ⟨o16, h17, hF⟩ := obd hF
                        refine wcLi (As := [.ref (x 0), .int (4 : Int32), .int (0 : Int32)]) (rest := []) (wr := ([] : List va_W).flatten) ⟨hx, hb, hml, hown, hts⟩ (met_L_looks l z0 hst dC dI cyI cyO x tr an fl fs _ N s450.2.2.2.1 s450.2.2.2.2 (4 : Int32) (0 : Int32) o16 h17) (vx_cwSW 3 hts (gS w_methodLink_L_93 w_static_L_looks w_initialized_L w_codeW_L_looks) rfl rfl rfl (by decide +kernel) ⟨Nat.le_of_ble_eq_true rfl, Nat.le_of_ble_eq_true rfl⟩) hP hD hK hZ hAz hz0 (seg_perm (n := 8) (R := []) (C := [(cXo x an tr s450.2.2.2.1), (cH cyO (x 1) (x 2) 2 fl), (cXk cyI x s450.2.2.2.1), (cH cyO (x 4) (x 5) 6 fs), (cT cyI x (X_text s450.2.2.2.1)), (cSo an s450.2.2.2.2), (cG cyI an (S_green s450.2.2.2.2)), (cV cyI an (S_score s450.2.2.2.2))]) [] [0, 1, 2, 3, 4, 5, 6, 7] rfl rfl rfl (by decide) rfl) rfl hl.1 (Nat.le_of_ble_eq_true rfl) dL_areBowlsSo_520 ⟨(show _ ≤ 445 from by omega), (show _ ≤ 2670 from by omega)⟩ hS hA (fun r u H locs hw hP hD hS => ?_)
                        obtain rfl : r = o16.1 := congrArg Prod.fst hw
                        obtain rfl : u = o16.2 := congrArg Prod.snd hw
                        clear hw
                        have hq := seg_permS (segs := [(cXo x an tr o16.2.1), (cH cyO (x 1) (x 2) 2 fl), (cXk cyI x o16.2.1), (cH cyO (x 4) (x 5) 6 fs), (cT cyI x (X_text o16.2.1)), (cSo an o16.2.2), (cG cyI an (S_green o16.2.2)), (cV cyI an (S_score o16.2.2))]) (R := []) (C := [(cXo x an tr o16.2.1), (cH cyO (x 1) (x 2) 2 fl), (cXk cyI x o16.2.1), (cH cyO (x 4) (x 5) 6 fs), (cT cyI x (X_text o16.2.1)), (cSo an o16.2.2), (cG cyI an (S_green o16.2.2)), (cV cyI an (S_score o16.2.2))]) (n := 8) [] [0, 1, 2, 3, 4, 5, 6, 7] rfl rfl rfl (by decide)
                        have hP : va_P (dC, dI) vwCl (([(cXo x an tr o16.2.1), (cH cyO (x 1) (x 2) 2 fl), (cXk cyI x o16.2.1), (cH cyO (x 4) (x 5) 6 fs), (cT cyI x (X_text o16.2.1)), (cSo an o16.2.2), (cG cyI an (S_green o16.2.2)), (cV cyI an (S_score o16.2.2))] : List va_W).flatten) H := hP.perm hq
                        have hD : va_D A (([(cXo x an tr o16.2.1), (cH cyO (x 1) (x 2) 2 fl), (cXk cyI x o16.2.1), (cH cyO (x 4) (x 5) 6 fs), (cT cyI x (X_text o16.2.1)), (cSo an o16.2.2), (cG cyI an (S_green o16.2.2)), (cV cyI an (S_score o16.2.2))] : List va_W).flatten) := hD.perm hq
                        clear hq
                        refine lv_bipush (v := -9) hx hb dL_areBowlsSo_523 (by decide) ?_
                        obtain ⟨j533, hj533, hF⟩ := jn_use hF
                        have hJ533 : ∀ (s533 : Int32) (H : Heap) (locs : List Loc) (ls : Array Slot) (hz_533_s0 : b01 s533), va_P (dC, dI) vwCl (([(cXo x an tr o16.2.1), (cH cyO (x 1) (x 2) 2 fl), (cXk cyI x o16.2.1), (cH cyO (x 4) (x 5) 6 fs), (cT cyI x (X_text o16.2.1)), (cSo an o16.2.2), (cG cyI an (S_green o16.2.2)), (cV cyI an (S_score o16.2.2))] : List va_W).flatten) H → va_D A (([(cXo x an tr o16.2.1), (cH cyO (x 1) (x 2) 2 fl), (cXk cyI x o16.2.1), (cH cyO (x 4) (x 5) 6 fs), (cT cyI x (X_text o16.2.1)), (cSo an o16.2.2), (cG cyI an (S_green o16.2.2)), (cV cyI an (S_score o16.2.2))] : List va_W).flatten) → va_S A s.heap H locs → lv_has ls 11 [(0, .ref (x 0)), (1, .int o1), (2, .int s153.1), (3, .int o3.1), (5, .int o5)] → j533 s533 = some out → W p l e (headSpec (Cond.code yL_areBowlsSo cL_areBowlsSo 11 (some .boolean) :: wT) ({ frames := 9, cells := 445, slots := 2670, locals := 147 } : Room)).room s m ([.ref (x 0)] : List Value).toArray below meth c H locs (24 + 35 * (10 - (n153 + 1)) + 4 * (10 - (n450 + 1))) (144 + 210 * (10 - (n153 + 1)) + 24 * (10 - (n450 + 1))) (MQ below (va_Qi (fun (r : Int32) (u : XV × SV) => (r, u) = out ∧ b01 r) (fun u t => va_P (dC, dI) vwCl (([(cXo x an tr u.1), (cH cyO (x 1) (x 2) 2 fl), (cXk cyI x u.1), (cH cyO (x 4) (x 5) 6 fs), (cT cyI x (X_text u.1)), (cSo an u.2), (cG cyI an (S_green u.2)), (cV cyI an (S_score u.2))] : List va_W).flatten) t.heap ∧ va_D A (([(cXo x an tr u.1), (cH cyO (x 1) (x 2) 2 fl), (cXk cyI x u.1), (cH cyO (x 4) (x 5) 6 fs), (cT cyI x (X_text u.1)), (cSo an u.2), (cG cyI an (S_green u.2)), (cV cyI an (S_score u.2))] : List va_W).flatten)) A) ([.ref (x 0)] : List Value).toArray s 445 2670 A) (F0 m 533 ls [.int s533]) := by
                          intro s533 H locs ls hz_533_s0 hP hD hS hl hF
                          have hF := (congrFun hj533 s533).symm.trans hF
                          refine lv_iload hx hb dL_areBowlsSo_533 (lv_at hl 4 rfl) ?_
                          obtain ⟨j560, hj560, hF⟩ := jn_use hF
                          have hJ560 : ∀ (s560 : Int32) (H : Heap) (locs : List Loc) (ls : Array Slot) (hz_560_s1 : b01 s560), va_P (dC, dI) vwCl (([(cXo x an tr o16.2.1), (cH cyO (x 1) (x 2) 2 fl), (cXk cyI x o16.2.1), (cH cyO (x 4) (x 5) 6 fs), (cT cyI x (X_text o16.2.1)), (cSo an o16.2.2), (cG cyI an (S_green o16.2.2)), (cV cyI an (S_score o16.2.2))] : List va_W).flatten) H → va_D A (([(cXo x an tr o16.2.1), (cH cyO (x 1) (x 2) 2 fl), (cXk cyI x o16.2.1), (cH cyO (x 4) (x 5) 6 fs), (cT cyI x (X_text o16.2.1)), (cSo an o16.2.2), (cG cyI an (S_green o16.2.2)), (cV cyI an (S_score o16.2.2))] : List va_W).flatten) → va_S A s.heap H locs → lv_has ls 11 [(0, .ref (x 0)), (2, .int s153.1), (3, .int o3.1)] → j560 s560 = some out → W p l e (headSpec (Cond.code yL_areBowlsSo cL_areBowlsSo 11 (some .boolean) :: wT) ({ frames := 9, cells := 445, slots := 2670, locals := 147 } : Room)).room s m ([.ref (x 0)] : List Value).toArray below meth c H locs (24 + 35 * (10 - (n153 + 1)) + 4 * (10 - (n450 + 1))) (144 + 210 * (10 - (n153 + 1)) + 24 * (10 - (n450 + 1))) (MQ below (va_Qi (fun (r : Int32) (u : XV × SV) => (r, u) = out ∧ b01 r) (fun u t => va_P (dC, dI) vwCl (([(cXo x an tr u.1), (cH cyO (x 1) (x 2) 2 fl), (cXk cyI x u.1), (cH cyO (x 4) (x 5) 6 fs), (cT cyI x (X_text u.1)), (cSo an u.2), (cG cyI an (S_green u.2)), (cV cyI an (S_score u.2))] : List va_W).flatten) t.heap ∧ va_D A (([(cXo x an tr u.1), (cH cyO (x 1) (x 2) 2 fl), (cXk cyI x u.1), (cH cyO (x 4) (x 5) 6 fs), (cT cyI x (X_text u.1)), (cSo an u.2), (cG cyI an (S_green u.2)), (cV cyI an (S_score u.2))] : List va_W).flatten)) A) ([.ref (x 0)] : List Value).toArray s 445 2670 A) (F0 m 560 ls [.int s560, .int s533]) := by
                            intro s560 H locs ls hz_560_s1 hP hD hS hl hF
                            have hF := (congrFun hj560 s560).symm.trans hF
                            refine lv_icmp_ne (tgt := 672) hx hb dL_areBowlsSo_560 (by decide) (fun c18 => ?_) (fun c18 => ?_)
                            · have hF := itn c18 hF
                              refine W.widen (k := (55 + 35 * (10 - (n153 + 1)) + 4 * (10 - (n450 + 1)))) (n := (330 + 210 * (10 - (n153 + 1)) + 24 * (10 - (n450 + 1)))) (by omega) (by omega) ?_
                              exact hJ672 (o16.2.1, o16.2.2) _ _ _ hP hD hS (lv_sub hl [] rfl) hF
                            · have hF := itp c18 hF
                              refine lv_aload_n hx hb dL_areBowlsSo_563 rfl (lv_at hl 0 rfl) ?_
                              refine lv_iconst (v := 3) hx hb dL_areBowlsSo_564 (by decide) ?_
                              refine lv_iconst (v := 0) hx hb dL_areBowlsSo_565 (by decide) ?_
                              obtain ⟨o19, h20, hF⟩ := obd hF
                              refine wcLi (As := [.ref (x 0), .int (3 : Int32), .int (0 : Int32)]) (rest := []) (wr := ([] : List va_W).flatten) ⟨hx, hb, hml, hown, hts⟩ (met_L_looks l z0 hst dC dI cyI cyO x tr an fl fs _ N o16.2.1 o16.2.2 (3 : Int32) (0 : Int32) o19 h20) (vx_cwSW 3 hts (gS w_methodLink_L_93 w_static_L_looks w_initialized_L w_codeW_L_looks) rfl rfl rfl (by decide +kernel) ⟨Nat.le_of_ble_eq_true rfl, Nat.le_of_ble_eq_true rfl⟩) hP hD hK hZ hAz hz0 (seg_perm (n := 8) (R := []) (C := [(cXo x an tr o16.2.1), (cH cyO (x 1) (x 2) 2 fl), (cXk cyI x o16.2.1), (cH cyO (x 4) (x 5) 6 fs), (cT cyI x (X_text o16.2.1)), (cSo an o16.2.2), (cG cyI an (S_green o16.2.2)), (cV cyI an (S_score o16.2.2))]) [] [0, 1, 2, 3, 4, 5, 6, 7] rfl rfl rfl (by decide) rfl) rfl hl.1 (Nat.le_of_ble_eq_true rfl) dL_areBowlsSo_566 ⟨(show _ ≤ 445 from by omega), (show _ ≤ 2670 from by omega)⟩ hS hA (fun r u H locs hw hP hD hS => ?_)
                              obtain rfl : r = o19.1 := congrArg Prod.fst hw
                              obtain rfl : u = o19.2 := congrArg Prod.snd hw
                              clear hw
                              have hq := seg_permS (segs := [(cXo x an tr o19.2.1), (cH cyO (x 1) (x 2) 2 fl), (cXk cyI x o19.2.1), (cH cyO (x 4) (x 5) 6 fs), (cT cyI x (X_text o19.2.1)), (cSo an o19.2.2), (cG cyI an (S_green o19.2.2)), (cV cyI an (S_score o19.2.2))]) (R := []) (C := [(cXo x an tr o19.2.1), (cH cyO (x 1) (x 2) 2 fl), (cXk cyI x o19.2.1), (cH cyO (x 4) (x 5) 6 fs), (cT cyI x (X_text o19.2.1)), (cSo an o19.2.2), (cG cyI an (S_green o19.2.2)), (cV cyI an (S_score o19.2.2))]) (n := 8) [] [0, 1, 2, 3, 4, 5, 6, 7] rfl rfl rfl (by decide)
                              have hP : va_P (dC, dI) vwCl (([(cXo x an tr o19.2.1), (cH cyO (x 1) (x 2) 2 fl), (cXk cyI x o19.2.1), (cH cyO (x 4) (x 5) 6 fs), (cT cyI x (X_text o19.2.1)), (cSo an o19.2.2), (cG cyI an (S_green o19.2.2)), (cV cyI an (S_score o19.2.2))] : List va_W).flatten) H := hP.perm hq
                              have hD : va_D A (([(cXo x an tr o19.2.1), (cH cyO (x 1) (x 2) 2 fl), (cXk cyI x o19.2.1), (cH cyO (x 4) (x 5) 6 fs), (cT cyI x (X_text o19.2.1)), (cSo an o19.2.2), (cG cyI an (S_green o19.2.2)), (cV cyI an (S_score o19.2.2))] : List va_W).flatten) := hD.perm hq
                              clear hq
                              refine lv_bipush (v := -9) hx hb dL_areBowlsSo_569 (by decide) ?_
                              obtain ⟨j579, hj579, hF⟩ := jn_use hF
                              have hJ579 : ∀ (s579 : Int32) (H : Heap) (locs : List Loc) (ls : Array Slot) (hz_579_s0 : b01 s579), va_P (dC, dI) vwCl (([(cXo x an tr o19.2.1), (cH cyO (x 1) (x 2) 2 fl), (cXk cyI x o19.2.1), (cH cyO (x 4) (x 5) 6 fs), (cT cyI x (X_text o19.2.1)), (cSo an o19.2.2), (cG cyI an (S_green o19.2.2)), (cV cyI an (S_score o19.2.2))] : List va_W).flatten) H → va_D A (([(cXo x an tr o19.2.1), (cH cyO (x 1) (x 2) 2 fl), (cXk cyI x o19.2.1), (cH cyO (x 4) (x 5) 6 fs), (cT cyI x (X_text o19.2.1)), (cSo an o19.2.2), (cG cyI an (S_green o19.2.2)), (cV cyI an (S_score o19.2.2))] : List va_W).flatten) → va_S A s.heap H locs → lv_has ls 11 [(0, .ref (x 0)), (2, .int s153.1), (3, .int o3.1)] → j579 s579 = some out → W p l e (headSpec (Cond.code yL_areBowlsSo cL_areBowlsSo 11 (some .boolean) :: wT) ({ frames := 9, cells := 445, slots := 2670, locals := 147 } : Room)).room s m ([.ref (x 0)] : List Value).toArray below meth c H locs (33 + 35 * (10 - (n153 + 1)) + 4 * (10 - (n450 + 1))) (198 + 210 * (10 - (n153 + 1)) + 24 * (10 - (n450 + 1))) (MQ below (va_Qi (fun (r : Int32) (u : XV × SV) => (r, u) = out ∧ b01 r) (fun u t => va_P (dC, dI) vwCl (([(cXo x an tr u.1), (cH cyO (x 1) (x 2) 2 fl), (cXk cyI x u.1), (cH cyO (x 4) (x 5) 6 fs), (cT cyI x (X_text u.1)), (cSo an u.2), (cG cyI an (S_green u.2)), (cV cyI an (S_score u.2))] : List va_W).flatten) t.heap ∧ va_D A (([(cXo x an tr u.1), (cH cyO (x 1) (x 2) 2 fl), (cXk cyI x u.1), (cH cyO (x 4) (x 5) 6 fs), (cT cyI x (X_text u.1)), (cSo an u.2), (cG cyI an (S_green u.2)), (cV cyI an (S_score u.2))] : List va_W).flatten)) A) ([.ref (x 0)] : List Value).toArray s 445 2670 A) (F0 m 579 ls [.int s579]) := by
                                intro s579 H locs ls hz_579_s0 hP hD hS hl hF
                                have hF := (congrFun hj579 s579).symm.trans hF
                                refine lv_aload_n hx hb dL_areBowlsSo_579 rfl (lv_at hl 0 rfl) ?_
                                refine lv_iconst (v := 0) hx hb dL_areBowlsSo_580 (by decide) ?_
                                obtain ⟨o21, h22, hF⟩ := obd hF
                                refine wxRVi (As := [.int (0 : Int32)]) (rest := [.int s579]) (b := (x 0)) ⟨hx, hb, hml, hown, hts⟩ (met_X5_aliveOf l z0 hst dC dI cyI cyO x tr an fl fs N o19.2.1 o19.2.2 (0 : Int32) o21 h22) (cwV 1 hts (gV w_methodLink_L_161 w_instanceMethod_X5_aliveOf w_selects_X5_aliveOf w_initialized_X5 w_code_X5_aliveOf) rfl rfl rfl (by decide +kernel) ⟨Nat.le_of_ble_eq_true rfl, Nat.le_of_ble_eq_true rfl⟩) (va_recv hK.1 hP (ci := 5) (q0 := 0) rfl rfl) hP hK hZ hAz [0, 1, 2, 3, 4, 5, 6, 7, 8, 9, 10, 11, 12, 13, 14, 15, 16, 17, 18, 19, 20] rfl rfl hl.1 (Nat.le_of_ble_eq_true rfl) dL_areBowlsSo_581 ⟨(show _ ≤ 445 from by omega), (show _ ≤ 2670 from by omega)⟩ hS (fun k ce q9 H locs hw hP hS h9 hv9 hc9 => ?_) (fun ro21 H locs hw hP hS => ?_)
                                · have hw := hw.symm
                                  subst hw
                                  have hF := exc_l hF
                                  cases hF
                                · skip
                                  have hw := hw.symm
                                  subst hw
                                  have hF := exc_r hF
                                  obtain ⟨j600, hj600, hF⟩ := jn_use hF
                                  have hJ600 : ∀ (s600 : Int32) (H : Heap) (locs : List Loc) (ls : Array Slot) (hz_600_s1 : b01 s600), va_P (dC, dI) vwCl (([(cXo x an tr o19.2.1), (cH cyO (x 1) (x 2) 2 fl), (cXk cyI x o19.2.1), (cH cyO (x 4) (x 5) 6 fs), (cT cyI x (X_text o19.2.1)), (cSo an o19.2.2), (cG cyI an (S_green o19.2.2)), (cV cyI an (S_score o19.2.2))] : List va_W).flatten) H → va_D A (([(cXo x an tr o19.2.1), (cH cyO (x 1) (x 2) 2 fl), (cXk cyI x o19.2.1), (cH cyO (x 4) (x 5) 6 fs), (cT cyI x (X_text o19.2.1)), (cSo an o19.2.2), (cG cyI an (S_green o19.2.2)), (cV cyI an (S_score o19.2.2))] : List va_W).flatten) → va_S A s.heap H locs → lv_has ls 11 [(0, .ref (x 0)), (2, .int s153.1), (3, .int o3.1)] → j600 s600 = some out → W p l e (headSpec (Cond.code yL_areBowlsSo cL_areBowlsSo 11 (some .boolean) :: wT) ({ frames := 9, cells := 445, slots := 2670, locals := 147 } : Room)).room s m ([.ref (x 0)] : List Value).toArray below meth c H locs (35 + 35 * (10 - (n153 + 1)) + 4 * (10 - (n450 + 1))) (210 + 210 * (10 - (n153 + 1)) + 24 * (10 - (n450 + 1))) (MQ below (va_Qi (fun (r : Int32) (u : XV × SV) => (r, u) = out ∧ b01 r) (fun u t => va_P (dC, dI) vwCl (([(cXo x an tr u.1), (cH cyO (x 1) (x 2) 2 fl), (cXk cyI x u.1), (cH cyO (x 4) (x 5) 6 fs), (cT cyI x (X_text u.1)), (cSo an u.2), (cG cyI an (S_green u.2)), (cV cyI an (S_score u.2))] : List va_W).flatten) t.heap ∧ va_D A (([(cXo x an tr u.1), (cH cyO (x 1) (x 2) 2 fl), (cXk cyI x u.1), (cH cyO (x 4) (x 5) 6 fs), (cT cyI x (X_text u.1)), (cSo an u.2), (cG cyI an (S_green u.2)), (cV cyI an (S_score u.2))] : List va_W).flatten)) A) ([.ref (x 0)] : List Value).toArray s 445 2670 A) (F0 m 600 ls [.int s600, .int s579]) := by
                                    intro s600 H locs ls hz_600_s1 hP hD hS hl hF
                                    have hF := (congrFun hj600 s600).symm.trans hF
                                    refine lv_icmp_ne (tgt := 672) hx hb dL_areBowlsSo_600 (by decide) (fun c23 => ?_) (fun c23 => ?_)
                                    · have hF := itn c23 hF
                                      refine W.widen (k := (55 + 35 * (10 - (n153 + 1)) + 4 * (10 - (n450 + 1)))) (n := (330 + 210 * (10 - (n153 + 1)) + 24 * (10 - (n450 + 1)))) (by omega) (by omega) ?_
                                      exact hJ672 (o19.2.1, o19.2.2) _ _ _ hP hD hS (lv_sub hl [] rfl) hF
                                    · have hF := itp c23 hF
                                      refine lv_iload_n hx hb dL_areBowlsSo_603 rfl (lv_at hl 2 rfl) ?_
                                      obtain ⟨j625, hj625, hF⟩ := jn_use hF
                                      have hJ625 : ∀ (s625 : XV × SV) (H : Heap) (locs : List Loc) (ls : Array Slot), va_P (dC, dI) vwCl (([(cXo x an tr s625.1), (cH cyO (x 1) (x 2) 2 fl), (cXk cyI x s625.1), (cH cyO (x 4) (x 5) 6 fs), (cT cyI x (X_text s625.1)), (cSo an s625.2), (cG cyI an (S_green s625.2)), (cV cyI an (S_score s625.2))] : List va_W).flatten) H → va_D A (([(cXo x an tr s625.1), (cH cyO (x 1) (x 2) 2 fl), (cXk cyI x s625.1), (cH cyO (x 4) (x 5) 6 fs), (cT cyI x (X_text s625.1)), (cSo an s625.2), (cG cyI an (S_green s625.2)), (cV cyI an (S_score s625.2))] : List va_W).flatten) → va_S A s.heap H locs → lv_has ls 11 [(0, .ref (x 0)), (2, .int s153.1), (3, .int o3.1)] → j625 s625 = some out → W p l e (headSpec (Cond.code yL_areBowlsSo cL_areBowlsSo 11 (some .boolean) :: wT) ({ frames := 9, cells := 445, slots := 2670, locals := 147 } : Room)).room s m ([.ref (x 0)] : List Value).toArray below meth c H locs (46 + 35 * (10 - (n153 + 1)) + 4 * (10 - (n450 + 1))) (276 + 210 * (10 - (n153 + 1)) + 24 * (10 - (n450 + 1))) (MQ below (va_Qi (fun (r : Int32) (u : XV × SV) => (r, u) = out ∧ b01 r) (fun u t => va_P (dC, dI) vwCl (([(cXo x an tr u.1), (cH cyO (x 1) (x 2) 2 fl), (cXk cyI x u.1), (cH cyO (x 4) (x 5) 6 fs), (cT cyI x (X_text u.1)), (cSo an u.2), (cG cyI an (S_green u.2)), (cV cyI an (S_score u.2))] : List va_W).flatten) t.heap ∧ va_D A (([(cXo x an tr u.1), (cH cyO (x 1) (x 2) 2 fl), (cXk cyI x u.1), (cH cyO (x 4) (x 5) 6 fs), (cT cyI x (X_text u.1)), (cSo an u.2), (cG cyI an (S_green u.2)), (cV cyI an (S_score u.2))] : List va_W).flatten)) A) ([.ref (x 0)] : List Value).toArray s 445 2670 A) (F0 m 625 ls []) := by
                                        intro s625 H locs ls hP hD hS hl hF
                                        have hF := (congrFun hj625 s625).symm.trans hF
                                        refine lv_aload_n hx hb dL_areBowlsSo_625 rfl (lv_at hl 0 rfl) ?_
                                        refine lv_iconst (v := 3) hx hb dL_areBowlsSo_626 (by decide) ?_
                                        refine lv_iconst (v := 0) hx hb dL_areBowlsSo_627 (by decide) ?_
                                        obtain ⟨o24, h25, hF⟩ := obd hF
                                        refine wcLi (As := [.ref (x 0), .int (3 : Int32), .int (0 : Int32)]) (rest := []) (wr := ([] : List va_W).flatten) ⟨hx, hb, hml, hown, hts⟩ (met_L_looks l z0 hst dC dI cyI cyO x tr an fl fs _ N s625.1 s625.2 (3 : Int32) (0 : Int32) o24 h25) (vx_cwSW 3 hts (gS w_methodLink_L_93 w_static_L_looks w_initialized_L w_codeW_L_looks) rfl rfl rfl (by decide +kernel) ⟨Nat.le_of_ble_eq_true rfl, Nat.le_of_ble_eq_true rfl⟩) hP hD hK hZ hAz hz0 (seg_perm (n := 8) (R := []) (C := [(cXo x an tr s625.1), (cH cyO (x 1) (x 2) 2 fl), (cXk cyI x s625.1), (cH cyO (x 4) (x 5) 6 fs), (cT cyI x (X_text s625.1)), (cSo an s625.2), (cG cyI an (S_green s625.2)), (cV cyI an (S_score s625.2))]) [] [0, 1, 2, 3, 4, 5, 6, 7] rfl rfl rfl (by decide) rfl) rfl hl.1 (Nat.le_of_ble_eq_true rfl) dL_areBowlsSo_628 ⟨(show _ ≤ 445 from by omega), (show _ ≤ 2670 from by omega)⟩ hS hA (fun r u H locs hw hP hD hS => ?_)
                                        obtain rfl : r = o24.1 := congrArg Prod.fst hw
                                        obtain rfl : u = o24.2 := congrArg Prod.snd hw
                                        clear hw
                                        have hq := seg_permS (segs := [(cXo x an tr o24.2.1), (cH cyO (x 1) (x 2) 2 fl), (cXk cyI x o24.2.1), (cH cyO (x 4) (x 5) 6 fs), (cT cyI x (X_text o24.2.1)), (cSo an o24.2.2), (cG cyI an (S_green o24.2.2)), (cV cyI an (S_score o24.2.2))]) (R := []) (C := [(cXo x an tr o24.2.1), (cH cyO (x 1) (x 2) 2 fl), (cXk cyI x o24.2.1), (cH cyO (x 4) (x 5) 6 fs), (cT cyI x (X_text o24.2.1)), (cSo an o24.2.2), (cG cyI an (S_green o24.2.2)), (cV cyI an (S_score o24.2.2))]) (n := 8) [] [0, 1, 2, 3, 4, 5, 6, 7] rfl rfl rfl (by decide)
                                        have hP : va_P (dC, dI) vwCl (([(cXo x an tr o24.2.1), (cH cyO (x 1) (x 2) 2 fl), (cXk cyI x o24.2.1), (cH cyO (x 4) (x 5) 6 fs), (cT cyI x (X_text o24.2.1)), (cSo an o24.2.2), (cG cyI an (S_green o24.2.2)), (cV cyI an (S_score o24.2.2))] : List va_W).flatten) H := hP.perm hq
                                        have hD : va_D A (([(cXo x an tr o24.2.1), (cH cyO (x 1) (x 2) 2 fl), (cXk cyI x o24.2.1), (cH cyO (x 4) (x 5) 6 fs), (cT cyI x (X_text o24.2.1)), (cSo an o24.2.2), (cG cyI an (S_green o24.2.2)), (cV cyI an (S_score o24.2.2))] : List va_W).flatten) := hD.perm hq
                                        clear hq
                                        obtain ⟨j638, hj638, hF⟩ := jn_use hF
                                        have hJ638 : ∀ (s638 : Unit) (H : Heap) (locs : List Loc) (ls : Array Slot), va_P (dC, dI) vwCl (([(cXo x an tr o24.2.1), (cH cyO (x 1) (x 2) 2 fl), (cXk cyI x o24.2.1), (cH cyO (x 4) (x 5) 6 fs), (cT cyI x (X_text o24.2.1)), (cSo an o24.2.2), (cG cyI an (S_green o24.2.2)), (cV cyI an (S_score o24.2.2))] : List va_W).flatten) H → va_D A (([(cXo x an tr o24.2.1), (cH cyO (x 1) (x 2) 2 fl), (cXk cyI x o24.2.1), (cH cyO (x 4) (x 5) 6 fs), (cT cyI x (X_text o24.2.1)), (cSo an o24.2.2), (cG cyI an (S_green o24.2.2)), (cV cyI an (S_score o24.2.2))] : List va_W).flatten) → va_S A s.heap H locs → lv_has ls 11 [(0, .ref (x 0)), (2, .int s153.1)] → j638 s638 = some out → W p l e (headSpec (Cond.code yL_areBowlsSo cL_areBowlsSo 11 (some .boolean) :: wT) ({ frames := 9, cells := 445, slots := 2670, locals := 147 } : Room)).room s m ([.ref (x 0)] : List Value).toArray below meth c H locs (55 + 35 * (10 - (n153 + 1)) + 4 * (10 - (n450 + 1))) (330 + 210 * (10 - (n153 + 1)) + 24 * (10 - (n450 + 1))) (MQ below (va_Qi (fun (r : Int32) (u : XV × SV) => (r, u) = out ∧ b01 r) (fun u t => va_P (dC, dI) vwCl (([(cXo x an tr u.1), (cH cyO (x 1) (x 2) 2 fl), (cXk cyI x u.1), (cH cyO (x 4) (x 5) 6 fs), (cT cyI x (X_text u.1)), (cSo an u.2), (cG cyI an (S_green u.2)), (cV cyI an (S_score u.2))] : List va_W).flatten) t.heap ∧ va_D A (([(cXo x an tr u.1), (cH cyO (x 1) (x 2) 2 fl), (cXk cyI x u.1), (cH cyO (x 4) (x 5) 6 fs), (cT cyI x (X_text u.1)), (cSo an u.2), (cG cyI an (S_green u.2)), (cV cyI an (S_score u.2))] : List va_W).flatten)) A) ([.ref (x 0)] : List Value).toArray s 445 2670 A) (F0 m 638 ls []) := by
                                          intro s638 H locs ls hP hD hS hl hF
                                          have hF := (congrFun hj638 s638).symm.trans hF
                                          refine lv_iload_n hx hb dL_areBowlsSo_638 rfl (lv_at hl 1 rfl) ?_
                                          refine lv_iconst (v := 1) hx hb dL_areBowlsSo_639 (by decide) ?_
                                          obtain ⟨j648, hj648, hF⟩ := jn_use hF
                                          have hJ648 : ∀ (s648 : Int32) (H : Heap) (locs : List Loc) (ls : Array Slot) (hz_648_s0 : b01 s648), va_P (dC, dI) vwCl (([(cXo x an tr o24.2.1), (cH cyO (x 1) (x 2) 2 fl), (cXk cyI x o24.2.1), (cH cyO (x 4) (x 5) 6 fs), (cT cyI x (X_text o24.2.1)), (cSo an o24.2.2), (cG cyI an (S_green o24.2.2)), (cV cyI an (S_score o24.2.2))] : List va_W).flatten) H → va_D A (([(cXo x an tr o24.2.1), (cH cyO (x 1) (x 2) 2 fl), (cXk cyI x o24.2.1), (cH cyO (x 4) (x 5) 6 fs), (cT cyI x (X_text o24.2.1)), (cSo an o24.2.2), (cG cyI an (S_green o24.2.2)), (cV cyI an (S_score o24.2.2))] : List va_W).flatten) → va_S A s.heap H locs → lv_has ls 11 [(0, .ref (x 0)), (2, .int s153.1)] → j648 s648 = some out → W p l e (headSpec (Cond.code yL_areBowlsSo cL_areBowlsSo 11 (some .boolean) :: wT) ({ frames := 9, cells := 445, slots := 2670, locals := 147 } : Room)).room s m ([.ref (x 0)] : List Value).toArray below meth c H locs (55 + 35 * (10 - (n153 + 1)) + 4 * (10 - (n450 + 1))) (330 + 210 * (10 - (n153 + 1)) + 24 * (10 - (n450 + 1))) (MQ below (va_Qi (fun (r : Int32) (u : XV × SV) => (r, u) = out ∧ b01 r) (fun u t => va_P (dC, dI) vwCl (([(cXo x an tr u.1), (cH cyO (x 1) (x 2) 2 fl), (cXk cyI x u.1), (cH cyO (x 4) (x 5) 6 fs), (cT cyI x (X_text u.1)), (cSo an u.2), (cG cyI an (S_green u.2)), (cV cyI an (S_score u.2))] : List va_W).flatten) t.heap ∧ va_D A (([(cXo x an tr u.1), (cH cyO (x 1) (x 2) 2 fl), (cXk cyI x u.1), (cH cyO (x 4) (x 5) 6 fs), (cT cyI x (X_text u.1)), (cSo an u.2), (cG cyI an (S_green u.2)), (cV cyI an (S_score u.2))] : List va_W).flatten)) A) ([.ref (x 0)] : List Value).toArray s 445 2670 A) (F0 m 648 ls [.int s648]) := by
                                            intro s648 H locs ls hz_648_s0 hP hD hS hl hF
                                            have hF := (congrFun hj648 s648).symm.trans hF
                                            refine lv_aload_n hx hb dL_areBowlsSo_648 rfl (lv_at hl 0 rfl) ?_
                                            obtain ⟨o26, h27, hF⟩ := obd hF
                                            refine wcRVi (As := []) (rest := [.int s648]) (b := (x 0)) ⟨hx, hb, hml, hown, hts⟩ (met_X5_spread l dC dI cyI cyO x tr an fl fs N o24.2.1 o24.2.2  o26 h27) (cwV 0 hts (gV w_methodLink_L_164 w_instanceMethod_X5_spread w_selects_X5_spread w_initialized_X5 w_code_X5_spread) rfl rfl rfl (by decide +kernel) ⟨Nat.le_of_ble_eq_true rfl, Nat.le_of_ble_eq_true rfl⟩) (va_recv hK.1 hP (ci := 5) (q0 := 0) rfl rfl) hP hK [0, 1, 2, 3, 4, 5, 6, 7, 8, 9, 10, 11, 12, 13, 14, 15, 16, 17, 18, 19, 20] rfl rfl hl.1 (Nat.le_of_ble_eq_true rfl) dL_areBowlsSo_649 ⟨(show _ ≤ 445 from by omega), (show _ ≤ 2670 from by omega)⟩ hS (fun r H locs hw hP hS => ?_)
                                            have hw := hw.symm
                                            subst hw
                                            obtain ⟨j665, hj665, hF⟩ := jn_use hF
                                            have hJ665 : ∀ (s665 : Int32) (H : Heap) (locs : List Loc) (ls : Array Slot) (hz_665_s1 : b01 s665), va_P (dC, dI) vwCl (([(cXo x an tr o24.2.1), (cH cyO (x 1) (x 2) 2 fl), (cXk cyI x o24.2.1), (cH cyO (x 4) (x 5) 6 fs), (cT cyI x (X_text o24.2.1)), (cSo an o24.2.2), (cG cyI an (S_green o24.2.2)), (cV cyI an (S_score o24.2.2))] : List va_W).flatten) H → va_D A (([(cXo x an tr o24.2.1), (cH cyO (x 1) (x 2) 2 fl), (cXk cyI x o24.2.1), (cH cyO (x 4) (x 5) 6 fs), (cT cyI x (X_text o24.2.1)), (cSo an o24.2.2), (cG cyI an (S_green o24.2.2)), (cV cyI an (S_score o24.2.2))] : List va_W).flatten) → va_S A s.heap H locs → lv_has ls 11 [] → j665 s665 = some out → W p l e (headSpec (Cond.code yL_areBowlsSo cL_areBowlsSo 11 (some .boolean) :: wT) ({ frames := 9, cells := 445, slots := 2670, locals := 147 } : Room)).room s m ([.ref (x 0)] : List Value).toArray below meth c H locs (55 + 35 * (10 - (n153 + 1)) + 4 * (10 - (n450 + 1))) (330 + 210 * (10 - (n153 + 1)) + 24 * (10 - (n450 + 1))) (MQ below (va_Qi (fun (r : Int32) (u : XV × SV) => (r, u) = out ∧ b01 r) (fun u t => va_P (dC, dI) vwCl (([(cXo x an tr u.1), (cH cyO (x 1) (x 2) 2 fl), (cXk cyI x u.1), (cH cyO (x 4) (x 5) 6 fs), (cT cyI x (X_text u.1)), (cSo an u.2), (cG cyI an (S_green u.2)), (cV cyI an (S_score u.2))] : List va_W).flatten) t.heap ∧ va_D A (([(cXo x an tr u.1), (cH cyO (x 1) (x 2) 2 fl), (cXk cyI x u.1), (cH cyO (x 4) (x 5) 6 fs), (cT cyI x (X_text u.1)), (cSo an u.2), (cG cyI an (S_green u.2)), (cV cyI an (S_score u.2))] : List va_W).flatten)) A) ([.ref (x 0)] : List Value).toArray s 445 2670 A) (F0 m 665 ls [.int s665, .int s648]) := by
                                              intro s665 H locs ls hz_665_s1 hP hD hS hl hF
                                              have hF := (congrFun hj665 s665).symm.trans hF
                                              refine lv_icmp_ne (tgt := 672) hx hb dL_areBowlsSo_665 (by decide) (fun c28 => ?_) (fun c28 => ?_)
                                              · have hF := itn c28 hF
                                                refine W.widen (k := (55 + 35 * (10 - (n153 + 1)) + 4 * (10 - (n450 + 1)))) (n := (330 + 210 * (10 - (n153 + 1)) + 24 * (10 - (n450 + 1)))) (by omega) (by omega) ?_
                                                exact hJ672 (o24.2.1, o24.2.2) _ _ _ hP hD hS (lv_sub hl [] rfl) hF
                                              · have hF := itp c28 hF
                                                refine lv_iconst (v := 1) hx hb dL_areBowlsSo_668 (by decide) ?_
                                                refine lv_goto (tgt := 673) hx hb dL_areBowlsSo_669 (by decide) ?_
                                                refine W.widen (k := (55 + 35 * (10 - (n153 + 1)) + 4 * (10 - (n450 + 1)))) (n := (330 + 210 * (10 - (n153 + 1)) + 24 * (10 - (n450 + 1)))) (by omega) (by omega) ?_
                                                exact hJ673 ((1 : Int32), o24.2.1, o24.2.2) _ _ _ b01_1 hP hD hS (lv_sub hl [] rfl) hF
                                            obtain ⟨j660, hj660, hF⟩ := jn_use hF
                                            have hJ660 : ∀ (s660 : Unit) (H : Heap) (locs : List Loc) (ls : Array Slot), va_P (dC, dI) vwCl (([(cXo x an tr o24.2.1), (cH cyO (x 1) (x 2) 2 fl), (cXk cyI x o24.2.1), (cH cyO (x 4) (x 5) 6 fs), (cT cyI x (X_text o24.2.1)), (cSo an o24.2.2), (cG cyI an (S_green o24.2.2)), (cV cyI an (S_score o24.2.2))] : List va_W).flatten) H → va_D A (([(cXo x an tr o24.2.1), (cH cyO (x 1) (x 2) 2 fl), (cXk cyI x o24.2.1), (cH cyO (x 4) (x 5) 6 fs), (cT cyI x (X_text o24.2.1)), (cSo an o24.2.2), (cG cyI an (S_green o24.2.2)), (cV cyI an (S_score o24.2.2))] : List va_W).flatten) → va_S A s.heap H locs → lv_has ls 11 [] → j660 s660 = some out → W p l e (headSpec (Cond.code yL_areBowlsSo cL_areBowlsSo 11 (some .boolean) :: wT) ({ frames := 9, cells := 445, slots := 2670, locals := 147 } : Room)).room s m ([.ref (x 0)] : List Value).toArray below meth c H locs (55 + 35 * (10 - (n153 + 1)) + 4 * (10 - (n450 + 1))) (330 + 210 * (10 - (n153 + 1)) + 24 * (10 - (n450 + 1))) (MQ below (va_Qi (fun (r : Int32) (u : XV × SV) => (r, u) = out ∧ b01 r) (fun u t => va_P (dC, dI) vwCl (([(cXo x an tr u.1), (cH cyO (x 1) (x 2) 2 fl), (cXk cyI x u.1), (cH cyO (x 4) (x 5) 6 fs), (cT cyI x (X_text u.1)), (cSo an u.2), (cG cyI an (S_green u.2)), (cV cyI an (S_score u.2))] : List va_W).flatten) t.heap ∧ va_D A (([(cXo x an tr u.1), (cH cyO (x 1) (x 2) 2 fl), (cXk cyI x u.1), (cH cyO (x 4) (x 5) 6 fs), (cT cyI x (X_text u.1)), (cSo an u.2), (cG cyI an (S_green u.2)), (cV cyI an (S_score u.2))] : List va_W).flatten)) A) ([.ref (x 0)] : List Value).toArray s 445 2670 A) (F0 m 660 ls [.int s648]) := by
                                              intro s660 H locs ls hP hD hS hl hF
                                              have hF := (congrFun hj660 s660).symm.trans hF
                                              refine lv_iconst (v := 1) hx hb dL_areBowlsSo_660 (by decide) ?_
                                              refine lv_goto (tgt := 665) hx hb dL_areBowlsSo_661 (by decide) ?_
                                              refine W.widen (k := (55 + 35 * (10 - (n153 + 1)) + 4 * (10 - (n450 + 1)))) (n := (330 + 210 * (10 - (n153 + 1)) + 24 * (10 - (n450 + 1)))) (by omega) (by omega) ?_
                                              exact hJ665 (1 : Int32) _ _ _ b01_1 hP hD hS (lv_sub hl [] rfl) hF
                                            refine lv_if_gt (tgt := 660) hx hb dL_areBowlsSo_652 (by decide) (fun c29 => ?_) (fun c29 => ?_)
                                            · have hF := itp c29 hF
                                              refine W.widen (k := (55 + 35 * (10 - (n153 + 1)) + 4 * (10 - (n450 + 1)))) (n := (330 + 210 * (10 - (n153 + 1)) + 24 * (10 - (n450 + 1)))) (by omega) (by omega) ?_
                                              exact hJ660 () _ _ _ hP hD hS (lv_sub hl [] rfl) hF
                                            · have hF := itn c29 hF
                                              refine lv_iload_n hx hb dL_areBowlsSo_655 rfl (lv_at hl 1 rfl) ?_
                                              refine lv_iconst (v := 1) hx hb dL_areBowlsSo_656 (by decide) ?_
                                              refine lv_icmp_le (tgt := 664) hx hb dL_areBowlsSo_657 (by decide) (fun c30 => ?_) (fun c30 => ?_)
                                              · have hF := itp c30 hF
                                                refine lv_iconst (v := 0) hx hb dL_areBowlsSo_664 (by decide) ?_
                                                refine W.widen (k := (55 + 35 * (10 - (n153 + 1)) + 4 * (10 - (n450 + 1)))) (n := (330 + 210 * (10 - (n153 + 1)) + 24 * (10 - (n450 + 1)))) (by omega) (by omega) ?_
                                                exact hJ665 (0 : Int32) _ _ _ b01_0 hP hD hS (lv_sub hl [] rfl) hF
                                              · have hF := itn c30 hF
                                                refine W.widen (k := (55 + 35 * (10 - (n153 + 1)) + 4 * (10 - (n450 + 1)))) (n := (330 + 210 * (10 - (n153 + 1)) + 24 * (10 - (n450 + 1)))) (by omega) (by omega) ?_
                                                exact hJ660 () _ _ _ hP hD hS (lv_sub hl [] rfl) hF
                                          refine lv_icmp_le (tgt := 647) hx hb dL_areBowlsSo_640 (by decide) (fun c31 => ?_) (fun c31 => ?_)
                                          · have hF := itp c31 hF
                                            refine lv_iconst (v := 0) hx hb dL_areBowlsSo_647 (by decide) ?_
                                            refine W.widen (k := (55 + 35 * (10 - (n153 + 1)) + 4 * (10 - (n450 + 1)))) (n := (330 + 210 * (10 - (n153 + 1)) + 24 * (10 - (n450 + 1)))) (by omega) (by omega) ?_
                                            exact hJ648 (0 : Int32) _ _ _ b01_0 hP hD hS (lv_sub hl [0, 1] rfl) hF
                                          · have hF := itn c31 hF
                                            refine lv_iconst (v := 1) hx hb dL_areBowlsSo_643 (by decide) ?_
                                            refine lv_goto (tgt := 648) hx hb dL_areBowlsSo_644 (by decide) ?_
                                            refine W.widen (k := (55 + 35 * (10 - (n153 + 1)) + 4 * (10 - (n450 + 1)))) (n := (330 + 210 * (10 - (n153 + 1)) + 24 * (10 - (n450 + 1)))) (by omega) (by omega) ?_
                                            exact hJ648 (1 : Int32) _ _ _ b01_1 hP hD hS (lv_sub hl [0, 1] rfl) hF
                                        refine lv_if_ne (tgt := 638) hx hb dL_areBowlsSo_631 (by decide) (fun c32 => ?_) (fun c32 => ?_)
                                        · have hF := itn c32 hF
                                          refine W.widen (k := (55 + 35 * (10 - (n153 + 1)) + 4 * (10 - (n450 + 1)))) (n := (330 + 210 * (10 - (n153 + 1)) + 24 * (10 - (n450 + 1)))) (by omega) (by omega) ?_
                                          exact hJ638 () _ _ _ hP hD hS (lv_sub hl [0, 1] rfl) hF
                                        · have hF := itp c32 hF
                                          refine lv_iload_n hx hb dL_areBowlsSo_634 rfl (lv_at hl 2 rfl) ?_
                                          refine lv_if_ne (tgt := 672) hx hb dL_areBowlsSo_635 (by decide) (fun c33 => ?_) (fun c33 => ?_)
                                          · have hF := itn c33 hF
                                            refine W.widen (k := (55 + 35 * (10 - (n153 + 1)) + 4 * (10 - (n450 + 1)))) (n := (330 + 210 * (10 - (n153 + 1)) + 24 * (10 - (n450 + 1)))) (by omega) (by omega) ?_
                                            exact hJ672 (o24.2.1, o24.2.2) _ _ _ hP hD hS (lv_sub hl [] rfl) hF
                                          · have hF := itp c33 hF
                                            refine W.widen (k := (55 + 35 * (10 - (n153 + 1)) + 4 * (10 - (n450 + 1)))) (n := (330 + 210 * (10 - (n153 + 1)) + 24 * (10 - (n450 + 1)))) (by omega) (by omega) ?_
                                            exact hJ638 () _ _ _ hP hD hS (lv_sub hl [0, 1] rfl) hF
                                      refine lv_if_eq (tgt := 625) hx hb dL_areBowlsSo_604 (by decide) (fun c34 => ?_) (fun c34 => ?_)
                                      · have hF := itp c34 hF
                                        refine W.widen (k := (46 + 35 * (10 - (n153 + 1)) + 4 * (10 - (n450 + 1)))) (n := (276 + 210 * (10 - (n153 + 1)) + 24 * (10 - (n450 + 1)))) (by omega) (by omega) ?_
                                        exact hJ625 (o19.2.1, o19.2.2) _ _ _ hP hD hS (lv_sub hl [0, 1, 2] rfl) hF
                                      · have hF := itn c34 hF
                                        refine lv_aload_n hx hb dL_areBowlsSo_607 rfl (lv_at hl 0 rfl) ?_
                                        refine lv_aload_n hx hb dL_areBowlsSo_608 rfl (lv_at hl 0 rfl) ?_
                                        refine lv_iconst (v := 0) hx hb dL_areBowlsSo_609 (by decide) ?_
                                        obtain ⟨o35, h36, hF⟩ := obd hF
                                        refine wxPVi (As := [.int (0 : Int32)]) (rest := [.ref (x 0)]) (wr := ([] : List va_W).flatten) (b := (x 0)) ⟨hx, hb, hml, hown, hts⟩ (met_X5_nearest l z0 hst dC dI cyI cyO x tr an fl fs _ N o19.2.1 o19.2.2 (0 : Int32) o35 h36) (cwV 1 hts (gV w_methodLink_L_158 w_instanceMethod_X5_nearest w_selects_X5_nearest w_initialized_X5 w_code_X5_nearest) rfl rfl rfl (by decide +kernel) ⟨Nat.le_of_ble_eq_true rfl, Nat.le_of_ble_eq_true rfl⟩) (va_recv hK.1 hP (ci := 5) (q0 := 0) rfl rfl) hP hD hK hZ hAz hz0 (seg_perm (n := 8) (R := []) (C := [(cXo x an tr o19.2.1), (cH cyO (x 1) (x 2) 2 fl), (cXk cyI x o19.2.1), (cH cyO (x 4) (x 5) 6 fs), (cT cyI x (X_text o19.2.1)), (cSo an o19.2.2), (cG cyI an (S_green o19.2.2)), (cV cyI an (S_score o19.2.2))]) [] [0, 1, 2, 3, 4, 5, 6, 7] rfl rfl rfl (by decide) rfl) rfl hl.1 (Nat.le_of_ble_eq_true rfl) dL_areBowlsSo_610 ⟨(show _ ≤ 445 from by omega), (show _ ≤ 2670 from by omega)⟩ hS hA (fun k u ce q9 H locs hw hP hD hS h9 hv9 hc9 => ?_) (fun ro35 u H locs hw hP hD hS => ?_)
                                        · obtain rfl : u = o35.2 := congrArg Prod.snd hw
                                          have hw1 : Sum.inl k = o35.1 := congrArg Prod.fst hw
                                          rw [← hw1] at hF
                                          have hF := exc_l hF
                                          have hq := seg_permS (segs := [(cXo x an tr o35.2.1), (cH cyO (x 1) (x 2) 2 fl), (cXk cyI x o35.2.1), (cH cyO (x 4) (x 5) 6 fs), (cT cyI x (X_text o35.2.1)), (cSo an o35.2.2), (cG cyI an (S_green o35.2.2)), (cV cyI an (S_score o35.2.2))]) (R := []) (C := [(cXo x an tr o35.2.1), (cH cyO (x 1) (x 2) 2 fl), (cXk cyI x o35.2.1), (cH cyO (x 4) (x 5) 6 fs), (cT cyI x (X_text o35.2.1)), (cSo an o35.2.2), (cG cyI an (S_green o35.2.2)), (cV cyI an (S_score o35.2.2))]) (n := 8) [] [0, 1, 2, 3, 4, 5, 6, 7] rfl rfl rfl (by decide)
                                          have hP : va_P (dC, dI) vwCl (([(cXo x an tr o35.2.1), (cH cyO (x 1) (x 2) 2 fl), (cXk cyI x o35.2.1), (cH cyO (x 4) (x 5) 6 fs), (cT cyI x (X_text o35.2.1)), (cSo an o35.2.2), (cG cyI an (S_green o35.2.2)), (cV cyI an (S_score o35.2.2))] : List va_W).flatten) H := hP.perm hq
                                          have hD : va_D A (([(cXo x an tr o35.2.1), (cH cyO (x 1) (x 2) 2 fl), (cXk cyI x o35.2.1), (cH cyO (x 4) (x 5) 6 fs), (cT cyI x (X_text o35.2.1)), (cSo an o35.2.2), (cG cyI an (S_green o35.2.2)), (cV cyI an (S_score o35.2.2))] : List va_W).flatten) := hD.perm hq
                                          clear hq
                                          cases hF
                                        · skip
                                          obtain rfl : u = o35.2 := congrArg Prod.snd hw
                                          have hw1 : Sum.inr ro35 = o35.1 := congrArg Prod.fst hw
                                          rw [← hw1] at hF
                                          have hF := exc_r hF
                                          have hq := seg_permS (segs := [(cXo x an tr o35.2.1), (cH cyO (x 1) (x 2) 2 fl), (cXk cyI x o35.2.1), (cH cyO (x 4) (x 5) 6 fs), (cT cyI x (X_text o35.2.1)), (cSo an o35.2.2), (cG cyI an (S_green o35.2.2)), (cV cyI an (S_score o35.2.2))]) (R := []) (C := [(cXo x an tr o35.2.1), (cH cyO (x 1) (x 2) 2 fl), (cXk cyI x o35.2.1), (cH cyO (x 4) (x 5) 6 fs), (cT cyI x (X_text o35.2.1)), (cSo an o35.2.2), (cG cyI an (S_green o35.2.2)), (cV cyI an (S_score o35.2.2))]) (n := 8) [] [0, 1, 2, 3, 4, 5, 6, 7] rfl rfl rfl (by decide)
                                          have hP : va_P (dC, dI) vwCl (([(cXo x an tr o35.2.1), (cH cyO (x 1) (x 2) 2 fl), (cXk cyI x o35.2.1), (cH cyO (x 4) (x 5) 6 fs), (cT cyI x (X_text o35.2.1)), (cSo an o35.2.2), (cG cyI an (S_green o35.2.2)), (cV cyI an (S_score o35.2.2))] : List va_W).flatten) H := hP.perm hq
                                          have hD : va_D A (([(cXo x an tr o35.2.1), (cH cyO (x 1) (x 2) 2 fl), (cXk cyI x o35.2.1), (cH cyO (x 4) (x 5) 6 fs), (cT cyI x (X_text o35.2.1)), (cSo an o35.2.2), (cG cyI an (S_green o35.2.2)), (cV cyI an (S_score o35.2.2))] : List va_W).flatten) := hD.perm hq
                                          clear hq
                                          obtain ⟨o37, h38, hF⟩ := obd hF
                                          refine wxRVi (As := [.int ro35]) (rest := []) (b := (x 0)) ⟨hx, hb, hml, hown, hts⟩ (met_X5_sideOf l z0 hst dC dI cyI cyO x tr an fl fs N o35.2.1 o35.2.2 ro35 o37 h38) (cwV 1 hts (gV w_methodLink_L_143 w_instanceMethod_X5_sideOf w_selects_X5_sideOf w_initialized_X5 w_code_X5_sideOf) rfl rfl rfl (by decide +kernel) ⟨Nat.le_of_ble_eq_true rfl, Nat.le_of_ble_eq_true rfl⟩) (va_recv hK.1 hP (ci := 5) (q0 := 0) rfl rfl) hP hK hZ hAz [0, 1, 2, 3, 4, 5, 6, 7, 8, 9, 10, 11, 12, 13, 14, 15, 16, 17, 18, 19, 20] rfl rfl hl.1 (Nat.le_of_ble_eq_true rfl) dL_areBowlsSo_613 ⟨(show _ ≤ 445 from by omega), (show _ ≤ 2670 from by omega)⟩ hS (fun k ce q9 H locs hw hP hS h9 hv9 hc9 => ?_) (fun ro37 H locs hw hP hS => ?_)
                                          · have hw := hw.symm
                                            subst hw
                                            have hF := exc_l hF
                                            cases hF
                                          · skip
                                            have hw := hw.symm
                                            subst hw
                                            have hF := exc_r hF
                                            refine lv_aload_n hx hb dL_areBowlsSo_616 rfl (lv_at hl 0 rfl) ?_
                                            refine lv_iconst (v := 2) hx hb dL_areBowlsSo_617 (by decide) ?_
                                            refine lv_iconst (v := 0) hx hb dL_areBowlsSo_618 (by decide) ?_
                                            obtain ⟨o39, h40, hF⟩ := obd hF
                                            refine wcLi (As := [.ref (x 0), .int (2 : Int32), .int (0 : Int32)]) (rest := [.int ro37]) (wr := ([] : List va_W).flatten) ⟨hx, hb, hml, hown, hts⟩ (met_L_looks l z0 hst dC dI cyI cyO x tr an fl fs _ N o35.2.1 o35.2.2 (2 : Int32) (0 : Int32) o39 h40) (vx_cwSW 3 hts (gS w_methodLink_L_93 w_static_L_looks w_initialized_L w_codeW_L_looks) rfl rfl rfl (by decide +kernel) ⟨Nat.le_of_ble_eq_true rfl, Nat.le_of_ble_eq_true rfl⟩) hP hD hK hZ hAz hz0 (seg_perm (n := 8) (R := []) (C := [(cXo x an tr o35.2.1), (cH cyO (x 1) (x 2) 2 fl), (cXk cyI x o35.2.1), (cH cyO (x 4) (x 5) 6 fs), (cT cyI x (X_text o35.2.1)), (cSo an o35.2.2), (cG cyI an (S_green o35.2.2)), (cV cyI an (S_score o35.2.2))]) [] [0, 1, 2, 3, 4, 5, 6, 7] rfl rfl rfl (by decide) rfl) rfl hl.1 (Nat.le_of_ble_eq_true rfl) dL_areBowlsSo_619 ⟨(show _ ≤ 445 from by omega), (show _ ≤ 2670 from by omega)⟩ hS hA (fun r u H locs hw hP hD hS => ?_)
                                            obtain rfl : r = o39.1 := congrArg Prod.fst hw
                                            obtain rfl : u = o39.2 := congrArg Prod.snd hw
                                            clear hw
                                            have hq := seg_permS (segs := [(cXo x an tr o39.2.1), (cH cyO (x 1) (x 2) 2 fl), (cXk cyI x o39.2.1), (cH cyO (x 4) (x 5) 6 fs), (cT cyI x (X_text o39.2.1)), (cSo an o39.2.2), (cG cyI an (S_green o39.2.2)), (cV cyI an (S_score o39.2.2))]) (R := []) (C := [(cXo x an tr o39.2.1), (cH cyO (x 1) (x 2) 2 fl), (cXk cyI x o39.2.1), (cH cyO (x 4) (x 5) 6 fs), (cT cyI x (X_text o39.2.1)), (cSo an o39.2.2), (cG cyI an (S_green o39.2.2)), (cV cyI an (S_score o39.2.2))]) (n := 8) [] [0, 1, 2, 3, 4, 5, 6, 7] rfl rfl rfl (by decide)
                                            have hP : va_P (dC, dI) vwCl (([(cXo x an tr o39.2.1), (cH cyO (x 1) (x 2) 2 fl), (cXk cyI x o39.2.1), (cH cyO (x 4) (x 5) 6 fs), (cT cyI x (X_text o39.2.1)), (cSo an o39.2.2), (cG cyI an (S_green o39.2.2)), (cV cyI an (S_score o39.2.2))] : List va_W).flatten) H := hP.perm hq
                                            have hD : va_D A (([(cXo x an tr o39.2.1), (cH cyO (x 1) (x 2) 2 fl), (cXk cyI x o39.2.1), (cH cyO (x 4) (x 5) 6 fs), (cT cyI x (X_text o39.2.1)), (cSo an o39.2.2), (cG cyI an (S_green o39.2.2)), (cV cyI an (S_score o39.2.2))] : List va_W).flatten) := hD.perm hq
                                            clear hq
                                            refine lv_icmp_ne (tgt := 672) hx hb dL_areBowlsSo_622 (by decide) (fun c41 => ?_) (fun c41 => ?_)
                                            · have hF := itn c41 hF
                                              refine W.widen (k := (55 + 35 * (10 - (n153 + 1)) + 4 * (10 - (n450 + 1)))) (n := (330 + 210 * (10 - (n153 + 1)) + 24 * (10 - (n450 + 1)))) (by omega) (by omega) ?_
                                              exact hJ672 (o39.2.1, o39.2.2) _ _ _ hP hD hS (lv_sub hl [] rfl) hF
                                            · have hF := itp c41 hF
                                              refine W.widen (k := (46 + 35 * (10 - (n153 + 1)) + 4 * (10 - (n450 + 1)))) (n := (276 + 210 * (10 - (n153 + 1)) + 24 * (10 - (n450 + 1)))) (by omega) (by omega) ?_
                                              exact hJ625 (o39.2.1, o39.2.2) _ _ _ hP hD hS (lv_sub hl [0, 1, 2] rfl) hF
                                  obtain ⟨j595, hj595, hF⟩ := jn_use hF
                                  have hJ595 : ∀ (s595 : Unit) (H : Heap) (locs : List Loc) (ls : Array Slot), va_P (dC, dI) vwCl (([(cXo x an tr o19.2.1), (cH cyO (x 1) (x 2) 2 fl), (cXk cyI x o19.2.1), (cH cyO (x 4) (x 5) 6 fs), (cT cyI x (X_text o19.2.1)), (cSo an o19.2.2), (cG cyI an (S_green o19.2.2)), (cV cyI an (S_score o19.2.2))] : List va_W).flatten) H → va_D A (([(cXo x an tr o19.2.1), (cH cyO (x 1) (x 2) 2 fl), (cXk cyI x o19.2.1), (cH cyO (x 4) (x 5) 6 fs), (cT cyI x (X_text o19.2.1)), (cSo an o19.2.2), (cG cyI an (S_green o19.2.2)), (cV cyI an (S_score o19.2.2))] : List va_W).flatten) → va_S A s.heap H locs → lv_has ls 11 [(0, .ref (x 0)), (2, .int s153.1), (3, .int o3.1)] → j595 s595 = some out → W p l e (headSpec (Cond.code yL_areBowlsSo cL_areBowlsSo 11 (some .boolean) :: wT) ({ frames := 9, cells := 445, slots := 2670, locals := 147 } : Room)).room s m ([.ref (x 0)] : List Value).toArray below meth c H locs (35 + 35 * (10 - (n153 + 1)) + 4 * (10 - (n450 + 1))) (210 + 210 * (10 - (n153 + 1)) + 24 * (10 - (n450 + 1))) (MQ below (va_Qi (fun (r : Int32) (u : XV × SV) => (r, u) = out ∧ b01 r) (fun u t => va_P (dC, dI) vwCl (([(cXo x an tr u.1), (cH cyO (x 1) (x 2) 2 fl), (cXk cyI x u.1), (cH cyO (x 4) (x 5) 6 fs), (cT cyI x (X_text u.1)), (cSo an u.2), (cG cyI an (S_green u.2)), (cV cyI an (S_score u.2))] : List va_W).flatten) t.heap ∧ va_D A (([(cXo x an tr u.1), (cH cyO (x 1) (x 2) 2 fl), (cXk cyI x u.1), (cH cyO (x 4) (x 5) 6 fs), (cT cyI x (X_text u.1)), (cSo an u.2), (cG cyI an (S_green u.2)), (cV cyI an (S_score u.2))] : List va_W).flatten)) A) ([.ref (x 0)] : List Value).toArray s 445 2670 A) (F0 m 595 ls [.int s579]) := by
                                    intro s595 H locs ls hP hD hS hl hF
                                    have hF := (congrFun hj595 s595).symm.trans hF
                                    refine lv_iconst (v := 1) hx hb dL_areBowlsSo_595 (by decide) ?_
                                    refine lv_goto (tgt := 600) hx hb dL_areBowlsSo_596 (by decide) ?_
                                    refine W.widen (k := (35 + 35 * (10 - (n153 + 1)) + 4 * (10 - (n450 + 1)))) (n := (210 + 210 * (10 - (n153 + 1)) + 24 * (10 - (n450 + 1)))) (by omega) (by omega) ?_
                                    exact hJ600 (1 : Int32) _ _ _ b01_1 hP hD hS (lv_sub hl [0, 1, 2] rfl) hF
                                  refine lv_if_eq (tgt := 595) hx hb dL_areBowlsSo_584 (by decide) (fun c42 => ?_) (fun c42 => ?_)
                                  · have hF := itp c42 hF
                                    refine W.widen (k := (35 + 35 * (10 - (n153 + 1)) + 4 * (10 - (n450 + 1)))) (n := (210 + 210 * (10 - (n153 + 1)) + 24 * (10 - (n450 + 1)))) (by omega) (by omega) ?_
                                    exact hJ595 () _ _ _ hP hD hS (lv_sub hl [0, 1, 2] rfl) hF
                                  · have hF := itn c42 hF
                                    refine lv_aload_n hx hb dL_areBowlsSo_587 rfl (lv_at hl 0 rfl) ?_
                                    refine lv_iconst (v := 1) hx hb dL_areBowlsSo_588 (by decide) ?_
                                    obtain ⟨o43, h44, hF⟩ := obd hF
                                    refine wxRVi (As := [.int (1 : Int32)]) (rest := [.int s579]) (b := (x 0)) ⟨hx, hb, hml, hown, hts⟩ (met_X5_aliveOf l z0 hst dC dI cyI cyO x tr an fl fs N o19.2.1 o19.2.2 (1 : Int32) o43 h44) (cwV 1 hts (gV w_methodLink_L_161 w_instanceMethod_X5_aliveOf w_selects_X5_aliveOf w_initialized_X5 w_code_X5_aliveOf) rfl rfl rfl (by decide +kernel) ⟨Nat.le_of_ble_eq_true rfl, Nat.le_of_ble_eq_true rfl⟩) (va_recv hK.1 hP (ci := 5) (q0 := 0) rfl rfl) hP hK hZ hAz [0, 1, 2, 3, 4, 5, 6, 7, 8, 9, 10, 11, 12, 13, 14, 15, 16, 17, 18, 19, 20] rfl rfl hl.1 (Nat.le_of_ble_eq_true rfl) dL_areBowlsSo_589 ⟨(show _ ≤ 445 from by omega), (show _ ≤ 2670 from by omega)⟩ hS (fun k ce q9 H locs hw hP hS h9 hv9 hc9 => ?_) (fun ro43 H locs hw hP hS => ?_)
                                    · have hw := hw.symm
                                      subst hw
                                      have hF := exc_l hF
                                      cases hF
                                    · skip
                                      have hw := hw.symm
                                      subst hw
                                      have hF := exc_r hF
                                      refine lv_if_ne (tgt := 599) hx hb dL_areBowlsSo_592 (by decide) (fun c45 => ?_) (fun c45 => ?_)
                                      · have hF := itn c45 hF
                                        refine lv_iconst (v := 0) hx hb dL_areBowlsSo_599 (by decide) ?_
                                        refine W.widen (k := (35 + 35 * (10 - (n153 + 1)) + 4 * (10 - (n450 + 1)))) (n := (210 + 210 * (10 - (n153 + 1)) + 24 * (10 - (n450 + 1)))) (by omega) (by omega) ?_
                                        exact hJ600 (0 : Int32) _ _ _ b01_0 hP hD hS (lv_sub hl [0, 1, 2] rfl) hF
                                      · have hF := itp c45 hF
                                        refine W.widen (k := (35 + 35 * (10 - (n153 + 1)) + 4 * (10 - (n450 + 1)))) (n := (210 + 210 * (10 - (n153 + 1)) + 24 * (10 - (n450 + 1)))) (by omega) (by omega) ?_
                                        exact hJ595 () _ _ _ hP hD hS (lv_sub hl [0, 1, 2] rfl) hF
                              refine lv_icmp_ne (tgt := 578) hx hb dL_areBowlsSo_571 (by decide) (fun c46 => ?_) (fun c46 => ?_)
                              · have hF := itn c46 hF
                                refine lv_iconst (v := 0) hx hb dL_areBowlsSo_578 (by decide) ?_
                                refine W.widen (k := (33 + 35 * (10 - (n153 + 1)) + 4 * (10 - (n450 + 1)))) (n := (198 + 210 * (10 - (n153 + 1)) + 24 * (10 - (n450 + 1)))) (by omega) (by omega) ?_
                                exact hJ579 (0 : Int32) _ _ _ b01_0 hP hD hS (lv_sub hl [0, 1, 2] rfl) hF
                              · have hF := itp c46 hF
                                refine lv_iconst (v := 1) hx hb dL_areBowlsSo_574 (by decide) ?_
                                refine lv_goto (tgt := 579) hx hb dL_areBowlsSo_575 (by decide) ?_
                                refine W.widen (k := (33 + 35 * (10 - (n153 + 1)) + 4 * (10 - (n450 + 1)))) (n := (198 + 210 * (10 - (n153 + 1)) + 24 * (10 - (n450 + 1)))) (by omega) (by omega) ?_
                                exact hJ579 (1 : Int32) _ _ _ b01_1 hP hD hS (lv_sub hl [0, 1, 2] rfl) hF
                          obtain ⟨j555, hj555, hF⟩ := jn_use hF
                          have hJ555 : ∀ (s555 : Unit) (H : Heap) (locs : List Loc) (ls : Array Slot), va_P (dC, dI) vwCl (([(cXo x an tr o16.2.1), (cH cyO (x 1) (x 2) 2 fl), (cXk cyI x o16.2.1), (cH cyO (x 4) (x 5) 6 fs), (cT cyI x (X_text o16.2.1)), (cSo an o16.2.2), (cG cyI an (S_green o16.2.2)), (cV cyI an (S_score o16.2.2))] : List va_W).flatten) H → va_D A (([(cXo x an tr o16.2.1), (cH cyO (x 1) (x 2) 2 fl), (cXk cyI x o16.2.1), (cH cyO (x 4) (x 5) 6 fs), (cT cyI x (X_text o16.2.1)), (cSo an o16.2.2), (cG cyI an (S_green o16.2.2)), (cV cyI an (S_score o16.2.2))] : List va_W).flatten) → va_S A s.heap H locs → lv_has ls 11 [(0, .ref (x 0)), (2, .int s153.1), (3, .int o3.1)] → j555 s555 = some out → W p l e (headSpec (Cond.code yL_areBowlsSo cL_areBowlsSo 11 (some .boolean) :: wT) ({ frames := 9, cells := 445, slots := 2670, locals := 147 } : Room)).room s m ([.ref (x 0)] : List Value).toArray below meth c H locs (24 + 35 * (10 - (n153 + 1)) + 4 * (10 - (n450 + 1))) (144 + 210 * (10 - (n153 + 1)) + 24 * (10 - (n450 + 1))) (MQ below (va_Qi (fun (r : Int32) (u : XV × SV) => (r, u) = out ∧ b01 r) (fun u t => va_P (dC, dI) vwCl (([(cXo x an tr u.1), (cH cyO (x 1) (x 2) 2 fl), (cXk cyI x u.1), (cH cyO (x 4) (x 5) 6 fs), (cT cyI x (X_text u.1)), (cSo an u.2), (cG cyI an (S_green u.2)), (cV cyI an (S_score u.2))] : List va_W).flatten) t.heap ∧ va_D A (([(cXo x an tr u.1), (cH cyO (x 1) (x 2) 2 fl), (cXk cyI x u.1), (cH cyO (x 4) (x 5) 6 fs), (cT cyI x (X_text u.1)), (cSo an u.2), (cG cyI an (S_green u.2)), (cV cyI an (S_score u.2))] : List va_W).flatten)) A) ([.ref (x 0)] : List Value).toArray s 445 2670 A) (F0 m 555 ls [.int s533]) := by
                            intro s555 H locs ls hP hD hS hl hF
                            have hF := (congrFun hj555 s555).symm.trans hF
                            refine lv_iconst (v := 1) hx hb dL_areBowlsSo_555 (by decide) ?_
                            refine lv_goto (tgt := 560) hx hb dL_areBowlsSo_556 (by decide) ?_
                            refine W.widen (k := (24 + 35 * (10 - (n153 + 1)) + 4 * (10 - (n450 + 1)))) (n := (144 + 210 * (10 - (n153 + 1)) + 24 * (10 - (n450 + 1)))) (by omega) (by omega) ?_
                            exact hJ560 (1 : Int32) _ _ _ b01_1 hP hD hS (lv_sub hl [0, 1, 2] rfl) hF
                          refine lv_if_eq (tgt := 555) hx hb dL_areBowlsSo_535 (by decide) (fun c47 => ?_) (fun c47 => ?_)
                          · have hF := itp c47 hF
                            refine W.widen (k := (24 + 35 * (10 - (n153 + 1)) + 4 * (10 - (n450 + 1)))) (n := (144 + 210 * (10 - (n153 + 1)) + 24 * (10 - (n450 + 1)))) (by omega) (by omega) ?_
                            exact hJ555 () _ _ _ hP hD hS (lv_sub hl [0, 2, 3] rfl) hF
                          · have hF := itn c47 hF
                            refine lv_iload_n hx hb dL_areBowlsSo_538 rfl (lv_at hl 1 rfl) ?_
                            refine lv_iconst (v := 2) hx hb dL_areBowlsSo_539 (by decide) ?_
                            refine lv_aload_n hx hb dL_areBowlsSo_540 rfl (lv_at hl 0 rfl) ?_
                            obtain ⟨o48, h49, hF⟩ := obd hF
                            refine wcRVi (As := []) (rest := [.int (2 : Int32), .int o1, .int s533]) (b := (x 0)) ⟨hx, hb, hml, hown, hts⟩ (met_X5_bowlsOfSide l dC dI cyI cyO x tr an fl fs N o16.2.1 o16.2.2  o48 h49) (cwV 0 hts (gV w_methodLink_L_80 w_instanceMethod_X5_bowlsOfSide w_selects_X5_bowlsOfSide w_initialized_X5 w_code_X5_bowlsOfSide) rfl rfl rfl (by decide +kernel) ⟨Nat.le_of_ble_eq_true rfl, Nat.le_of_ble_eq_true rfl⟩) (va_recv hK.1 hP (ci := 5) (q0 := 0) rfl rfl) hP hK [0, 1, 2, 3, 4, 5, 6, 7, 8, 9, 10, 11, 12, 13, 14, 15, 16, 17, 18, 19, 20] rfl rfl hl.1 (Nat.le_of_ble_eq_true rfl) dL_areBowlsSo_541 ⟨(show _ ≤ 445 from by omega), (show _ ≤ 2670 from by omega)⟩ hS (fun r H locs hw hP hS => ?_)
                            have hw := hw.symm
                            subst hw
                            refine lv_imul hx hb dL_areBowlsSo_544 ?_
                            refine lv_icmp_eq (tgt := 555) hx hb dL_areBowlsSo_545 (by decide) (fun c50 => ?_) (fun c50 => ?_)
                            · have hF := itp c50 hF
                              refine W.widen (k := (24 + 35 * (10 - (n153 + 1)) + 4 * (10 - (n450 + 1)))) (n := (144 + 210 * (10 - (n153 + 1)) + 24 * (10 - (n450 + 1)))) (by omega) (by omega) ?_
                              exact hJ555 () _ _ _ hP hD hS (lv_sub hl [0, 2, 3] rfl) hF
                            · have hF := itn c50 hF
                              refine lv_aload_n hx hb dL_areBowlsSo_548 rfl (lv_at hl 0 rfl) ?_
                              obtain ⟨o51, h52, hF⟩ := obd hF
                              refine wcRVi (As := []) (rest := [.int s533]) (b := (x 0)) ⟨hx, hb, hml, hown, hts⟩ (met_X5_isBurnt l dC dI cyI cyO x tr an fl fs N o16.2.1 o16.2.2  o51 h52) (cwV 0 hts (gV w_methodLink_L_83 w_instanceMethod_X5_isBurnt w_selects_X5_isBurnt w_initialized_X5 w_code_X5_isBurnt) rfl rfl rfl (by decide +kernel) ⟨Nat.le_of_ble_eq_true rfl, Nat.le_of_ble_eq_true rfl⟩) (va_recv hK.1 hP (ci := 5) (q0 := 0) rfl rfl) hP hK [0, 1, 2, 3, 4, 5, 6, 7, 8, 9, 10, 11, 12, 13, 14, 15, 16, 17, 18, 19, 20] rfl rfl hl.1 (Nat.le_of_ble_eq_true rfl) dL_areBowlsSo_549 ⟨(show _ ≤ 445 from by omega), (show _ ≤ 2670 from by omega)⟩ hS (fun r H locs hw hP hS => ?_)
                              obtain ⟨hw, hz53⟩ := hw
                              have hw := hw.symm
                              subst hw
                              refine lv_if_eq (tgt := 559) hx hb dL_areBowlsSo_552 (by decide) (fun c54 => ?_) (fun c54 => ?_)
                              · have hF := itp c54 hF
                                refine lv_iconst (v := 0) hx hb dL_areBowlsSo_559 (by decide) ?_
                                refine W.widen (k := (24 + 35 * (10 - (n153 + 1)) + 4 * (10 - (n450 + 1)))) (n := (144 + 210 * (10 - (n153 + 1)) + 24 * (10 - (n450 + 1)))) (by omega) (by omega) ?_
                                exact hJ560 (0 : Int32) _ _ _ b01_0 hP hD hS (lv_sub hl [0, 2, 3] rfl) hF
                              · have hF := itn c54 hF
                                refine W.widen (k := (24 + 35 * (10 - (n153 + 1)) + 4 * (10 - (n450 + 1)))) (n := (144 + 210 * (10 - (n153 + 1)) + 24 * (10 - (n450 + 1)))) (by omega) (by omega) ?_
                                exact hJ555 () _ _ _ hP hD hS (lv_sub hl [0, 2, 3] rfl) hF
                        refine lv_icmp_ne (tgt := 532) hx hb dL_areBowlsSo_525 (by decide) (fun c55 => ?_) (fun c55 => ?_)
                        · have hF := itn c55 hF
                          refine lv_iconst (v := 0) hx hb dL_areBowlsSo_532 (by decide) ?_
                          refine W.widen (k := (24 + 35 * (10 - (n153 + 1)) + 4 * (10 - (n450 + 1)))) (n := (144 + 210 * (10 - (n153 + 1)) + 24 * (10 - (n450 + 1)))) (by omega) (by omega) ?_
                          exact hJ533 (0 : Int32) _ _ _ b01_0 hP hD hS (lv_sub hl [0, 1, 2, 3, 4] rfl) hF
                        · have hF := itp c55 hF
                          refine lv_iconst (v := 1) hx hb dL_areBowlsSo_528 (by decide) ?_
                          refine lv_goto (tgt := 533) hx hb dL_areBowlsSo_529 (by decide) ?_
                          refine W.widen (k := (24 + 35 * (10 - (n153 + 1)) + 4 * (10 - (n450 + 1)))) (n := (144 + 210 * (10 - (n153 + 1)) + 24 * (10 - (n450 + 1)))) (by omega) (by omega) ?_
                          exact hJ533 (1 : Int32) _ _ _ b01_1 hP hD hS (lv_sub hl [0, 1, 2, 3, 4] rfl) hF
              refine lv_icmp_ge (tgt := 497) hx hb dL_areBowlsSo_453 (by decide) (fun c56 => ?_) (fun c56 => ?_)
              · have hF := itp c56 hF
                refine W.widen (k := (13 + 35 * (10 - (n153 + 1)) + 4 * (10 - (n450 + 1)))) (n := (78 + 210 * (10 - (n153 + 1)) + 24 * (10 - (n450 + 1)))) (by omega) (by omega) ?_
                exact hJ497 () _ _ _ hP hD hS (lv_sub hl [0, 1, 2, 3, 5, 6] rfl) hF
              · have hF := itn c56 hF
                refine lv_iload hx hb dL_areBowlsSo_456 (lv_at hl 6 rfl) ?_
                refine lv_if_eq (tgt := 497) hx hb dL_areBowlsSo_458 (by decide) (fun c57 => ?_) (fun c57 => ?_)
                · have hF := itp c57 hF
                  refine W.widen (k := (13 + 35 * (10 - (n153 + 1)) + 4 * (10 - (n450 + 1)))) (n := (78 + 210 * (10 - (n153 + 1)) + 24 * (10 - (n450 + 1)))) (by omega) (by omega) ?_
                  exact hJ497 () _ _ _ hP hD hS (lv_sub hl [0, 1, 2, 3, 5, 6] rfl) hF
                · have hF := itn c57 hF
                  refine lv_aload_n hx hb dL_areBowlsSo_461 rfl (lv_at hl 0 rfl) ?_
                  refine lv_aload_n hx hb dL_areBowlsSo_462 rfl (lv_at hl 0 rfl) ?_
                  refine lv_iload hx hb dL_areBowlsSo_463 (lv_at hl 7 rfl) ?_
                  obtain ⟨o58, h59, hF⟩ := obd hF
                  refine wxPVi (As := [.int s450.2.2.1]) (rest := [.ref (x 0)]) (wr := ([] : List va_W).flatten) (b := (x 0)) ⟨hx, hb, hml, hown, hts⟩ (met_X5_nearest l z0 hst dC dI cyI cyO x tr an fl fs _ N s450.2.2.2.1 s450.2.2.2.2 s450.2.2.1 o58 h59) (cwV 1 hts (gV w_methodLink_L_158 w_instanceMethod_X5_nearest w_selects_X5_nearest w_initialized_X5 w_code_X5_nearest) rfl rfl rfl (by decide +kernel) ⟨Nat.le_of_ble_eq_true rfl, Nat.le_of_ble_eq_true rfl⟩) (va_recv hK.1 hP (ci := 5) (q0 := 0) rfl rfl) hP hD hK hZ hAz hz0 (seg_perm (n := 8) (R := []) (C := [(cXo x an tr s450.2.2.2.1), (cH cyO (x 1) (x 2) 2 fl), (cXk cyI x s450.2.2.2.1), (cH cyO (x 4) (x 5) 6 fs), (cT cyI x (X_text s450.2.2.2.1)), (cSo an s450.2.2.2.2), (cG cyI an (S_green s450.2.2.2.2)), (cV cyI an (S_score s450.2.2.2.2))]) [] [0, 1, 2, 3, 4, 5, 6, 7] rfl rfl rfl (by decide) rfl) rfl hl.1 (Nat.le_of_ble_eq_true rfl) dL_areBowlsSo_465 ⟨(show _ ≤ 445 from by omega), (show _ ≤ 2670 from by omega)⟩ hS hA (fun k u ce q9 H locs hw hP hD hS h9 hv9 hc9 => ?_) (fun ro58 u H locs hw hP hD hS => ?_)
                  · obtain rfl : u = o58.2 := congrArg Prod.snd hw
                    have hw1 : Sum.inl k = o58.1 := congrArg Prod.fst hw
                    rw [← hw1] at hF
                    have hF := exc_l hF
                    have hq := seg_permS (segs := [(cXo x an tr o58.2.1), (cH cyO (x 1) (x 2) 2 fl), (cXk cyI x o58.2.1), (cH cyO (x 4) (x 5) 6 fs), (cT cyI x (X_text o58.2.1)), (cSo an o58.2.2), (cG cyI an (S_green o58.2.2)), (cV cyI an (S_score o58.2.2))]) (R := []) (C := [(cXo x an tr o58.2.1), (cH cyO (x 1) (x 2) 2 fl), (cXk cyI x o58.2.1), (cH cyO (x 4) (x 5) 6 fs), (cT cyI x (X_text o58.2.1)), (cSo an o58.2.2), (cG cyI an (S_green o58.2.2)), (cV cyI an (S_score o58.2.2))]) (n := 8) [] [0, 1, 2, 3, 4, 5, 6, 7] rfl rfl rfl (by decide)
                    have hP : va_P (dC, dI) vwCl (([(cXo x an tr o58.2.1), (cH cyO (x 1) (x 2) 2 fl), (cXk cyI x o58.2.1), (cH cyO (x 4) (x 5) 6 fs), (cT cyI x (X_text o58.2.1)), (cSo an o58.2.2), (cG cyI an (S_green o58.2.2)), (cV cyI an (S_score o58.2.2))] : List va_W).flatten) H := hP.perm hq
                    have hD : va_D A (([(cXo x an tr o58.2.1), (cH cyO (x 1) (x 2) 2 fl), (cXk cyI x o58.2.1), (cH cyO (x 4) (x 5) 6 fs), (cT cyI x (X_text o58.2.1)), (cSo an o58.2.2), (cG cyI an (S_green o58.2.2)), (cV cyI an (S_score o58.2.2))] : List va_W).flatten) := hD.perm hq
                    clear hq
                    cases hF
                  · skip
                    obtain rfl : u = o58.2 := congrArg Prod.snd hw
                    have hw1 : Sum.inr ro58 = o58.1 := congrArg Prod.fst hw
                    rw [← hw1] at hF
                    have hF := exc_r hF
                    have hq := seg_permS (segs := [(cXo x an tr o58.2.1), (cH cyO (x 1) (x 2) 2 fl), (cXk cyI x o58.2.1), (cH cyO (x 4) (x 5) 6 fs), (cT cyI x (X_text o58.2.1)), (cSo an o58.2.2), (cG cyI an (S_green o58.2.2)), (cV cyI an (S_score o58.2.2))]) (R := []) (C := [(cXo x an tr o58.2.1), (cH cyO (x 1) (x 2) 2 fl), (cXk cyI x o58.2.1), (cH cyO (x 4) (x 5) 6 fs), (cT cyI x (X_text o58.2.1)), (cSo an o58.2.2), (cG cyI an (S_green o58.2.2)), (cV cyI an (S_score o58.2.2))]) (n := 8) [] [0, 1, 2, 3, 4, 5, 6, 7] rfl rfl rfl (by decide)
                    have hP : va_P (dC, dI) vwCl (([(cXo x an tr o58.2.1), (cH cyO (x 1) (x 2) 2 fl), (cXk cyI x o58.2.1), (cH cyO (x 4) (x 5) 6 fs), (cT cyI x (X_text o58.2.1)), (cSo an o58.2.2), (cG cyI an (S_green o58.2.2)), (cV cyI an (S_score o58.2.2))] : List va_W).flatten) H := hP.perm hq
                    have hD : va_D A (([(cXo x an tr o58.2.1), (cH cyO (x 1) (x 2) 2 fl), (cXk cyI x o58.2.1), (cH cyO (x 4) (x 5) 6 fs), (cT cyI x (X_text o58.2.1)), (cSo an o58.2.2), (cG cyI an (S_green o58.2.2)), (cV cyI an (S_score o58.2.2))] : List va_W).flatten) := hD.perm hq
                    clear hq
                    obtain ⟨o60, h61, hF⟩ := obd hF
                    refine wxRVi (As := [.int ro58]) (rest := []) (b := (x 0)) ⟨hx, hb, hml, hown, hts⟩ (met_X5_distanceOf l z0 hst dC dI cyI cyO x tr an fl fs N o58.2.1 o58.2.2 ro58 o60 h61) (cwV 1 hts (gV w_methodLink_L_47 w_instanceMethod_X5_distanceOf w_selects_X5_distanceOf w_initialized_X5 w_code_X5_distanceOf) rfl rfl rfl (by decide +kernel) ⟨Nat.le_of_ble_eq_true rfl, Nat.le_of_ble_eq_true rfl⟩) (va_recv hK.1 hP (ci := 5) (q0 := 0) rfl rfl) hP hK hZ hAz [0, 1, 2, 3, 4, 5, 6, 7, 8, 9, 10, 11, 12, 13, 14, 15, 16, 17, 18, 19, 20] rfl rfl hl.1 (Nat.le_of_ble_eq_true rfl) dL_areBowlsSo_468 ⟨(show _ ≤ 445 from by omega), (show _ ≤ 2670 from by omega)⟩ hS (fun k ce q9 H locs hw hP hS h9 hv9 hc9 => ?_) (fun ro60 H locs hw hP hS => ?_)
                    · have hw := hw.symm
                      subst hw
                      have hF := exc_l hF
                      cases hF
                    · skip
                      have hw := hw.symm
                      subst hw
                      have hF := exc_r hF
                      refine lv_istore (lv' := [(8, .int ro60), (0, .ref (x 0)), (1, .int o1), (2, .int s153.1), (3, .int o3.1), (4, .int s450.1), (5, .int o5), (6, .int s450.2.1), (7, .int s450.2.2.1)]) hx hb dL_areBowlsSo_471 hl (by decide) rfl (fun ls hl => ?_)
                      refine lv_iload hx hb dL_areBowlsSo_473 (lv_at hl 0 rfl) ?_
                      refine lv_iload hx hb dL_areBowlsSo_475 (lv_at hl 5 rfl) ?_
                      obtain ⟨j485, hj485, hF⟩ := jn_use hF
                      have hJ485 : ∀ (s485 : Int32) (H : Heap) (locs : List Loc) (ls : Array Slot) (hz_485_s0 : b01 s485), va_P (dC, dI) vwCl (([(cXo x an tr o58.2.1), (cH cyO (x 1) (x 2) 2 fl), (cXk cyI x o58.2.1), (cH cyO (x 4) (x 5) 6 fs), (cT cyI x (X_text o58.2.1)), (cSo an o58.2.2), (cG cyI an (S_green o58.2.2)), (cV cyI an (S_score o58.2.2))] : List va_W).flatten) H → va_D A (([(cXo x an tr o58.2.1), (cH cyO (x 1) (x 2) 2 fl), (cXk cyI x o58.2.1), (cH cyO (x 4) (x 5) 6 fs), (cT cyI x (X_text o58.2.1)), (cSo an o58.2.2), (cG cyI an (S_green o58.2.2)), (cV cyI an (S_score o58.2.2))] : List va_W).flatten) → va_S A s.heap H locs → lv_has ls 11 [(0, .ref (x 0)), (1, .int o1), (2, .int s153.1), (3, .int o3.1), (5, .int o5), (7, .int s450.2.2.1), (8, .int ro60)] → j485 s485 = some out → W p l e (headSpec (Cond.code yL_areBowlsSo cL_areBowlsSo 11 (some .boolean) :: wT) ({ frames := 9, cells := 445, slots := 2670, locals := 147 } : Room)).room s m ([.ref (x 0)] : List Value).toArray below meth c H locs (17 + 35 * (10 - (n153 + 1)) + 4 * (10 - (n450 + 1))) (102 + 210 * (10 - (n153 + 1)) + 24 * (10 - (n450 + 1))) (MQ below (va_Qi (fun (r : Int32) (u : XV × SV) => (r, u) = out ∧ b01 r) (fun u t => va_P (dC, dI) vwCl (([(cXo x an tr u.1), (cH cyO (x 1) (x 2) 2 fl), (cXk cyI x u.1), (cH cyO (x 4) (x 5) 6 fs), (cT cyI x (X_text u.1)), (cSo an u.2), (cG cyI an (S_green u.2)), (cV cyI an (S_score u.2))] : List va_W).flatten) t.heap ∧ va_D A (([(cXo x an tr u.1), (cH cyO (x 1) (x 2) 2 fl), (cXk cyI x u.1), (cH cyO (x 4) (x 5) 6 fs), (cT cyI x (X_text u.1)), (cSo an u.2), (cG cyI an (S_green u.2)), (cV cyI an (S_score u.2))] : List va_W).flatten)) A) ([.ref (x 0)] : List Value).toArray s 445 2670 A) (F0 m 485 ls [.int s485]) := by
                        intro s485 H locs ls hz_485_s0 hP hD hS hl hF
                        have hF := (congrFun hj485 s485).symm.trans hF
                        refine lv_istore (lv' := [(6, .int s485), (0, .ref (x 0)), (1, .int o1), (2, .int s153.1), (3, .int o3.1), (5, .int o5), (7, .int s450.2.2.1), (8, .int ro60)]) hx hb dL_areBowlsSo_485 hl (by decide) rfl (fun ls hl => ?_)
                        refine lv_iload hx hb dL_areBowlsSo_487 (lv_at hl 7 rfl) ?_
                        refine lv_istore (lv' := [(4, .int ro60), (6, .int s485), (0, .ref (x 0)), (1, .int o1), (2, .int s153.1), (3, .int o3.1), (5, .int o5), (7, .int s450.2.2.1), (8, .int ro60)]) hx hb dL_areBowlsSo_489 hl (by decide) rfl (fun ls hl => ?_)
                        refine lv_iinc (v := (s450.2.2.1 + (1 : Int32))) (lv' := [(7, .int (s450.2.2.1 + (1 : Int32))), (4, .int ro60), (6, .int s485), (0, .ref (x 0)), (1, .int o1), (2, .int s153.1), (3, .int o3.1), (5, .int o5), (8, .int ro60)]) hx hb dL_areBowlsSo_491 hl (k := 7) rfl rfl (by decide) rfl (fun ls hl => ?_)
                        refine lv_goto (tgt := 450) hx hb dL_areBowlsSo_494 (by decide) ?_
                        refine W.widen (k := (13 + 35 * (10 - (n153 + 1)) + 4 * (10 - (n450)))) (n := (78 + 210 * (10 - (n153 + 1)) + 24 * (10 - (n450)))) (by omega) (by omega) ?_
                        exact ih450 (by omega) (ro60, s485, (s450.2.2.1 + (1 : Int32)), o58.2.1, o58.2.2) _ _ _ hz_485_s0 hP hD hS (lv_sub hl [3, 4, 5, 6, 1, 7, 2, 0] rfl) hF
                      refine lv_icmp_lt (tgt := 484) hx hb dL_areBowlsSo_477 (by decide) (fun c62 => ?_) (fun c62 => ?_)
                      · have hF := itp c62 hF
                        refine lv_iconst (v := 0) hx hb dL_areBowlsSo_484 (by decide) ?_
                        refine W.widen (k := (17 + 35 * (10 - (n153 + 1)) + 4 * (10 - (n450 + 1)))) (n := (102 + 210 * (10 - (n153 + 1)) + 24 * (10 - (n450 + 1)))) (by omega) (by omega) ?_
                        exact hJ485 (0 : Int32) _ _ _ b01_0 hP hD hS (lv_sub hl [1, 2, 3, 4, 6, 8, 0] rfl) hF
                      · have hF := itn c62 hF
                        refine lv_iconst (v := 1) hx hb dL_areBowlsSo_480 (by decide) ?_
                        refine lv_goto (tgt := 485) hx hb dL_areBowlsSo_481 (by decide) ?_
                        refine W.widen (k := (17 + 35 * (10 - (n153 + 1)) + 4 * (10 - (n450 + 1)))) (n := (102 + 210 * (10 - (n153 + 1)) + 24 * (10 - (n450 + 1)))) (by omega) (by omega) ?_
                        exact hJ485 (1 : Int32) _ _ _ b01_1 hP hD hS (lv_sub hl [1, 2, 3, 4, 6, 8, 0] rfl) hF
          refine W.widen (k := (13 + 35 * (10 - (n153 + 1)) + 4 * (10 - (10)))) (n := (78 + 210 * (10 - (n153 + 1)) + 24 * (10 - (10)))) (by omega) (by omega) ?_
          exact hL450 10 (Nat.le_refl _) ((-1 : Int32), s153.2.1, (0 : Int32), s153.2.2.2.1, s153.2.2.2.2) _ _ _ hz_153_6 hP hD hS (lv_sub hl [1, 2, 3, 4, 5, 6, 7, 0] rfl) hF
        refine lv_icmp_ge (tgt := 447) hx hb dL_areBowlsSo_156 (by decide) (fun c63 => ?_) (fun c63 => ?_)
        · have hF := itp c63 hF
          refine W.widen (k := (13 + 35 * (10 - (n153 + 1)))) (n := (78 + 210 * (10 - (n153 + 1)))) (by omega) (by omega) ?_
          exact hJ447 () _ _ _ hP hD hS (lv_sub hl [0, 1, 2, 3, 4, 5, 6] rfl) hF
        · have hF := itn c63 hF
          refine lv_iload hx hb dL_areBowlsSo_159 (lv_at hl 6 rfl) ?_
          refine lv_if_eq (tgt := 447) hx hb dL_areBowlsSo_161 (by decide) (fun c64 => ?_) (fun c64 => ?_)
          · have hF := itp c64 hF
            refine W.widen (k := (13 + 35 * (10 - (n153 + 1)))) (n := (78 + 210 * (10 - (n153 + 1)))) (by omega) (by omega) ?_
            exact hJ447 () _ _ _ hP hD hS (lv_sub hl [0, 1, 2, 3, 4, 5, 6] rfl) hF
          · have hF := itn c64 hF
            refine lv_aload_n hx hb dL_areBowlsSo_164 rfl (lv_at hl 0 rfl) ?_
            refine lv_iconst (v := 0) hx hb dL_areBowlsSo_165 (by decide) ?_
            refine lv_iload hx hb dL_areBowlsSo_166 (lv_at hl 7 rfl) ?_
            obtain ⟨o65, h66, hF⟩ := obd hF
            refine wcLi (As := [.ref (x 0), .int (0 : Int32), .int s153.2.2.1]) (rest := []) (wr := ([] : List va_W).flatten) ⟨hx, hb, hml, hown, hts⟩ (met_L_looks l z0 hst dC dI cyI cyO x tr an fl fs _ N s153.2.2.2.1 s153.2.2.2.2 (0 : Int32) s153.2.2.1 o65 h66) (vx_cwSW 3 hts (gS w_methodLink_L_93 w_static_L_looks w_initialized_L w_codeW_L_looks) rfl rfl rfl (by decide +kernel) ⟨Nat.le_of_ble_eq_true rfl, Nat.le_of_ble_eq_true rfl⟩) hP hD hK hZ hAz hz0 (seg_perm (n := 8) (R := []) (C := [(cXo x an tr s153.2.2.2.1), (cH cyO (x 1) (x 2) 2 fl), (cXk cyI x s153.2.2.2.1), (cH cyO (x 4) (x 5) 6 fs), (cT cyI x (X_text s153.2.2.2.1)), (cSo an s153.2.2.2.2), (cG cyI an (S_green s153.2.2.2.2)), (cV cyI an (S_score s153.2.2.2.2))]) [] [0, 1, 2, 3, 4, 5, 6, 7] rfl rfl rfl (by decide) rfl) rfl hl.1 (Nat.le_of_ble_eq_true rfl) dL_areBowlsSo_168 ⟨(show _ ≤ 445 from by omega), (show _ ≤ 2670 from by omega)⟩ hS hA (fun r u H locs hw hP hD hS => ?_)
            obtain rfl : r = o65.1 := congrArg Prod.fst hw
            obtain rfl : u = o65.2 := congrArg Prod.snd hw
            clear hw
            have hq := seg_permS (segs := [(cXo x an tr o65.2.1), (cH cyO (x 1) (x 2) 2 fl), (cXk cyI x o65.2.1), (cH cyO (x 4) (x 5) 6 fs), (cT cyI x (X_text o65.2.1)), (cSo an o65.2.2), (cG cyI an (S_green o65.2.2)), (cV cyI an (S_score o65.2.2))]) (R := []) (C := [(cXo x an tr o65.2.1), (cH cyO (x 1) (x 2) 2 fl), (cXk cyI x o65.2.1), (cH cyO (x 4) (x 5) 6 fs), (cT cyI x (X_text o65.2.1)), (cSo an o65.2.2), (cG cyI an (S_green o65.2.2)), (cV cyI an (S_score o65.2.2))]) (n := 8) [] [0, 1, 2, 3, 4, 5, 6, 7] rfl rfl rfl (by decide)
            have hP : va_P (dC, dI) vwCl (([(cXo x an tr o65.2.1), (cH cyO (x 1) (x 2) 2 fl), (cXk cyI x o65.2.1), (cH cyO (x 4) (x 5) 6 fs), (cT cyI x (X_text o65.2.1)), (cSo an o65.2.2), (cG cyI an (S_green o65.2.2)), (cV cyI an (S_score o65.2.2))] : List va_W).flatten) H := hP.perm hq
            have hD : va_D A (([(cXo x an tr o65.2.1), (cH cyO (x 1) (x 2) 2 fl), (cXk cyI x o65.2.1), (cH cyO (x 4) (x 5) 6 fs), (cT cyI x (X_text o65.2.1)), (cSo an o65.2.2), (cG cyI an (S_green o65.2.2)), (cV cyI an (S_score o65.2.2))] : List va_W).flatten) := hD.perm hq
            clear hq
            refine lv_istore (lv' := [(8, .int o65.1), (0, .ref (x 0)), (1, .int o1), (2, .int s153.1), (3, .int o3.1), (4, .int (-1 : Int32)), (5, .int o5), (6, .int s153.2.1), (7, .int s153.2.2.1)]) hx hb dL_areBowlsSo_171 hl (by decide) rfl (fun ls hl => ?_)
            refine lv_aload_n hx hb dL_areBowlsSo_173 rfl (lv_at hl 1 rfl) ?_
            refine lv_iconst (v := 1) hx hb dL_areBowlsSo_174 (by decide) ?_
            refine lv_iload hx hb dL_areBowlsSo_175 (lv_at hl 8 rfl) ?_
            obtain ⟨o67, h68, hF⟩ := obd hF
            refine wcLi (As := [.ref (x 0), .int (1 : Int32), .int s153.2.2.1]) (rest := []) (wr := ([] : List va_W).flatten) ⟨hx, hb, hml, hown, hts⟩ (met_L_looks l z0 hst dC dI cyI cyO x tr an fl fs _ N o65.2.1 o65.2.2 (1 : Int32) s153.2.2.1 o67 h68) (vx_cwSW 3 hts (gS w_methodLink_L_93 w_static_L_looks w_initialized_L w_codeW_L_looks) rfl rfl rfl (by decide +kernel) ⟨Nat.le_of_ble_eq_true rfl, Nat.le_of_ble_eq_true rfl⟩) hP hD hK hZ hAz hz0 (seg_perm (n := 8) (R := []) (C := [(cXo x an tr o65.2.1), (cH cyO (x 1) (x 2) 2 fl), (cXk cyI x o65.2.1), (cH cyO (x 4) (x 5) 6 fs), (cT cyI x (X_text o65.2.1)), (cSo an o65.2.2), (cG cyI an (S_green o65.2.2)), (cV cyI an (S_score o65.2.2))]) [] [0, 1, 2, 3, 4, 5, 6, 7] rfl rfl rfl (by decide) rfl) rfl hl.1 (Nat.le_of_ble_eq_true rfl) dL_areBowlsSo_177 ⟨(show _ ≤ 445 from by omega), (show _ ≤ 2670 from by omega)⟩ hS hA (fun r u H locs hw hP hD hS => ?_)
            obtain rfl : r = o67.1 := congrArg Prod.fst hw
            obtain rfl : u = o67.2 := congrArg Prod.snd hw
            clear hw
            have hq := seg_permS (segs := [(cXo x an tr o67.2.1), (cH cyO (x 1) (x 2) 2 fl), (cXk cyI x o67.2.1), (cH cyO (x 4) (x 5) 6 fs), (cT cyI x (X_text o67.2.1)), (cSo an o67.2.2), (cG cyI an (S_green o67.2.2)), (cV cyI an (S_score o67.2.2))]) (R := []) (C := [(cXo x an tr o67.2.1), (cH cyO (x 1) (x 2) 2 fl), (cXk cyI x o67.2.1), (cH cyO (x 4) (x 5) 6 fs), (cT cyI x (X_text o67.2.1)), (cSo an o67.2.2), (cG cyI an (S_green o67.2.2)), (cV cyI an (S_score o67.2.2))]) (n := 8) [] [0, 1, 2, 3, 4, 5, 6, 7] rfl rfl rfl (by decide)
            have hP : va_P (dC, dI) vwCl (([(cXo x an tr o67.2.1), (cH cyO (x 1) (x 2) 2 fl), (cXk cyI x o67.2.1), (cH cyO (x 4) (x 5) 6 fs), (cT cyI x (X_text o67.2.1)), (cSo an o67.2.2), (cG cyI an (S_green o67.2.2)), (cV cyI an (S_score o67.2.2))] : List va_W).flatten) H := hP.perm hq
            have hD : va_D A (([(cXo x an tr o67.2.1), (cH cyO (x 1) (x 2) 2 fl), (cXk cyI x o67.2.1), (cH cyO (x 4) (x 5) 6 fs), (cT cyI x (X_text o67.2.1)), (cSo an o67.2.2), (cG cyI an (S_green o67.2.2)), (cV cyI an (S_score o67.2.2))] : List va_W).flatten) := hD.perm hq
            clear hq
            refine lv_istore (lv' := [(9, .int o67.1), (8, .int o65.1), (0, .ref (x 0)), (1, .int o1), (2, .int s153.1), (3, .int o3.1), (4, .int (-1 : Int32)), (5, .int o5), (6, .int s153.2.1), (7, .int s153.2.2.1)]) hx hb dL_areBowlsSo_180 hl (by decide) rfl (fun ls hl => ?_)
            refine lv_aload_n hx hb dL_areBowlsSo_182 rfl (lv_at hl 2 rfl) ?_
            refine lv_iload hx hb dL_areBowlsSo_183 (lv_at hl 9 rfl) ?_
            obtain ⟨o69, h70, hF⟩ := obd hF
            refine wxRVi (As := [.int s153.2.2.1]) (rest := []) (b := (x 0)) ⟨hx, hb, hml, hown, hts⟩ (met_X5_stateOf l z0 hst dC dI cyI cyO x tr an fl fs N o67.2.1 o67.2.2 s153.2.2.1 o69 h70) (cwV 1 hts (gV w_methodLink_L_127 w_instanceMethod_X5_stateOf w_selects_X5_stateOf w_initialized_X5 w_code_X5_stateOf) rfl rfl rfl (by decide +kernel) ⟨Nat.le_of_ble_eq_true rfl, Nat.le_of_ble_eq_true rfl⟩) (va_recv hK.1 hP (ci := 5) (q0 := 0) rfl rfl) hP hK hZ hAz [0, 1, 2, 3, 4, 5, 6, 7, 8, 9, 10, 11, 12, 13, 14, 15, 16, 17, 18, 19, 20] rfl rfl hl.1 (Nat.le_of_ble_eq_true rfl) dL_areBowlsSo_185 ⟨(show _ ≤ 445 from by omega), (show _ ≤ 2670 from by omega)⟩ hS (fun k ce q9 H locs hw hP hS h9 hv9 hc9 => ?_) (fun ro69 H locs hw hP hS => ?_)
            · have hw := hw.symm
              subst hw
              have hF := exc_l hF
              cases hF
            · skip
              have hw := hw.symm
              subst hw
              have hF := exc_r hF
              refine lv_istore (lv' := [(10, .int ro69), (9, .int o67.1), (8, .int o65.1), (0, .ref (x 0)), (1, .int o1), (2, .int s153.1), (3, .int o3.1), (4, .int (-1 : Int32)), (5, .int o5), (6, .int s153.2.1), (7, .int s153.2.2.1)]) hx hb dL_areBowlsSo_188 hl (by decide) rfl (fun ls hl => ?_)
              refine lv_iload_n hx hb dL_areBowlsSo_190 rfl (lv_at hl 5 rfl) ?_
              refine lv_iload hx hb dL_areBowlsSo_191 (lv_at hl 0 rfl) ?_
              refine lv_iconst (v := 2) hx hb dL_areBowlsSo_193 (by decide) ?_
              obtain ⟨j202, hj202, hF⟩ := jn_use hF
              have hJ202 : ∀ (s202 : Int32) (H : Heap) (locs : List Loc) (ls : Array Slot) (hz_202_s1 : b01 s202), va_P (dC, dI) vwCl (([(cXo x an tr o67.2.1), (cH cyO (x 1) (x 2) 2 fl), (cXk cyI x o67.2.1), (cH cyO (x 4) (x 5) 6 fs), (cT cyI x (X_text o67.2.1)), (cSo an o67.2.2), (cG cyI an (S_green o67.2.2)), (cV cyI an (S_score o67.2.2))] : List va_W).flatten) H → va_D A (([(cXo x an tr o67.2.1), (cH cyO (x 1) (x 2) 2 fl), (cXk cyI x o67.2.1), (cH cyO (x 4) (x 5) 6 fs), (cT cyI x (X_text o67.2.1)), (cSo an o67.2.2), (cG cyI an (S_green o67.2.2)), (cV cyI an (S_score o67.2.2))] : List va_W).flatten) → va_S A s.heap H locs → lv_has ls 11 [(0, .ref (x 0)), (1, .int o1), (3, .int o3.1), (4, .int (-1 : Int32)), (5, .int o5), (7, .int s153.2.2.1), (8, .int o65.1), (9, .int o67.1), (10, .int ro69)] → j202 s202 = some out → W p l e (headSpec (Cond.code yL_areBowlsSo cL_areBowlsSo 11 (some .boolean) :: wT) ({ frames := 9, cells := 445, slots := 2670, locals := 147 } : Room)).room s m ([.ref (x 0)] : List Value).toArray below meth c H locs (32 + 35 * (10 - (n153 + 1))) (192 + 210 * (10 - (n153 + 1))) (MQ below (va_Qi (fun (r : Int32) (u : XV × SV) => (r, u) = out ∧ b01 r) (fun u t => va_P (dC, dI) vwCl (([(cXo x an tr u.1), (cH cyO (x 1) (x 2) 2 fl), (cXk cyI x u.1), (cH cyO (x 4) (x 5) 6 fs), (cT cyI x (X_text u.1)), (cSo an u.2), (cG cyI an (S_green u.2)), (cV cyI an (S_score u.2))] : List va_W).flatten) t.heap ∧ va_D A (([(cXo x an tr u.1), (cH cyO (x 1) (x 2) 2 fl), (cXk cyI x u.1), (cH cyO (x 4) (x 5) 6 fs), (cT cyI x (X_text u.1)), (cSo an u.2), (cG cyI an (S_green u.2)), (cV cyI an (S_score u.2))] : List va_W).flatten)) A) ([.ref (x 0)] : List Value).toArray s 445 2670 A) (F0 m 202 ls [.int s202, .int s153.1]) := by
                intro s202 H locs ls hz_202_s1 hP hD hS hl hF
                have hF := (congrFun hj202 s202).symm.trans hF
                refine lv_iadd hx hb dL_areBowlsSo_202 ?_
                refine lv_istore_n (lv' := [(2, .int (s153.1 + s202)), (0, .ref (x 0)), (1, .int o1), (3, .int o3.1), (4, .int (-1 : Int32)), (5, .int o5), (7, .int s153.2.2.1), (8, .int o65.1), (9, .int o67.1), (10, .int ro69)]) hx hb dL_areBowlsSo_203 rfl hl (by decide) rfl (fun ls hl => ?_)
                refine lv_aload_n hx hb dL_areBowlsSo_204 rfl (lv_at hl 1 rfl) ?_
                refine lv_iload hx hb dL_areBowlsSo_205 (lv_at hl 6 rfl) ?_
                obtain ⟨o71, h72, hF⟩ := obd hF
                refine wxRVi (As := [.int s153.2.2.1]) (rest := []) (b := (x 0)) ⟨hx, hb, hml, hown, hts⟩ (met_X5_sideOf l z0 hst dC dI cyI cyO x tr an fl fs N o67.2.1 o67.2.2 s153.2.2.1 o71 h72) (cwV 1 hts (gV w_methodLink_L_143 w_instanceMethod_X5_sideOf w_selects_X5_sideOf w_initialized_X5 w_code_X5_sideOf) rfl rfl rfl (by decide +kernel) ⟨Nat.le_of_ble_eq_true rfl, Nat.le_of_ble_eq_true rfl⟩) (va_recv hK.1 hP (ci := 5) (q0 := 0) rfl rfl) hP hK hZ hAz [0, 1, 2, 3, 4, 5, 6, 7, 8, 9, 10, 11, 12, 13, 14, 15, 16, 17, 18, 19, 20] rfl rfl hl.1 (Nat.le_of_ble_eq_true rfl) dL_areBowlsSo_207 ⟨(show _ ≤ 445 from by omega), (show _ ≤ 2670 from by omega)⟩ hS (fun k ce q9 H locs hw hP hS h9 hv9 hc9 => ?_) (fun ro71 H locs hw hP hS => ?_)
                · have hw := hw.symm
                  subst hw
                  have hF := exc_l hF
                  cases hF
                · skip
                  have hw := hw.symm
                  subst hw
                  have hF := exc_r hF
                  refine lv_aload_n hx hb dL_areBowlsSo_210 rfl (lv_at hl 1 rfl) ?_
                  obtain ⟨o73, h74, hF⟩ := obd hF
                  refine wcRVi (As := []) (rest := [.int ro71]) (b := (x 0)) ⟨hx, hb, hml, hown, hts⟩ (met_X5_first l dC dI cyI cyO x tr an fl fs N o67.2.1 o67.2.2  o73 h74) (cwV 0 hts (gV w_methodLink_L_100 w_instanceMethod_X5_first w_selects_X5_first w_initialized_X5 w_code_X5_first) rfl rfl rfl (by decide +kernel) ⟨Nat.le_of_ble_eq_true rfl, Nat.le_of_ble_eq_true rfl⟩) (va_recv hK.1 hP (ci := 5) (q0 := 0) rfl rfl) hP hK [0, 1, 2, 3, 4, 5, 6, 7, 8, 9, 10, 11, 12, 13, 14, 15, 16, 17, 18, 19, 20] rfl rfl hl.1 (Nat.le_of_ble_eq_true rfl) dL_areBowlsSo_211 ⟨(show _ ≤ 445 from by omega), (show _ ≤ 2670 from by omega)⟩ hS (fun r H locs hw hP hS => ?_)
                  have hw := hw.symm
                  subst hw
                  refine lv_iload hx hb dL_areBowlsSo_214 (lv_at hl 6 rfl) ?_
                  refine lv_iadd hx hb dL_areBowlsSo_216 ?_
                  refine lv_iconst (v := 2) hx hb dL_areBowlsSo_217 (by decide) ?_
                  refine lv_irem hx hb dL_areBowlsSo_218 (by decide) ?_
                  obtain ⟨j439, hj439, hF⟩ := jn_use hF
                  have hJ439 : ∀ (s439 : Int32) (H : Heap) (locs : List Loc) (ls : Array Slot) (hz_439_s0 : b01 s439), va_P (dC, dI) vwCl (([(cXo x an tr o67.2.1), (cH cyO (x 1) (x 2) 2 fl), (cXk cyI x o67.2.1), (cH cyO (x 4) (x 5) 6 fs), (cT cyI x (X_text o67.2.1)), (cSo an o67.2.2), (cG cyI an (S_green o67.2.2)), (cV cyI an (S_score o67.2.2))] : List va_W).flatten) H → va_D A (([(cXo x an tr o67.2.1), (cH cyO (x 1) (x 2) 2 fl), (cXk cyI x o67.2.1), (cH cyO (x 4) (x 5) 6 fs), (cT cyI x (X_text o67.2.1)), (cSo an o67.2.2), (cG cyI an (S_green o67.2.2)), (cV cyI an (S_score o67.2.2))] : List va_W).flatten) → va_S A s.heap H locs → lv_has ls 11 [(0, .ref (x 0)), (1, .int o1), (2, .int (s153.1 + s202)), (3, .int o3.1), (4, .int (-1 : Int32)), (5, .int o5), (7, .int s153.2.2.1)] → j439 s439 = some out → W p l e (headSpec (Cond.code yL_areBowlsSo cL_areBowlsSo 11 (some .boolean) :: wT) ({ frames := 9, cells := 445, slots := 2670, locals := 147 } : Room)).room s m ([.ref (x 0)] : List Value).toArray below meth c H locs (48 + 35 * (10 - (n153 + 1))) (288 + 210 * (10 - (n153 + 1))) (MQ below (va_Qi (fun (r : Int32) (u : XV × SV) => (r, u) = out ∧ b01 r) (fun u t => va_P (dC, dI) vwCl (([(cXo x an tr u.1), (cH cyO (x 1) (x 2) 2 fl), (cXk cyI x u.1), (cH cyO (x 4) (x 5) 6 fs), (cT cyI x (X_text u.1)), (cSo an u.2), (cG cyI an (S_green u.2)), (cV cyI an (S_score u.2))] : List va_W).flatten) t.heap ∧ va_D A (([(cXo x an tr u.1), (cH cyO (x 1) (x 2) 2 fl), (cXk cyI x u.1), (cH cyO (x 4) (x 5) 6 fs), (cT cyI x (X_text u.1)), (cSo an u.2), (cG cyI an (S_green u.2)), (cV cyI an (S_score u.2))] : List va_W).flatten)) A) ([.ref (x 0)] : List Value).toArray s 445 2670 A) (F0 m 439 ls [.int s439]) := by
                    intro s439 H locs ls hz_439_s0 hP hD hS hl hF
                    have hF := (congrFun hj439 s439).symm.trans hF
                    refine lv_istore (lv' := [(6, .int s439), (0, .ref (x 0)), (1, .int o1), (2, .int (s153.1 + s202)), (3, .int o3.1), (4, .int (-1 : Int32)), (5, .int o5), (7, .int s153.2.2.1)]) hx hb dL_areBowlsSo_439 hl (by decide) rfl (fun ls hl => ?_)
                    refine lv_iinc (v := (s153.2.2.1 + (1 : Int32))) (lv' := [(7, .int (s153.2.2.1 + (1 : Int32))), (6, .int s439), (0, .ref (x 0)), (1, .int o1), (2, .int (s153.1 + s202)), (3, .int o3.1), (4, .int (-1 : Int32)), (5, .int o5)]) hx hb dL_areBowlsSo_441 hl (k := 7) rfl rfl (by decide) rfl (fun ls hl => ?_)
                    refine lv_goto (tgt := 153) hx hb dL_areBowlsSo_444 (by decide) ?_
                    refine W.widen (k := (13 + 35 * (10 - (n153)))) (n := (78 + 210 * (10 - (n153)))) (by omega) (by omega) ?_
                    exact ih153 (by omega) ((s153.1 + s202), s439, (s153.2.2.1 + (1 : Int32)), o67.2.1, o67.2.2) _ _ _ hz_439_s0 hP hD hS (lv_sub hl [2, 3, 4, 5, 6, 7, 1, 0] rfl) hF
                  obtain ⟨j438, hj438, hF⟩ := jn_use hF
                  have hJ438 : ∀ (s438 : Unit) (H : Heap) (locs : List Loc) (ls : Array Slot), va_P (dC, dI) vwCl (([(cXo x an tr o67.2.1), (cH cyO (x 1) (x 2) 2 fl), (cXk cyI x o67.2.1), (cH cyO (x 4) (x 5) 6 fs), (cT cyI x (X_text o67.2.1)), (cSo an o67.2.2), (cG cyI an (S_green o67.2.2)), (cV cyI an (S_score o67.2.2))] : List va_W).flatten) H → va_D A (([(cXo x an tr o67.2.1), (cH cyO (x 1) (x 2) 2 fl), (cXk cyI x o67.2.1), (cH cyO (x 4) (x 5) 6 fs), (cT cyI x (X_text o67.2.1)), (cSo an o67.2.2), (cG cyI an (S_green o67.2.2)), (cV cyI an (S_score o67.2.2))] : List va_W).flatten) → va_S A s.heap H locs → lv_has ls 11 [(0, .ref (x 0)), (1, .int o1), (2, .int (s153.1 + s202)), (3, .int o3.1), (4, .int (-1 : Int32)), (5, .int o5), (7, .int s153.2.2.1)] → j438 s438 = some out → W p l e (headSpec (Cond.code yL_areBowlsSo cL_areBowlsSo 11 (some .boolean) :: wT) ({ frames := 9, cells := 445, slots := 2670, locals := 147 } : Room)).room s m ([.ref (x 0)] : List Value).toArray below meth c H locs (48 + 35 * (10 - (n153 + 1))) (288 + 210 * (10 - (n153 + 1))) (MQ below (va_Qi (fun (r : Int32) (u : XV × SV) => (r, u) = out ∧ b01 r) (fun u t => va_P (dC, dI) vwCl (([(cXo x an tr u.1), (cH cyO (x 1) (x 2) 2 fl), (cXk cyI x u.1), (cH cyO (x 4) (x 5) 6 fs), (cT cyI x (X_text u.1)), (cSo an u.2), (cG cyI an (S_green u.2)), (cV cyI an (S_score u.2))] : List va_W).flatten) t.heap ∧ va_D A (([(cXo x an tr u.1), (cH cyO (x 1) (x 2) 2 fl), (cXk cyI x u.1), (cH cyO (x 4) (x 5) 6 fs), (cT cyI x (X_text u.1)), (cSo an u.2), (cG cyI an (S_green u.2)), (cV cyI an (S_score u.2))] : List va_W).flatten)) A) ([.ref (x 0)] : List Value).toArray s 445 2670 A) (F0 m 438 ls []) := by
                    intro s438 H locs ls hP hD hS hl hF
                    have hF := (congrFun hj438 s438).symm.trans hF
                    refine lv_iconst (v := 0) hx hb dL_areBowlsSo_438 (by decide) ?_
                    refine W.widen (k := (48 + 35 * (10 - (n153 + 1)))) (n := (288 + 210 * (10 - (n153 + 1)))) (by omega) (by omega) ?_
                    exact hJ439 (0 : Int32) _ _ _ b01_0 hP hD hS (lv_sub hl [0, 1, 2, 3, 4, 5, 6] rfl) hF
                  refine lv_icmp_ne (tgt := 438) hx hb dL_areBowlsSo_219 (by decide) (fun c75 => ?_) (fun c75 => ?_)
                  · have hF := itn c75 hF
                    refine W.widen (k := (48 + 35 * (10 - (n153 + 1)))) (n := (288 + 210 * (10 - (n153 + 1)))) (by omega) (by omega) ?_
                    exact hJ438 () _ _ _ hP hD hS (lv_sub hl [1, 2, 0, 3, 4, 5, 6] rfl) hF
                  · have hF := itp c75 hF
                    refine lv_iload hx hb dL_areBowlsSo_222 (lv_at hl 9 rfl) ?_
                    refine lv_iconst (v := 2) hx hb dL_areBowlsSo_224 (by decide) ?_
                    obtain ⟨j233, hj233, hF⟩ := jn_use hF
                    have hJ233 : ∀ (s233 : Int32) (H : Heap) (locs : List Loc) (ls : Array Slot) (hz_233_s0 : b01 s233), va_P (dC, dI) vwCl (([(cXo x an tr o67.2.1), (cH cyO (x 1) (x 2) 2 fl), (cXk cyI x o67.2.1), (cH cyO (x 4) (x 5) 6 fs), (cT cyI x (X_text o67.2.1)), (cSo an o67.2.2), (cG cyI an (S_green o67.2.2)), (cV cyI an (S_score o67.2.2))] : List va_W).flatten) H → va_D A (([(cXo x an tr o67.2.1), (cH cyO (x 1) (x 2) 2 fl), (cXk cyI x o67.2.1), (cH cyO (x 4) (x 5) 6 fs), (cT cyI x (X_text o67.2.1)), (cSo an o67.2.2), (cG cyI an (S_green o67.2.2)), (cV cyI an (S_score o67.2.2))] : List va_W).flatten) → va_S A s.heap H locs → lv_has ls 11 [(0, .ref (x 0)), (1, .int o1), (2, .int (s153.1 + s202)), (3, .int o3.1), (4, .int (-1 : Int32)), (5, .int o5), (7, .int s153.2.2.1), (8, .int o65.1), (9, .int o67.1), (10, .int ro69)] → j233 s233 = some out → W p l e (headSpec (Cond.code yL_areBowlsSo cL_areBowlsSo 11 (some .boolean) :: wT) ({ frames := 9, cells := 445, slots := 2670, locals := 147 } : Room)).room s m ([.ref (x 0)] : List Value).toArray below meth c H locs (33 + 35 * (10 - (n153 + 1))) (198 + 210 * (10 - (n153 + 1))) (MQ below (va_Qi (fun (r : Int32) (u : XV × SV) => (r, u) = out ∧ b01 r) (fun u t => va_P (dC, dI) vwCl (([(cXo x an tr u.1), (cH cyO (x 1) (x 2) 2 fl), (cXk cyI x u.1), (cH cyO (x 4) (x 5) 6 fs), (cT cyI x (X_text u.1)), (cSo an u.2), (cG cyI an (S_green u.2)), (cV cyI an (S_score u.2))] : List va_W).flatten) t.heap ∧ va_D A (([(cXo x an tr u.1), (cH cyO (x 1) (x 2) 2 fl), (cXk cyI x u.1), (cH cyO (x 4) (x 5) 6 fs), (cT cyI x (X_text u.1)), (cSo an u.2), (cG cyI an (S_green u.2)), (cV cyI an (S_score u.2))] : List va_W).flatten)) A) ([.ref (x 0)] : List Value).toArray s 445 2670 A) (F0 m 233 ls [.int s233]) := by
                      intro s233 H locs ls hz_233_s0 hP hD hS hl hF
                      have hF := (congrFun hj233 s233).symm.trans hF
                      refine lv_iload hx hb dL_areBowlsSo_233 (lv_at hl 7 rfl) ?_
                      refine lv_bipush (v := -9) hx hb dL_areBowlsSo_235 (by decide) ?_
                      obtain ⟨j245, hj245, hF⟩ := jn_use hF
                      have hJ245 : ∀ (s245 : Int32) (H : Heap) (locs : List Loc) (ls : Array Slot) (hz_245_s1 : b01 s245), va_P (dC, dI) vwCl (([(cXo x an tr o67.2.1), (cH cyO (x 1) (x 2) 2 fl), (cXk cyI x o67.2.1), (cH cyO (x 4) (x 5) 6 fs), (cT cyI x (X_text o67.2.1)), (cSo an o67.2.2), (cG cyI an (S_green o67.2.2)), (cV cyI an (S_score o67.2.2))] : List va_W).flatten) H → va_D A (([(cXo x an tr o67.2.1), (cH cyO (x 1) (x 2) 2 fl), (cXk cyI x o67.2.1), (cH cyO (x 4) (x 5) 6 fs), (cT cyI x (X_text o67.2.1)), (cSo an o67.2.2), (cG cyI an (S_green o67.2.2)), (cV cyI an (S_score o67.2.2))] : List va_W).flatten) → va_S A s.heap H locs → lv_has ls 11 [(0, .ref (x 0)), (1, .int o1), (2, .int (s153.1 + s202)), (3, .int o3.1), (4, .int (-1 : Int32)), (5, .int o5), (7, .int s153.2.2.1), (8, .int o65.1), (9, .int o67.1), (10, .int ro69)] → j245 s245 = some out → W p l e (headSpec (Cond.code yL_areBowlsSo cL_areBowlsSo 11 (some .boolean) :: wT) ({ frames := 9, cells := 445, slots := 2670, locals := 147 } : Room)).room s m ([.ref (x 0)] : List Value).toArray below meth c H locs (33 + 35 * (10 - (n153 + 1))) (198 + 210 * (10 - (n153 + 1))) (MQ below (va_Qi (fun (r : Int32) (u : XV × SV) => (r, u) = out ∧ b01 r) (fun u t => va_P (dC, dI) vwCl (([(cXo x an tr u.1), (cH cyO (x 1) (x 2) 2 fl), (cXk cyI x u.1), (cH cyO (x 4) (x 5) 6 fs), (cT cyI x (X_text u.1)), (cSo an u.2), (cG cyI an (S_green u.2)), (cV cyI an (S_score u.2))] : List va_W).flatten) t.heap ∧ va_D A (([(cXo x an tr u.1), (cH cyO (x 1) (x 2) 2 fl), (cXk cyI x u.1), (cH cyO (x 4) (x 5) 6 fs), (cT cyI x (X_text u.1)), (cSo an u.2), (cG cyI an (S_green u.2)), (cV cyI an (S_score u.2))] : List va_W).flatten)) A) ([.ref (x 0)] : List Value).toArray s 445 2670 A) (F0 m 245 ls [.int s245, .int s233]) := by
                        intro s245 H locs ls hz_245_s1 hP hD hS hl hF
                        have hF := (congrFun hj245 s245).symm.trans hF
                        refine lv_icmp_ne (tgt := 438) hx hb dL_areBowlsSo_245 (by decide) (fun c76 => ?_) (fun c76 => ?_)
                        · have hF := itn c76 hF
                          refine W.widen (k := (48 + 35 * (10 - (n153 + 1)))) (n := (288 + 210 * (10 - (n153 + 1)))) (by omega) (by omega) ?_
                          exact hJ438 () _ _ _ hP hD hS (lv_sub hl [0, 1, 2, 3, 4, 5, 6] rfl) hF
                        · have hF := itp c76 hF
                          refine lv_iload hx hb dL_areBowlsSo_248 (lv_at hl 9 rfl) ?_
                          refine lv_iconst (v := 1) hx hb dL_areBowlsSo_250 (by decide) ?_
                          obtain ⟨j259, hj259, hF⟩ := jn_use hF
                          have hJ259 : ∀ (s259 : Int32) (H : Heap) (locs : List Loc) (ls : Array Slot) (hz_259_s0 : b01 s259), va_P (dC, dI) vwCl (([(cXo x an tr o67.2.1), (cH cyO (x 1) (x 2) 2 fl), (cXk cyI x o67.2.1), (cH cyO (x 4) (x 5) 6 fs), (cT cyI x (X_text o67.2.1)), (cSo an o67.2.2), (cG cyI an (S_green o67.2.2)), (cV cyI an (S_score o67.2.2))] : List va_W).flatten) H → va_D A (([(cXo x an tr o67.2.1), (cH cyO (x 1) (x 2) 2 fl), (cXk cyI x o67.2.1), (cH cyO (x 4) (x 5) 6 fs), (cT cyI x (X_text o67.2.1)), (cSo an o67.2.2), (cG cyI an (S_green o67.2.2)), (cV cyI an (S_score o67.2.2))] : List va_W).flatten) → va_S A s.heap H locs → lv_has ls 11 [(0, .ref (x 0)), (1, .int o1), (2, .int (s153.1 + s202)), (3, .int o3.1), (4, .int (-1 : Int32)), (5, .int o5), (7, .int s153.2.2.1), (8, .int o65.1), (9, .int o67.1), (10, .int ro69)] → j259 s259 = some out → W p l e (headSpec (Cond.code yL_areBowlsSo cL_areBowlsSo 11 (some .boolean) :: wT) ({ frames := 9, cells := 445, slots := 2670, locals := 147 } : Room)).room s m ([.ref (x 0)] : List Value).toArray below meth c H locs (33 + 35 * (10 - (n153 + 1))) (198 + 210 * (10 - (n153 + 1))) (MQ below (va_Qi (fun (r : Int32) (u : XV × SV) => (r, u) = out ∧ b01 r) (fun u t => va_P (dC, dI) vwCl (([(cXo x an tr u.1), (cH cyO (x 1) (x 2) 2 fl), (cXk cyI x u.1), (cH cyO (x 4) (x 5) 6 fs), (cT cyI x (X_text u.1)), (cSo an u.2), (cG cyI an (S_green u.2)), (cV cyI an (S_score u.2))] : List va_W).flatten) t.heap ∧ va_D A (([(cXo x an tr u.1), (cH cyO (x 1) (x 2) 2 fl), (cXk cyI x u.1), (cH cyO (x 4) (x 5) 6 fs), (cT cyI x (X_text u.1)), (cSo an u.2), (cG cyI an (S_green u.2)), (cV cyI an (S_score u.2))] : List va_W).flatten)) A) ([.ref (x 0)] : List Value).toArray s 445 2670 A) (F0 m 259 ls [.int s259]) := by
                            intro s259 H locs ls hz_259_s0 hP hD hS hl hF
                            have hF := (congrFun hj259 s259).symm.trans hF
                            refine lv_iload hx hb dL_areBowlsSo_259 (lv_at hl 7 rfl) ?_
                            refine lv_bipush (v := 60) hx hb dL_areBowlsSo_261 (by decide) ?_
                            obtain ⟨j271, hj271, hF⟩ := jn_use hF
                            have hJ271 : ∀ (s271 : Int32) (H : Heap) (locs : List Loc) (ls : Array Slot) (hz_271_s1 : b01 s271), va_P (dC, dI) vwCl (([(cXo x an tr o67.2.1), (cH cyO (x 1) (x 2) 2 fl), (cXk cyI x o67.2.1), (cH cyO (x 4) (x 5) 6 fs), (cT cyI x (X_text o67.2.1)), (cSo an o67.2.2), (cG cyI an (S_green o67.2.2)), (cV cyI an (S_score o67.2.2))] : List va_W).flatten) H → va_D A (([(cXo x an tr o67.2.1), (cH cyO (x 1) (x 2) 2 fl), (cXk cyI x o67.2.1), (cH cyO (x 4) (x 5) 6 fs), (cT cyI x (X_text o67.2.1)), (cSo an o67.2.2), (cG cyI an (S_green o67.2.2)), (cV cyI an (S_score o67.2.2))] : List va_W).flatten) → va_S A s.heap H locs → lv_has ls 11 [(0, .ref (x 0)), (1, .int o1), (2, .int (s153.1 + s202)), (3, .int o3.1), (4, .int (-1 : Int32)), (5, .int o5), (7, .int s153.2.2.1), (8, .int o65.1), (9, .int o67.1), (10, .int ro69)] → j271 s271 = some out → W p l e (headSpec (Cond.code yL_areBowlsSo cL_areBowlsSo 11 (some .boolean) :: wT) ({ frames := 9, cells := 445, slots := 2670, locals := 147 } : Room)).room s m ([.ref (x 0)] : List Value).toArray below meth c H locs (33 + 35 * (10 - (n153 + 1))) (198 + 210 * (10 - (n153 + 1))) (MQ below (va_Qi (fun (r : Int32) (u : XV × SV) => (r, u) = out ∧ b01 r) (fun u t => va_P (dC, dI) vwCl (([(cXo x an tr u.1), (cH cyO (x 1) (x 2) 2 fl), (cXk cyI x u.1), (cH cyO (x 4) (x 5) 6 fs), (cT cyI x (X_text u.1)), (cSo an u.2), (cG cyI an (S_green u.2)), (cV cyI an (S_score u.2))] : List va_W).flatten) t.heap ∧ va_D A (([(cXo x an tr u.1), (cH cyO (x 1) (x 2) 2 fl), (cXk cyI x u.1), (cH cyO (x 4) (x 5) 6 fs), (cT cyI x (X_text u.1)), (cSo an u.2), (cG cyI an (S_green u.2)), (cV cyI an (S_score u.2))] : List va_W).flatten)) A) ([.ref (x 0)] : List Value).toArray s 445 2670 A) (F0 m 271 ls [.int s271, .int s259]) := by
                              intro s271 H locs ls hz_271_s1 hP hD hS hl hF
                              have hF := (congrFun hj271 s271).symm.trans hF
                              refine lv_icmp_ne (tgt := 438) hx hb dL_areBowlsSo_271 (by decide) (fun c77 => ?_) (fun c77 => ?_)
                              · have hF := itn c77 hF
                                refine W.widen (k := (48 + 35 * (10 - (n153 + 1)))) (n := (288 + 210 * (10 - (n153 + 1)))) (by omega) (by omega) ?_
                                exact hJ438 () _ _ _ hP hD hS (lv_sub hl [0, 1, 2, 3, 4, 5, 6] rfl) hF
                              · have hF := itp c77 hF
                                refine lv_iload hx hb dL_areBowlsSo_274 (lv_at hl 9 rfl) ?_
                                refine lv_iconst (v := 2) hx hb dL_areBowlsSo_276 (by decide) ?_
                                obtain ⟨j296, hj296, hF⟩ := jn_use hF
                                have hJ296 : ∀ (s296 : Unit) (H : Heap) (locs : List Loc) (ls : Array Slot), va_P (dC, dI) vwCl (([(cXo x an tr o67.2.1), (cH cyO (x 1) (x 2) 2 fl), (cXk cyI x o67.2.1), (cH cyO (x 4) (x 5) 6 fs), (cT cyI x (X_text o67.2.1)), (cSo an o67.2.2), (cG cyI an (S_green o67.2.2)), (cV cyI an (S_score o67.2.2))] : List va_W).flatten) H → va_D A (([(cXo x an tr o67.2.1), (cH cyO (x 1) (x 2) 2 fl), (cXk cyI x o67.2.1), (cH cyO (x 4) (x 5) 6 fs), (cT cyI x (X_text o67.2.1)), (cSo an o67.2.2), (cG cyI an (S_green o67.2.2)), (cV cyI an (S_score o67.2.2))] : List va_W).flatten) → va_S A s.heap H locs → lv_has ls 11 [(0, .ref (x 0)), (1, .int o1), (2, .int (s153.1 + s202)), (3, .int o3.1), (4, .int (-1 : Int32)), (5, .int o5), (7, .int s153.2.2.1), (8, .int o65.1), (9, .int o67.1), (10, .int ro69)] → j296 s296 = some out → W p l e (headSpec (Cond.code yL_areBowlsSo cL_areBowlsSo 11 (some .boolean) :: wT) ({ frames := 9, cells := 445, slots := 2670, locals := 147 } : Room)).room s m ([.ref (x 0)] : List Value).toArray below meth c H locs (34 + 35 * (10 - (n153 + 1))) (204 + 210 * (10 - (n153 + 1))) (MQ below (va_Qi (fun (r : Int32) (u : XV × SV) => (r, u) = out ∧ b01 r) (fun u t => va_P (dC, dI) vwCl (([(cXo x an tr u.1), (cH cyO (x 1) (x 2) 2 fl), (cXk cyI x u.1), (cH cyO (x 4) (x 5) 6 fs), (cT cyI x (X_text u.1)), (cSo an u.2), (cG cyI an (S_green u.2)), (cV cyI an (S_score u.2))] : List va_W).flatten) t.heap ∧ va_D A (([(cXo x an tr u.1), (cH cyO (x 1) (x 2) 2 fl), (cXk cyI x u.1), (cH cyO (x 4) (x 5) 6 fs), (cT cyI x (X_text u.1)), (cSo an u.2), (cG cyI an (S_green u.2)), (cV cyI an (S_score u.2))] : List va_W).flatten)) A) ([.ref (x 0)] : List Value).toArray s 445 2670 A) (F0 m 296 ls []) := by
                                  intro s296 H locs ls hP hD hS hl hF
                                  have hF := (congrFun hj296 s296).symm.trans hF
                                  refine lv_iload hx hb dL_areBowlsSo_296 (lv_at hl 9 rfl) ?_
                                  refine lv_iconst (v := 1) hx hb dL_areBowlsSo_298 (by decide) ?_
                                  obtain ⟨j311, hj311, hF⟩ := jn_use hF
                                  have hJ311 : ∀ (s311 : Unit) (H : Heap) (locs : List Loc) (ls : Array Slot), va_P (dC, dI) vwCl (([(cXo x an tr o67.2.1), (cH cyO (x 1) (x 2) 2 fl), (cXk cyI x o67.2.1), (cH cyO (x 4) (x 5) 6 fs), (cT cyI x (X_text o67.2.1)), (cSo an o67.2.2), (cG cyI an (S_green o67.2.2)), (cV cyI an (S_score o67.2.2))] : List va_W).flatten) H → va_D A (([(cXo x an tr o67.2.1), (cH cyO (x 1) (x 2) 2 fl), (cXk cyI x o67.2.1), (cH cyO (x 4) (x 5) 6 fs), (cT cyI x (X_text o67.2.1)), (cSo an o67.2.2), (cG cyI an (S_green o67.2.2)), (cV cyI an (S_score o67.2.2))] : List va_W).flatten) → va_S A s.heap H locs → lv_has ls 11 [(0, .ref (x 0)), (1, .int o1), (2, .int (s153.1 + s202)), (3, .int o3.1), (4, .int (-1 : Int32)), (5, .int o5), (7, .int s153.2.2.1), (8, .int o65.1), (9, .int o67.1), (10, .int ro69)] → j311 s311 = some out → W p l e (headSpec (Cond.code yL_areBowlsSo cL_areBowlsSo 11 (some .boolean) :: wT) ({ frames := 9, cells := 445, slots := 2670, locals := 147 } : Room)).room s m ([.ref (x 0)] : List Value).toArray below meth c H locs (35 + 35 * (10 - (n153 + 1))) (210 + 210 * (10 - (n153 + 1))) (MQ below (va_Qi (fun (r : Int32) (u : XV × SV) => (r, u) = out ∧ b01 r) (fun u t => va_P (dC, dI) vwCl (([(cXo x an tr u.1), (cH cyO (x 1) (x 2) 2 fl), (cXk cyI x u.1), (cH cyO (x 4) (x 5) 6 fs), (cT cyI x (X_text u.1)), (cSo an u.2), (cG cyI an (S_green u.2)), (cV cyI an (S_score u.2))] : List va_W).flatten) t.heap ∧ va_D A (([(cXo x an tr u.1), (cH cyO (x 1) (x 2) 2 fl), (cXk cyI x u.1), (cH cyO (x 4) (x 5) 6 fs), (cT cyI x (X_text u.1)), (cSo an u.2), (cG cyI an (S_green u.2)), (cV cyI an (S_score u.2))] : List va_W).flatten)) A) ([.ref (x 0)] : List Value).toArray s 445 2670 A) (F0 m 311 ls []) := by
                                    intro s311 H locs ls hP hD hS hl hF
                                    have hF := (congrFun hj311 s311).symm.trans hF
                                    refine lv_iload hx hb dL_areBowlsSo_311 (lv_at hl 9 rfl) ?_
                                    refine lv_iconst (v := 2) hx hb dL_areBowlsSo_313 (by decide) ?_
                                    obtain ⟨j342, hj342, hF⟩ := jn_use hF
                                    have hJ342 : ∀ (s342 : Unit) (H : Heap) (locs : List Loc) (ls : Array Slot), va_P (dC, dI) vwCl (([(cXo x an tr o67.2.1), (cH cyO (x 1) (x 2) 2 fl), (cXk cyI x o67.2.1), (cH cyO (x 4) (x 5) 6 fs), (cT cyI x (X_text o67.2.1)), (cSo an o67.2.2), (cG cyI an (S_green o67.2.2)), (cV cyI an (S_score o67.2.2))] : List va_W).flatten) H → va_D A (([(cXo x an tr o67.2.1), (cH cyO (x 1) (x 2) 2 fl), (cXk cyI x o67.2.1), (cH cyO (x 4) (x 5) 6 fs), (cT cyI x (X_text o67.2.1)), (cSo an o67.2.2), (cG cyI an (S_green o67.2.2)), (cV cyI an (S_score o67.2.2))] : List va_W).flatten) → va_S A s.heap H locs → lv_has ls 11 [(0, .ref (x 0)), (1, .int o1), (2, .int (s153.1 + s202)), (3, .int o3.1), (4, .int (-1 : Int32)), (5, .int o5), (7, .int s153.2.2.1), (8, .int o65.1), (9, .int o67.1), (10, .int ro69)] → j342 s342 = some out → W p l e (headSpec (Cond.code yL_areBowlsSo cL_areBowlsSo 11 (some .boolean) :: wT) ({ frames := 9, cells := 445, slots := 2670, locals := 147 } : Room)).room s m ([.ref (x 0)] : List Value).toArray below meth c H locs (39 + 35 * (10 - (n153 + 1))) (234 + 210 * (10 - (n153 + 1))) (MQ below (va_Qi (fun (r : Int32) (u : XV × SV) => (r, u) = out ∧ b01 r) (fun u t => va_P (dC, dI) vwCl (([(cXo x an tr u.1), (cH cyO (x 1) (x 2) 2 fl), (cXk cyI x u.1), (cH cyO (x 4) (x 5) 6 fs), (cT cyI x (X_text u.1)), (cSo an u.2), (cG cyI an (S_green u.2)), (cV cyI an (S_score u.2))] : List va_W).flatten) t.heap ∧ va_D A (([(cXo x an tr u.1), (cH cyO (x 1) (x 2) 2 fl), (cXk cyI x u.1), (cH cyO (x 4) (x 5) 6 fs), (cT cyI x (X_text u.1)), (cSo an u.2), (cG cyI an (S_green u.2)), (cV cyI an (S_score u.2))] : List va_W).flatten)) A) ([.ref (x 0)] : List Value).toArray s 445 2670 A) (F0 m 342 ls []) := by
                                      intro s342 H locs ls hP hD hS hl hF
                                      have hF := (congrFun hj342 s342).symm.trans hF
                                      refine lv_iload hx hb dL_areBowlsSo_342 (lv_at hl 9 rfl) ?_
                                      obtain ⟨j369, hj369, hF⟩ := jn_use hF
                                      have hJ369 : ∀ (s369 : Unit) (H : Heap) (locs : List Loc) (ls : Array Slot), va_P (dC, dI) vwCl (([(cXo x an tr o67.2.1), (cH cyO (x 1) (x 2) 2 fl), (cXk cyI x o67.2.1), (cH cyO (x 4) (x 5) 6 fs), (cT cyI x (X_text o67.2.1)), (cSo an o67.2.2), (cG cyI an (S_green o67.2.2)), (cV cyI an (S_score o67.2.2))] : List va_W).flatten) H → va_D A (([(cXo x an tr o67.2.1), (cH cyO (x 1) (x 2) 2 fl), (cXk cyI x o67.2.1), (cH cyO (x 4) (x 5) 6 fs), (cT cyI x (X_text o67.2.1)), (cSo an o67.2.2), (cG cyI an (S_green o67.2.2)), (cV cyI an (S_score o67.2.2))] : List va_W).flatten) → va_S A s.heap H locs → lv_has ls 11 [(0, .ref (x 0)), (1, .int o1), (2, .int (s153.1 + s202)), (3, .int o3.1), (4, .int (-1 : Int32)), (5, .int o5), (7, .int s153.2.2.1)] → j369 s369 = some out → W p l e (headSpec (Cond.code yL_areBowlsSo cL_areBowlsSo 11 (some .boolean) :: wT) ({ frames := 9, cells := 445, slots := 2670, locals := 147 } : Room)).room s m ([.ref (x 0)] : List Value).toArray below meth c H locs (42 + 35 * (10 - (n153 + 1))) (252 + 210 * (10 - (n153 + 1))) (MQ below (va_Qi (fun (r : Int32) (u : XV × SV) => (r, u) = out ∧ b01 r) (fun u t => va_P (dC, dI) vwCl (([(cXo x an tr u.1), (cH cyO (x 1) (x 2) 2 fl), (cXk cyI x u.1), (cH cyO (x 4) (x 5) 6 fs), (cT cyI x (X_text u.1)), (cSo an u.2), (cG cyI an (S_green u.2)), (cV cyI an (S_score u.2))] : List va_W).flatten) t.heap ∧ va_D A (([(cXo x an tr u.1), (cH cyO (x 1) (x 2) 2 fl), (cXk cyI x u.1), (cH cyO (x 4) (x 5) 6 fs), (cT cyI x (X_text u.1)), (cSo an u.2), (cG cyI an (S_green u.2)), (cV cyI an (S_score u.2))] : List va_W).flatten)) A) ([.ref (x 0)] : List Value).toArray s 445 2670 A) (F0 m 369 ls []) := by
                                        intro s369 H locs ls hP hD hS hl hF
                                        have hF := (congrFun hj369 s369).symm.trans hF
                                        refine lv_aload_n hx hb dL_areBowlsSo_369 rfl (lv_at hl 0 rfl) ?_
                                        refine lv_iload hx hb dL_areBowlsSo_370 (lv_at hl 6 rfl) ?_
                                        obtain ⟨o78, h79, hF⟩ := obd hF
                                        refine wxRVi (As := [.int s153.2.2.1]) (rest := []) (b := (x 0)) ⟨hx, hb, hml, hown, hts⟩ (met_X5_weightOf l z0 hst dC dI cyI cyO x tr an fl fs N o67.2.1 o67.2.2 s153.2.2.1 o78 h79) (cwV 1 hts (gV w_methodLink_L_149 w_instanceMethod_X5_weightOf w_selects_X5_weightOf w_initialized_X5 w_code_X5_weightOf) rfl rfl rfl (by decide +kernel) ⟨Nat.le_of_ble_eq_true rfl, Nat.le_of_ble_eq_true rfl⟩) (va_recv hK.1 hP (ci := 5) (q0 := 0) rfl rfl) hP hK hZ hAz [0, 1, 2, 3, 4, 5, 6, 7, 8, 9, 10, 11, 12, 13, 14, 15, 16, 17, 18, 19, 20] rfl rfl hl.1 (Nat.le_of_ble_eq_true rfl) dL_areBowlsSo_372 ⟨(show _ ≤ 445 from by omega), (show _ ≤ 2670 from by omega)⟩ hS (fun k ce q9 H locs hw hP hS h9 hv9 hc9 => ?_) (fun ro78 H locs hw hP hS => ?_)
                                        · have hw := hw.symm
                                          subst hw
                                          have hF := exc_l hF
                                          cases hF
                                        · skip
                                          have hw := hw.symm
                                          subst hw
                                          have hF := exc_r hF
                                          refine lv_bipush (v := 15) hx hb dL_areBowlsSo_375 (by decide) ?_
                                          refine lv_icmp_lt (tgt := 438) hx hb dL_areBowlsSo_377 (by decide) (fun c80 => ?_) (fun c80 => ?_)
                                          · have hF := itp c80 hF
                                            refine W.widen (k := (48 + 35 * (10 - (n153 + 1)))) (n := (288 + 210 * (10 - (n153 + 1)))) (by omega) (by omega) ?_
                                            exact hJ438 () _ _ _ hP hD hS (lv_sub hl [0, 1, 2, 3, 4, 5, 6] rfl) hF
                                          · have hF := itn c80 hF
                                            refine lv_aload_n hx hb dL_areBowlsSo_380 rfl (lv_at hl 0 rfl) ?_
                                            refine lv_iload hx hb dL_areBowlsSo_381 (lv_at hl 6 rfl) ?_
                                            obtain ⟨o81, h82, hF⟩ := obd hF
                                            refine wxRVi (As := [.int s153.2.2.1]) (rest := []) (b := (x 0)) ⟨hx, hb, hml, hown, hts⟩ (met_X5_weightOf l z0 hst dC dI cyI cyO x tr an fl fs N o67.2.1 o67.2.2 s153.2.2.1 o81 h82) (cwV 1 hts (gV w_methodLink_L_149 w_instanceMethod_X5_weightOf w_selects_X5_weightOf w_initialized_X5 w_code_X5_weightOf) rfl rfl rfl (by decide +kernel) ⟨Nat.le_of_ble_eq_true rfl, Nat.le_of_ble_eq_true rfl⟩) (va_recv hK.1 hP (ci := 5) (q0 := 0) rfl rfl) hP hK hZ hAz [0, 1, 2, 3, 4, 5, 6, 7, 8, 9, 10, 11, 12, 13, 14, 15, 16, 17, 18, 19, 20] rfl rfl hl.1 (Nat.le_of_ble_eq_true rfl) dL_areBowlsSo_383 ⟨(show _ ≤ 445 from by omega), (show _ ≤ 2670 from by omega)⟩ hS (fun k ce q9 H locs hw hP hS h9 hv9 hc9 => ?_) (fun ro81 H locs hw hP hS => ?_)
                                            · have hw := hw.symm
                                              subst hw
                                              have hF := exc_l hF
                                              cases hF
                                            · skip
                                              have hw := hw.symm
                                              subst hw
                                              have hF := exc_r hF
                                              refine lv_bipush (v := 70) hx hb dL_areBowlsSo_386 (by decide) ?_
                                              refine lv_icmp_gt (tgt := 438) hx hb dL_areBowlsSo_388 (by decide) (fun c83 => ?_) (fun c83 => ?_)
                                              · have hF := itp c83 hF
                                                refine W.widen (k := (48 + 35 * (10 - (n153 + 1)))) (n := (288 + 210 * (10 - (n153 + 1)))) (by omega) (by omega) ?_
                                                exact hJ438 () _ _ _ hP hD hS (lv_sub hl [0, 1, 2, 3, 4, 5, 6] rfl) hF
                                              · have hF := itn c83 hF
                                                refine lv_aload_n hx hb dL_areBowlsSo_391 rfl (lv_at hl 0 rfl) ?_
                                                refine lv_iload hx hb dL_areBowlsSo_392 (lv_at hl 6 rfl) ?_
                                                obtain ⟨o84, h85, hF⟩ := obd hF
                                                refine wxRVi (As := [.int s153.2.2.1]) (rest := []) (b := (x 0)) ⟨hx, hb, hml, hown, hts⟩ (met_X5_aimOf l z0 hst dC dI cyI cyO x tr an fl fs N o67.2.1 o67.2.2 s153.2.2.1 o84 h85) (cwV 1 hts (gV w_methodLink_L_152 w_instanceMethod_X5_aimOf w_selects_X5_aimOf w_initialized_X5 w_code_X5_aimOf) rfl rfl rfl (by decide +kernel) ⟨Nat.le_of_ble_eq_true rfl, Nat.le_of_ble_eq_true rfl⟩) (va_recv hK.1 hP (ci := 5) (q0 := 0) rfl rfl) hP hK hZ hAz [0, 1, 2, 3, 4, 5, 6, 7, 8, 9, 10, 11, 12, 13, 14, 15, 16, 17, 18, 19, 20] rfl rfl hl.1 (Nat.le_of_ble_eq_true rfl) dL_areBowlsSo_394 ⟨(show _ ≤ 445 from by omega), (show _ ≤ 2670 from by omega)⟩ hS (fun k ce q9 H locs hw hP hS h9 hv9 hc9 => ?_) (fun ro84 H locs hw hP hS => ?_)
                                                · have hw := hw.symm
                                                  subst hw
                                                  have hF := exc_l hF
                                                  cases hF
                                                · skip
                                                  have hw := hw.symm
                                                  subst hw
                                                  have hF := exc_r hF
                                                  refine lv_bipush (v := -9) hx hb dL_areBowlsSo_397 (by decide) ?_
                                                  refine lv_icmp_lt (tgt := 438) hx hb dL_areBowlsSo_399 (by decide) (fun c86 => ?_) (fun c86 => ?_)
                                                  · have hF := itp c86 hF
                                                    refine W.widen (k := (48 + 35 * (10 - (n153 + 1)))) (n := (288 + 210 * (10 - (n153 + 1)))) (by omega) (by omega) ?_
                                                    exact hJ438 () _ _ _ hP hD hS (lv_sub hl [0, 1, 2, 3, 4, 5, 6] rfl) hF
                                                  · have hF := itn c86 hF
                                                    refine lv_aload_n hx hb dL_areBowlsSo_402 rfl (lv_at hl 0 rfl) ?_
                                                    refine lv_iload hx hb dL_areBowlsSo_403 (lv_at hl 6 rfl) ?_
                                                    obtain ⟨o87, h88, hF⟩ := obd hF
                                                    refine wxRVi (As := [.int s153.2.2.1]) (rest := []) (b := (x 0)) ⟨hx, hb, hml, hown, hts⟩ (met_X5_aimOf l z0 hst dC dI cyI cyO x tr an fl fs N o67.2.1 o67.2.2 s153.2.2.1 o87 h88) (cwV 1 hts (gV w_methodLink_L_152 w_instanceMethod_X5_aimOf w_selects_X5_aimOf w_initialized_X5 w_code_X5_aimOf) rfl rfl rfl (by decide +kernel) ⟨Nat.le_of_ble_eq_true rfl, Nat.le_of_ble_eq_true rfl⟩) (va_recv hK.1 hP (ci := 5) (q0 := 0) rfl rfl) hP hK hZ hAz [0, 1, 2, 3, 4, 5, 6, 7, 8, 9, 10, 11, 12, 13, 14, 15, 16, 17, 18, 19, 20] rfl rfl hl.1 (Nat.le_of_ble_eq_true rfl) dL_areBowlsSo_405 ⟨(show _ ≤ 445 from by omega), (show _ ≤ 2670 from by omega)⟩ hS (fun k ce q9 H locs hw hP hS h9 hv9 hc9 => ?_) (fun ro87 H locs hw hP hS => ?_)
                                                    · have hw := hw.symm
                                                      subst hw
                                                      have hF := exc_l hF
                                                      cases hF
                                                    · skip
                                                      have hw := hw.symm
                                                      subst hw
                                                      have hF := exc_r hF
                                                      refine lv_bipush (v := 9) hx hb dL_areBowlsSo_408 (by decide) ?_
                                                      refine lv_icmp_gt (tgt := 438) hx hb dL_areBowlsSo_410 (by decide) (fun c89 => ?_) (fun c89 => ?_)
                                                      · have hF := itp c89 hF
                                                        refine W.widen (k := (48 + 35 * (10 - (n153 + 1)))) (n := (288 + 210 * (10 - (n153 + 1)))) (by omega) (by omega) ?_
                                                        exact hJ438 () _ _ _ hP hD hS (lv_sub hl [0, 1, 2, 3, 4, 5, 6] rfl) hF
                                                      · have hF := itn c89 hF
                                                        refine lv_aload_n hx hb dL_areBowlsSo_413 rfl (lv_at hl 0 rfl) ?_
                                                        refine lv_iload hx hb dL_areBowlsSo_414 (lv_at hl 6 rfl) ?_
                                                        obtain ⟨o90, h91, hF⟩ := obd hF
                                                        refine wxRVi (As := [.int s153.2.2.1]) (rest := []) (b := (x 0)) ⟨hx, hb, hml, hown, hts⟩ (met_X5_biasOf l z0 hst dC dI cyI cyO x tr an fl fs N o67.2.1 o67.2.2 s153.2.2.1 o90 h91) (cwV 1 hts (gV w_methodLink_L_155 w_instanceMethod_X5_biasOf w_selects_X5_biasOf w_initialized_X5 w_code_X5_biasOf) rfl rfl rfl (by decide +kernel) ⟨Nat.le_of_ble_eq_true rfl, Nat.le_of_ble_eq_true rfl⟩) (va_recv hK.1 hP (ci := 5) (q0 := 0) rfl rfl) hP hK hZ hAz [0, 1, 2, 3, 4, 5, 6, 7, 8, 9, 10, 11, 12, 13, 14, 15, 16, 17, 18, 19, 20] rfl rfl hl.1 (Nat.le_of_ble_eq_true rfl) dL_areBowlsSo_416 ⟨(show _ ≤ 445 from by omega), (show _ ≤ 2670 from by omega)⟩ hS (fun k ce q9 H locs hw hP hS h9 hv9 hc9 => ?_) (fun ro90 H locs hw hP hS => ?_)
                                                        · have hw := hw.symm
                                                          subst hw
                                                          have hF := exc_l hF
                                                          cases hF
                                                        · skip
                                                          have hw := hw.symm
                                                          subst hw
                                                          have hF := exc_r hF
                                                          refine lv_bipush (v := -3) hx hb dL_areBowlsSo_419 (by decide) ?_
                                                          refine lv_icmp_lt (tgt := 438) hx hb dL_areBowlsSo_421 (by decide) (fun c92 => ?_) (fun c92 => ?_)
                                                          · have hF := itp c92 hF
                                                            refine W.widen (k := (48 + 35 * (10 - (n153 + 1)))) (n := (288 + 210 * (10 - (n153 + 1)))) (by omega) (by omega) ?_
                                                            exact hJ438 () _ _ _ hP hD hS (lv_sub hl [0, 1, 2, 3, 4, 5, 6] rfl) hF
                                                          · have hF := itn c92 hF
                                                            refine lv_aload_n hx hb dL_areBowlsSo_424 rfl (lv_at hl 0 rfl) ?_
                                                            refine lv_iload hx hb dL_areBowlsSo_425 (lv_at hl 6 rfl) ?_
                                                            obtain ⟨o93, h94, hF⟩ := obd hF
                                                            refine wxRVi (As := [.int s153.2.2.1]) (rest := []) (b := (x 0)) ⟨hx, hb, hml, hown, hts⟩ (met_X5_biasOf l z0 hst dC dI cyI cyO x tr an fl fs N o67.2.1 o67.2.2 s153.2.2.1 o93 h94) (cwV 1 hts (gV w_methodLink_L_155 w_instanceMethod_X5_biasOf w_selects_X5_biasOf w_initialized_X5 w_code_X5_biasOf) rfl rfl rfl (by decide +kernel) ⟨Nat.le_of_ble_eq_true rfl, Nat.le_of_ble_eq_true rfl⟩) (va_recv hK.1 hP (ci := 5) (q0 := 0) rfl rfl) hP hK hZ hAz [0, 1, 2, 3, 4, 5, 6, 7, 8, 9, 10, 11, 12, 13, 14, 15, 16, 17, 18, 19, 20] rfl rfl hl.1 (Nat.le_of_ble_eq_true rfl) dL_areBowlsSo_427 ⟨(show _ ≤ 445 from by omega), (show _ ≤ 2670 from by omega)⟩ hS (fun k ce q9 H locs hw hP hS h9 hv9 hc9 => ?_) (fun ro93 H locs hw hP hS => ?_)
                                                            · have hw := hw.symm
                                                              subst hw
                                                              have hF := exc_l hF
                                                              cases hF
                                                            · skip
                                                              have hw := hw.symm
                                                              subst hw
                                                              have hF := exc_r hF
                                                              refine lv_iconst (v := 3) hx hb dL_areBowlsSo_430 (by decide) ?_
                                                              refine lv_icmp_gt (tgt := 438) hx hb dL_areBowlsSo_431 (by decide) (fun c95 => ?_) (fun c95 => ?_)
                                                              · have hF := itp c95 hF
                                                                refine W.widen (k := (48 + 35 * (10 - (n153 + 1)))) (n := (288 + 210 * (10 - (n153 + 1)))) (by omega) (by omega) ?_
                                                                exact hJ438 () _ _ _ hP hD hS (lv_sub hl [0, 1, 2, 3, 4, 5, 6] rfl) hF
                                                              · have hF := itn c95 hF
                                                                refine lv_iconst (v := 1) hx hb dL_areBowlsSo_434 (by decide) ?_
                                                                refine lv_goto (tgt := 439) hx hb dL_areBowlsSo_435 (by decide) ?_
                                                                refine W.widen (k := (48 + 35 * (10 - (n153 + 1)))) (n := (288 + 210 * (10 - (n153 + 1)))) (by omega) (by omega) ?_
                                                                exact hJ439 (1 : Int32) _ _ _ b01_1 hP hD hS (lv_sub hl [0, 1, 2, 3, 4, 5, 6] rfl) hF
                                      refine lv_if_ne (tgt := 369) hx hb dL_areBowlsSo_344 (by decide) (fun c96 => ?_) (fun c96 => ?_)
                                      · have hF := itn c96 hF
                                        refine W.widen (k := (42 + 35 * (10 - (n153 + 1)))) (n := (252 + 210 * (10 - (n153 + 1)))) (by omega) (by omega) ?_
                                        exact hJ369 () _ _ _ hP hD hS (lv_sub hl [0, 1, 2, 3, 4, 5, 6] rfl) hF
                                      · have hF := itp c96 hF
                                        refine lv_aload_n hx hb dL_areBowlsSo_347 rfl (lv_at hl 0 rfl) ?_
                                        refine lv_iload hx hb dL_areBowlsSo_348 (lv_at hl 7 rfl) ?_
                                        refine lv_aload_n hx hb dL_areBowlsSo_350 rfl (lv_at hl 0 rfl) ?_
                                        refine lv_iload hx hb dL_areBowlsSo_351 (lv_at hl 6 rfl) ?_
                                        obtain ⟨o97, h98, hF⟩ := obd hF
                                        refine wxRVi (As := [.int s153.2.2.1]) (rest := [.int o65.1, .ref (x 0)]) (b := (x 0)) ⟨hx, hb, hml, hown, hts⟩ (met_X5_columnOf l z0 hst dC dI cyI cyO x tr an fl fs N o67.2.1 o67.2.2 s153.2.2.1 o97 h98) (cwV 1 hts (gV w_methodLink_L_134 w_instanceMethod_X5_columnOf w_selects_X5_columnOf w_initialized_X5 w_code_X5_columnOf) rfl rfl rfl (by decide +kernel) ⟨Nat.le_of_ble_eq_true rfl, Nat.le_of_ble_eq_true rfl⟩) (va_recv hK.1 hP (ci := 5) (q0 := 0) rfl rfl) hP hK hZ hAz [0, 1, 2, 3, 4, 5, 6, 7, 8, 9, 10, 11, 12, 13, 14, 15, 16, 17, 18, 19, 20] rfl rfl hl.1 (Nat.le_of_ble_eq_true rfl) dL_areBowlsSo_353 ⟨(show _ ≤ 445 from by omega), (show _ ≤ 2670 from by omega)⟩ hS (fun k ce q9 H locs hw hP hS h9 hv9 hc9 => ?_) (fun ro97 H locs hw hP hS => ?_)
                                        · have hw := hw.symm
                                          subst hw
                                          have hF := exc_l hF
                                          cases hF
                                        · skip
                                          have hw := hw.symm
                                          subst hw
                                          have hF := exc_r hF
                                          obtain ⟨o99, h100, hF⟩ := obd hF
                                          refine wxRVi (As := [.int o65.1, .int ro97]) (rest := []) (b := (x 0)) ⟨hx, hb, hml, hown, hts⟩ (met_X5_bowlAt l z0 hst dC dI cyI cyO x tr an fl fs N o67.2.1 o67.2.2 o65.1 ro97 o99 h100) (cwV 2 hts (gV w_methodLink_L_146 w_instanceMethod_X5_bowlAt w_selects_X5_bowlAt w_initialized_X5 w_code_X5_bowlAt) rfl rfl rfl (by decide +kernel) ⟨Nat.le_of_ble_eq_true rfl, Nat.le_of_ble_eq_true rfl⟩) (va_recv hK.1 hP (ci := 5) (q0 := 0) rfl rfl) hP hK hZ hAz [0, 1, 2, 3, 4, 5, 6, 7, 8, 9, 10, 11, 12, 13, 14, 15, 16, 17, 18, 19, 20] rfl rfl hl.1 (Nat.le_of_ble_eq_true rfl) dL_areBowlsSo_356 ⟨(show _ ≤ 445 from by omega), (show _ ≤ 2670 from by omega)⟩ hS (fun k ce q9 H locs hw hP hS h9 hv9 hc9 => ?_) (fun ro99 H locs hw hP hS => ?_)
                                          · have hw := hw.symm
                                            subst hw
                                            have hF := exc_l hF
                                            cases hF
                                          · skip
                                            have hw := hw.symm
                                            subst hw
                                            have hF := exc_r hF
                                            refine lv_iload hx hb dL_areBowlsSo_359 (lv_at hl 6 rfl) ?_
                                            refine lv_icmp_ne (tgt := 438) hx hb dL_areBowlsSo_361 (by decide) (fun c101 => ?_) (fun c101 => ?_)
                                            · have hF := itn c101 hF
                                              refine W.widen (k := (48 + 35 * (10 - (n153 + 1)))) (n := (288 + 210 * (10 - (n153 + 1)))) (by omega) (by omega) ?_
                                              exact hJ438 () _ _ _ hP hD hS (lv_sub hl [0, 1, 2, 3, 4, 5, 6] rfl) hF
                                            · have hF := itp c101 hF
                                              refine lv_iload hx hb dL_areBowlsSo_364 (lv_at hl 8 rfl) ?_
                                              refine lv_if_le (tgt := 438) hx hb dL_areBowlsSo_366 (by decide) (fun c102 => ?_) (fun c102 => ?_)
                                              · have hF := itp c102 hF
                                                refine W.widen (k := (48 + 35 * (10 - (n153 + 1)))) (n := (288 + 210 * (10 - (n153 + 1)))) (by omega) (by omega) ?_
                                                exact hJ438 () _ _ _ hP hD hS (lv_sub hl [0, 1, 2, 3, 4, 5, 6] rfl) hF
                                              · have hF := itn c102 hF
                                                refine W.widen (k := (42 + 35 * (10 - (n153 + 1)))) (n := (252 + 210 * (10 - (n153 + 1)))) (by omega) (by omega) ?_
                                                exact hJ369 () _ _ _ hP hD hS (lv_sub hl [0, 1, 2, 3, 4, 5, 6] rfl) hF
                                    refine lv_icmp_eq (tgt := 342) hx hb dL_areBowlsSo_314 (by decide) (fun c103 => ?_) (fun c103 => ?_)
                                    · have hF := itp c103 hF
                                      refine W.widen (k := (39 + 35 * (10 - (n153 + 1)))) (n := (234 + 210 * (10 - (n153 + 1)))) (by omega) (by omega) ?_
                                      exact hJ342 () _ _ _ hP hD hS (lv_sub hl [0, 1, 2, 3, 4, 5, 6, 7, 8, 9] rfl) hF
                                    · have hF := itn c103 hF
                                      refine lv_iload hx hb dL_areBowlsSo_317 (lv_at hl 8 rfl) ?_
                                      refine lv_if_lt (tgt := 438) hx hb dL_areBowlsSo_319 (by decide) (fun c104 => ?_) (fun c104 => ?_)
                                      · have hF := itp c104 hF
                                        refine W.widen (k := (48 + 35 * (10 - (n153 + 1)))) (n := (288 + 210 * (10 - (n153 + 1)))) (by omega) (by omega) ?_
                                        exact hJ438 () _ _ _ hP hD hS (lv_sub hl [0, 1, 2, 3, 4, 5, 6] rfl) hF
                                      · have hF := itn c104 hF
                                        refine lv_aload_n hx hb dL_areBowlsSo_322 rfl (lv_at hl 0 rfl) ?_
                                        refine lv_iload hx hb dL_areBowlsSo_323 (lv_at hl 6 rfl) ?_
                                        obtain ⟨o105, h106, hF⟩ := obd hF
                                        refine wxRVi (As := [.int s153.2.2.1]) (rest := []) (b := (x 0)) ⟨hx, hb, hml, hown, hts⟩ (met_X5_columnOf l z0 hst dC dI cyI cyO x tr an fl fs N o67.2.1 o67.2.2 s153.2.2.1 o105 h106) (cwV 1 hts (gV w_methodLink_L_134 w_instanceMethod_X5_columnOf w_selects_X5_columnOf w_initialized_X5 w_code_X5_columnOf) rfl rfl rfl (by decide +kernel) ⟨Nat.le_of_ble_eq_true rfl, Nat.le_of_ble_eq_true rfl⟩) (va_recv hK.1 hP (ci := 5) (q0 := 0) rfl rfl) hP hK hZ hAz [0, 1, 2, 3, 4, 5, 6, 7, 8, 9, 10, 11, 12, 13, 14, 15, 16, 17, 18, 19, 20] rfl rfl hl.1 (Nat.le_of_ble_eq_true rfl) dL_areBowlsSo_325 ⟨(show _ ≤ 445 from by omega), (show _ ≤ 2670 from by omega)⟩ hS (fun k ce q9 H locs hw hP hS h9 hv9 hc9 => ?_) (fun ro105 H locs hw hP hS => ?_)
                                        · have hw := hw.symm
                                          subst hw
                                          have hF := exc_l hF
                                          cases hF
                                        · skip
                                          have hw := hw.symm
                                          subst hw
                                          have hF := exc_r hF
                                          refine lv_if_lt (tgt := 438) hx hb dL_areBowlsSo_328 (by decide) (fun c107 => ?_) (fun c107 => ?_)
                                          · have hF := itp c107 hF
                                            refine W.widen (k := (48 + 35 * (10 - (n153 + 1)))) (n := (288 + 210 * (10 - (n153 + 1)))) (by omega) (by omega) ?_
                                            exact hJ438 () _ _ _ hP hD hS (lv_sub hl [0, 1, 2, 3, 4, 5, 6] rfl) hF
                                          · have hF := itn c107 hF
                                            refine lv_aload_n hx hb dL_areBowlsSo_331 rfl (lv_at hl 0 rfl) ?_
                                            refine lv_iload hx hb dL_areBowlsSo_332 (lv_at hl 6 rfl) ?_
                                            obtain ⟨o108, h109, hF⟩ := obd hF
                                            refine wxRVi (As := [.int s153.2.2.1]) (rest := []) (b := (x 0)) ⟨hx, hb, hml, hown, hts⟩ (met_X5_columnOf l z0 hst dC dI cyI cyO x tr an fl fs N o67.2.1 o67.2.2 s153.2.2.1 o108 h109) (cwV 1 hts (gV w_methodLink_L_134 w_instanceMethod_X5_columnOf w_selects_X5_columnOf w_initialized_X5 w_code_X5_columnOf) rfl rfl rfl (by decide +kernel) ⟨Nat.le_of_ble_eq_true rfl, Nat.le_of_ble_eq_true rfl⟩) (va_recv hK.1 hP (ci := 5) (q0 := 0) rfl rfl) hP hK hZ hAz [0, 1, 2, 3, 4, 5, 6, 7, 8, 9, 10, 11, 12, 13, 14, 15, 16, 17, 18, 19, 20] rfl rfl hl.1 (Nat.le_of_ble_eq_true rfl) dL_areBowlsSo_334 ⟨(show _ ≤ 445 from by omega), (show _ ≤ 2670 from by omega)⟩ hS (fun k ce q9 H locs hw hP hS h9 hv9 hc9 => ?_) (fun ro108 H locs hw hP hS => ?_)
                                            · have hw := hw.symm
                                              subst hw
                                              have hF := exc_l hF
                                              cases hF
                                            · skip
                                              have hw := hw.symm
                                              subst hw
                                              have hF := exc_r hF
                                              refine lv_bipush (v := 21) hx hb dL_areBowlsSo_337 (by decide) ?_
                                              refine lv_icmp_ge (tgt := 438) hx hb dL_areBowlsSo_339 (by decide) (fun c110 => ?_) (fun c110 => ?_)
                                              · have hF := itp c110 hF
                                                refine W.widen (k := (48 + 35 * (10 - (n153 + 1)))) (n := (288 + 210 * (10 - (n153 + 1)))) (by omega) (by omega) ?_
                                                exact hJ438 () _ _ _ hP hD hS (lv_sub hl [0, 1, 2, 3, 4, 5, 6] rfl) hF
                                              · have hF := itn c110 hF
                                                refine W.widen (k := (39 + 35 * (10 - (n153 + 1)))) (n := (234 + 210 * (10 - (n153 + 1)))) (by omega) (by omega) ?_
                                                exact hJ342 () _ _ _ hP hD hS (lv_sub hl [0, 1, 2, 3, 4, 5, 6, 7, 8, 9] rfl) hF
                                  refine lv_icmp_ne (tgt := 311) hx hb dL_areBowlsSo_299 (by decide) (fun c111 => ?_) (fun c111 => ?_)
                                  · have hF := itn c111 hF
                                    refine W.widen (k := (35 + 35 * (10 - (n153 + 1)))) (n := (210 + 210 * (10 - (n153 + 1)))) (by omega) (by omega) ?_
                                    exact hJ311 () _ _ _ hP hD hS (lv_sub hl [0, 1, 2, 3, 4, 5, 6, 7, 8, 9] rfl) hF
                                  · have hF := itp c111 hF
                                    refine lv_aload_n hx hb dL_areBowlsSo_302 rfl (lv_at hl 0 rfl) ?_
                                    refine lv_iload hx hb dL_areBowlsSo_303 (lv_at hl 6 rfl) ?_
                                    obtain ⟨o112, h113, hF⟩ := obd hF
                                    refine wxRVi (As := [.int s153.2.2.1]) (rest := []) (b := (x 0)) ⟨hx, hb, hml, hown, hts⟩ (met_X5_isToucher l z0 hst dC dI cyI cyO x tr an fl fs N o67.2.1 o67.2.2 s153.2.2.1 o112 h113) (cwV 1 hts (gV w_methodLink_L_130 w_instanceMethod_X5_isToucher w_selects_X5_isToucher w_initialized_X5 w_code_X5_isToucher) rfl rfl rfl (by decide +kernel) ⟨Nat.le_of_ble_eq_true rfl, Nat.le_of_ble_eq_true rfl⟩) (va_recv hK.1 hP (ci := 5) (q0 := 0) rfl rfl) hP hK hZ hAz [0, 1, 2, 3, 4, 5, 6, 7, 8, 9, 10, 11, 12, 13, 14, 15, 16, 17, 18, 19, 20] rfl rfl hl.1 (Nat.le_of_ble_eq_true rfl) dL_areBowlsSo_305 ⟨(show _ ≤ 445 from by omega), (show _ ≤ 2670 from by omega)⟩ hS (fun k ce q9 H locs hw hP hS h9 hv9 hc9 => ?_) (fun ro112 H locs hw hP hS => ?_)
                                    · have hw := hw.symm
                                      subst hw
                                      have hF := exc_l hF
                                      cases hF
                                    · skip
                                      obtain ⟨hw, hz114⟩ := hw
                                      have hw := hw.symm
                                      subst hw
                                      have hF := exc_r hF
                                      refine lv_if_eq (tgt := 438) hx hb dL_areBowlsSo_308 (by decide) (fun c115 => ?_) (fun c115 => ?_)
                                      · have hF := itp c115 hF
                                        refine W.widen (k := (48 + 35 * (10 - (n153 + 1)))) (n := (288 + 210 * (10 - (n153 + 1)))) (by omega) (by omega) ?_
                                        exact hJ438 () _ _ _ hP hD hS (lv_sub hl [0, 1, 2, 3, 4, 5, 6] rfl) hF
                                      · have hF := itn c115 hF
                                        refine W.widen (k := (35 + 35 * (10 - (n153 + 1)))) (n := (210 + 210 * (10 - (n153 + 1)))) (by omega) (by omega) ?_
                                        exact hJ311 () _ _ _ hP hD hS (lv_sub hl [0, 1, 2, 3, 4, 5, 6, 7, 8, 9] rfl) hF
                                refine lv_icmp_lt (tgt := 296) hx hb dL_areBowlsSo_277 (by decide) (fun c116 => ?_) (fun c116 => ?_)
                                · have hF := itp c116 hF
                                  refine W.widen (k := (34 + 35 * (10 - (n153 + 1)))) (n := (204 + 210 * (10 - (n153 + 1)))) (by omega) (by omega) ?_
                                  exact hJ296 () _ _ _ hP hD hS (lv_sub hl [0, 1, 2, 3, 4, 5, 6, 7, 8, 9] rfl) hF
                                · have hF := itn c116 hF
                                  refine lv_iload hx hb dL_areBowlsSo_280 (lv_at hl 8 rfl) ?_
                                  refine lv_bipush (v := -9) hx hb dL_areBowlsSo_282 (by decide) ?_
                                  refine lv_icmp_ne (tgt := 438) hx hb dL_areBowlsSo_284 (by decide) (fun c117 => ?_) (fun c117 => ?_)
                                  · have hF := itn c117 hF
                                    refine W.widen (k := (48 + 35 * (10 - (n153 + 1)))) (n := (288 + 210 * (10 - (n153 + 1)))) (by omega) (by omega) ?_
                                    exact hJ438 () _ _ _ hP hD hS (lv_sub hl [0, 1, 2, 3, 4, 5, 6] rfl) hF
                                  · have hF := itp c117 hF
                                    refine lv_aload_n hx hb dL_areBowlsSo_287 rfl (lv_at hl 0 rfl) ?_
                                    refine lv_iload hx hb dL_areBowlsSo_288 (lv_at hl 6 rfl) ?_
                                    obtain ⟨o118, h119, hF⟩ := obd hF
                                    refine wxRVi (As := [.int s153.2.2.1]) (rest := []) (b := (x 0)) ⟨hx, hb, hml, hown, hts⟩ (met_X5_isToucher l z0 hst dC dI cyI cyO x tr an fl fs N o67.2.1 o67.2.2 s153.2.2.1 o118 h119) (cwV 1 hts (gV w_methodLink_L_130 w_instanceMethod_X5_isToucher w_selects_X5_isToucher w_initialized_X5 w_code_X5_isToucher) rfl rfl rfl (by decide +kernel) ⟨Nat.le_of_ble_eq_true rfl, Nat.le_of_ble_eq_true rfl⟩) (va_recv hK.1 hP (ci := 5) (q0 := 0) rfl rfl) hP hK hZ hAz [0, 1, 2, 3, 4, 5, 6, 7, 8, 9, 10, 11, 12, 13, 14, 15, 16, 17, 18, 19, 20] rfl rfl hl.1 (Nat.le_of_ble_eq_true rfl) dL_areBowlsSo_290 ⟨(show _ ≤ 445 from by omega), (show _ ≤ 2670 from by omega)⟩ hS (fun k ce q9 H locs hw hP hS h9 hv9 hc9 => ?_) (fun ro118 H locs hw hP hS => ?_)
                                    · have hw := hw.symm
                                      subst hw
                                      have hF := exc_l hF
                                      cases hF
                                    · skip
                                      obtain ⟨hw, hz120⟩ := hw
                                      have hw := hw.symm
                                      subst hw
                                      have hF := exc_r hF
                                      refine lv_if_ne (tgt := 438) hx hb dL_areBowlsSo_293 (by decide) (fun c121 => ?_) (fun c121 => ?_)
                                      · have hF := itn c121 hF
                                        refine W.widen (k := (48 + 35 * (10 - (n153 + 1)))) (n := (288 + 210 * (10 - (n153 + 1)))) (by omega) (by omega) ?_
                                        exact hJ438 () _ _ _ hP hD hS (lv_sub hl [0, 1, 2, 3, 4, 5, 6] rfl) hF
                                      · have hF := itp c121 hF
                                        refine W.widen (k := (34 + 35 * (10 - (n153 + 1)))) (n := (204 + 210 * (10 - (n153 + 1)))) (by omega) (by omega) ?_
                                        exact hJ296 () _ _ _ hP hD hS (lv_sub hl [0, 1, 2, 3, 4, 5, 6, 7, 8, 9] rfl) hF
                            refine lv_icmp_ne (tgt := 270) hx hb dL_areBowlsSo_263 (by decide) (fun c122 => ?_) (fun c122 => ?_)
                            · have hF := itn c122 hF
                              refine lv_iconst (v := 0) hx hb dL_areBowlsSo_270 (by decide) ?_
                              refine W.widen (k := (33 + 35 * (10 - (n153 + 1)))) (n := (198 + 210 * (10 - (n153 + 1)))) (by omega) (by omega) ?_
                              exact hJ271 (0 : Int32) _ _ _ b01_0 hP hD hS (lv_sub hl [0, 1, 2, 3, 4, 5, 6, 7, 8, 9] rfl) hF
                            · have hF := itp c122 hF
                              refine lv_iconst (v := 1) hx hb dL_areBowlsSo_266 (by decide) ?_
                              refine lv_goto (tgt := 271) hx hb dL_areBowlsSo_267 (by decide) ?_
                              refine W.widen (k := (33 + 35 * (10 - (n153 + 1)))) (n := (198 + 210 * (10 - (n153 + 1)))) (by omega) (by omega) ?_
                              exact hJ271 (1 : Int32) _ _ _ b01_1 hP hD hS (lv_sub hl [0, 1, 2, 3, 4, 5, 6, 7, 8, 9] rfl) hF
                          refine lv_icmp_ne (tgt := 258) hx hb dL_areBowlsSo_251 (by decide) (fun c123 => ?_) (fun c123 => ?_)
                          · have hF := itn c123 hF
                            refine lv_iconst (v := 0) hx hb dL_areBowlsSo_258 (by decide) ?_
                            refine W.widen (k := (33 + 35 * (10 - (n153 + 1)))) (n := (198 + 210 * (10 - (n153 + 1)))) (by omega) (by omega) ?_
                            exact hJ259 (0 : Int32) _ _ _ b01_0 hP hD hS (lv_sub hl [0, 1, 2, 3, 4, 5, 6, 7, 8, 9] rfl) hF
                          · have hF := itp c123 hF
                            refine lv_iconst (v := 1) hx hb dL_areBowlsSo_254 (by decide) ?_
                            refine lv_goto (tgt := 259) hx hb dL_areBowlsSo_255 (by decide) ?_
                            refine W.widen (k := (33 + 35 * (10 - (n153 + 1)))) (n := (198 + 210 * (10 - (n153 + 1)))) (by omega) (by omega) ?_
                            exact hJ259 (1 : Int32) _ _ _ b01_1 hP hD hS (lv_sub hl [0, 1, 2, 3, 4, 5, 6, 7, 8, 9] rfl) hF
                      refine lv_icmp_ne (tgt := 244) hx hb dL_areBowlsSo_237 (by decide) (fun c124 => ?_) (fun c124 => ?_)
                      · have hF := itn c124 hF
                        refine lv_iconst (v := 0) hx hb dL_areBowlsSo_244 (by decide) ?_
                        refine W.widen (k := (33 + 35 * (10 - (n153 + 1)))) (n := (198 + 210 * (10 - (n153 + 1)))) (by omega) (by omega) ?_
                        exact hJ245 (0 : Int32) _ _ _ b01_0 hP hD hS (lv_sub hl [0, 1, 2, 3, 4, 5, 6, 7, 8, 9] rfl) hF
                      · have hF := itp c124 hF
                        refine lv_iconst (v := 1) hx hb dL_areBowlsSo_240 (by decide) ?_
                        refine lv_goto (tgt := 245) hx hb dL_areBowlsSo_241 (by decide) ?_
                        refine W.widen (k := (33 + 35 * (10 - (n153 + 1)))) (n := (198 + 210 * (10 - (n153 + 1)))) (by omega) (by omega) ?_
                        exact hJ245 (1 : Int32) _ _ _ b01_1 hP hD hS (lv_sub hl [0, 1, 2, 3, 4, 5, 6, 7, 8, 9] rfl) hF
                    refine lv_icmp_ne (tgt := 232) hx hb dL_areBowlsSo_225 (by decide) (fun c125 => ?_) (fun c125 => ?_)
                    · have hF := itn c125 hF
                      refine lv_iconst (v := 0) hx hb dL_areBowlsSo_232 (by decide) ?_
                      refine W.widen (k := (33 + 35 * (10 - (n153 + 1)))) (n := (198 + 210 * (10 - (n153 + 1)))) (by omega) (by omega) ?_
                      exact hJ233 (0 : Int32) _ _ _ b01_0 hP hD hS (lv_sub hl [1, 2, 0, 3, 4, 5, 6, 7, 8, 9] rfl) hF
                    · have hF := itp c125 hF
                      refine lv_iconst (v := 1) hx hb dL_areBowlsSo_228 (by decide) ?_
                      refine lv_goto (tgt := 233) hx hb dL_areBowlsSo_229 (by decide) ?_
                      refine W.widen (k := (33 + 35 * (10 - (n153 + 1)))) (n := (198 + 210 * (10 - (n153 + 1)))) (by omega) (by omega) ?_
                      exact hJ233 (1 : Int32) _ _ _ b01_1 hP hD hS (lv_sub hl [1, 2, 0, 3, 4, 5, 6, 7, 8, 9] rfl) hF
              refine lv_icmp_ge (tgt := 201) hx hb dL_areBowlsSo_194 (by decide) (fun c126 => ?_) (fun c126 => ?_)
              · have hF := itp c126 hF
                refine lv_iconst (v := 0) hx hb dL_areBowlsSo_201 (by decide) ?_
                refine W.widen (k := (32 + 35 * (10 - (n153 + 1)))) (n := (192 + 210 * (10 - (n153 + 1)))) (by omega) (by omega) ?_
                exact hJ202 (0 : Int32) _ _ _ b01_0 hP hD hS (lv_sub hl [3, 4, 6, 7, 8, 10, 2, 1, 0] rfl) hF
              · have hF := itn c126 hF
                refine lv_iconst (v := 1) hx hb dL_areBowlsSo_197 (by decide) ?_
                refine lv_goto (tgt := 202) hx hb dL_areBowlsSo_198 (by decide) ?_
                refine W.widen (k := (32 + 35 * (10 - (n153 + 1)))) (n := (192 + 210 * (10 - (n153 + 1)))) (by omega) (by omega) ?_
                exact hJ202 (1 : Int32) _ _ _ b01_1 hP hD hS (lv_sub hl [3, 4, 6, 7, 8, 10, 2, 1, 0] rfl) hF
    refine W.widen (k := (13 + 35 * (10 - (10)))) (n := (78 + 210 * (10 - (10)))) (by omega) (by omega) ?_
    exact hL153 10 (Nat.le_refl _) ((0 : Int32), s148.1, (0 : Int32), s148.2.1, s148.2.2) _ _ _ hz_148_s0 hP hD hS (lv_sub hl [2, 3, 4, 5, 6, 7, 1, 0] rfl) hF
  obtain ⟨j147, hj147, hF⟩ := jn_use hF
  have hJ147 : ∀ (s147 : XV × SV) (H : Heap) (locs : List Loc) (ls : Array Slot), va_P (dC, dI) vwCl (([(cXo x an tr s147.1), (cH cyO (x 1) (x 2) 2 fl), (cXk cyI x s147.1), (cH cyO (x 4) (x 5) 6 fs), (cT cyI x (X_text s147.1)), (cSo an s147.2), (cG cyI an (S_green s147.2)), (cV cyI an (S_score s147.2))] : List va_W).flatten) H → va_D A (([(cXo x an tr s147.1), (cH cyO (x 1) (x 2) 2 fl), (cXk cyI x s147.1), (cH cyO (x 4) (x 5) 6 fs), (cT cyI x (X_text s147.1)), (cSo an s147.2), (cG cyI an (S_green s147.2)), (cV cyI an (S_score s147.2))] : List va_W).flatten) → va_S A s.heap H locs → lv_has ls 11 [(0, .ref (x 0)), (1, .int o1), (2, .int (0 : Int32)), (3, .int o3.1), (4, .int (-1 : Int32)), (5, .int o5)] → j147 s147 = some out → W p l e (headSpec (Cond.code yL_areBowlsSo cL_areBowlsSo 11 (some .boolean) :: wT) ({ frames := 9, cells := 445, slots := 2670, locals := 147 } : Room)).room s m ([.ref (x 0)] : List Value).toArray below meth c H locs 13 78 (MQ below (va_Qi (fun (r : Int32) (u : XV × SV) => (r, u) = out ∧ b01 r) (fun u t => va_P (dC, dI) vwCl (([(cXo x an tr u.1), (cH cyO (x 1) (x 2) 2 fl), (cXk cyI x u.1), (cH cyO (x 4) (x 5) 6 fs), (cT cyI x (X_text u.1)), (cSo an u.2), (cG cyI an (S_green u.2)), (cV cyI an (S_score u.2))] : List va_W).flatten) t.heap ∧ va_D A (([(cXo x an tr u.1), (cH cyO (x 1) (x 2) 2 fl), (cXk cyI x u.1), (cH cyO (x 4) (x 5) 6 fs), (cT cyI x (X_text u.1)), (cSo an u.2), (cG cyI an (S_green u.2)), (cV cyI an (S_score u.2))] : List va_W).flatten)) A) ([.ref (x 0)] : List Value).toArray s 445 2670 A) (F0 m 147 ls []) := by
    intro s147 H locs ls hP hD hS hl hF
    have hF := (congrFun hj147 s147).symm.trans hF
    refine lv_iconst (v := 0) hx hb dL_areBowlsSo_147 (by decide) ?_
    refine W.widen (k := 13) (n := 78) (by omega) (by omega) ?_
    exact hJ148 ((0 : Int32), s147.1, s147.2) _ _ _ b01_0 hP hD hS (lv_sub hl [0, 1, 2, 3, 4, 5] rfl) hF
  refine lv_icmp_gt (tgt := 147) hx hb dL_areBowlsSo_28 (by decide) (fun c127 => ?_) (fun c127 => ?_)
  · have hF := itp c127 hF
    refine W.widen (k := 13) (n := 78) (by omega) (by omega) ?_
    exact hJ147 (o3.2.1, o3.2.2) _ _ _ hP hD hS (lv_sub hl [5, 4, 3, 2, 1, 0] rfl) hF
  · have hF := itn c127 hF
    refine lv_iload hx hb dL_areBowlsSo_31 (lv_at hl 0 rfl) ?_
    obtain ⟨j40, hj40, hF⟩ := jn_use hF
    have hJ40 : ∀ (s40 : Unit) (H : Heap) (locs : List Loc) (ls : Array Slot), va_P (dC, dI) vwCl (([(cXo x an tr o3.2.1), (cH cyO (x 1) (x 2) 2 fl), (cXk cyI x o3.2.1), (cH cyO (x 4) (x 5) 6 fs), (cT cyI x (X_text o3.2.1)), (cSo an o3.2.2), (cG cyI an (S_green o3.2.2)), (cV cyI an (S_score o3.2.2))] : List va_W).flatten) H → va_D A (([(cXo x an tr o3.2.1), (cH cyO (x 1) (x 2) 2 fl), (cXk cyI x o3.2.1), (cH cyO (x 4) (x 5) 6 fs), (cT cyI x (X_text o3.2.1)), (cSo an o3.2.2), (cG cyI an (S_green o3.2.2)), (cV cyI an (S_score o3.2.2))] : List va_W).flatten) → va_S A s.heap H locs → lv_has ls 11 [(0, .ref (x 0)), (1, .int o1), (2, .int (0 : Int32)), (3, .int o3.1), (4, .int (-1 : Int32)), (5, .int o5)] → j40 s40 = some out → W p l e (headSpec (Cond.code yL_areBowlsSo cL_areBowlsSo 11 (some .boolean) :: wT) ({ frames := 9, cells := 445, slots := 2670, locals := 147 } : Room)).room s m ([.ref (x 0)] : List Value).toArray below meth c H locs 0 0 (MQ below (va_Qi (fun (r : Int32) (u : XV × SV) => (r, u) = out ∧ b01 r) (fun u t => va_P (dC, dI) vwCl (([(cXo x an tr u.1), (cH cyO (x 1) (x 2) 2 fl), (cXk cyI x u.1), (cH cyO (x 4) (x 5) 6 fs), (cT cyI x (X_text u.1)), (cSo an u.2), (cG cyI an (S_green u.2)), (cV cyI an (S_score u.2))] : List va_W).flatten) t.heap ∧ va_D A (([(cXo x an tr u.1), (cH cyO (x 1) (x 2) 2 fl), (cXk cyI x u.1), (cH cyO (x 4) (x 5) 6 fs), (cT cyI x (X_text u.1)), (cSo an u.2), (cG cyI an (S_green u.2)), (cV cyI an (S_score u.2))] : List va_W).flatten)) A) ([.ref (x 0)] : List Value).toArray s 445 2670 A) (F0 m 40 ls []) := by
      intro s40 H locs ls hP hD hS hl hF
      have hF := (congrFun hj40 s40).symm.trans hF
      refine lv_iload_n hx hb dL_areBowlsSo_40 rfl (lv_at hl 3 rfl) ?_
      refine lv_aload_n hx hb dL_areBowlsSo_41 rfl (lv_at hl 0 rfl) ?_
      obtain ⟨o128, h129, hF⟩ := obd hF
      refine wcRVi (As := []) (rest := [.int o3.1]) (b := (x 0)) ⟨hx, hb, hml, hown, hts⟩ (met_X5_pointsByPairs l dC dI cyI cyO x tr an fl fs N o3.2.1 o3.2.2  o128 h129) (cwV 0 hts (gV w_methodLink_L_137 w_instanceMethod_X5_pointsByPairs w_selects_X5_pointsByPairs w_initialized_X5 w_code_X5_pointsByPairs) rfl rfl rfl (by decide +kernel) ⟨Nat.le_of_ble_eq_true rfl, Nat.le_of_ble_eq_true rfl⟩) (va_recv hK.1 hP (ci := 5) (q0 := 0) rfl rfl) hP hK [0, 1, 2, 3, 4, 5, 6, 7, 8, 9, 10, 11, 12, 13, 14, 15, 16, 17, 18, 19, 20] rfl rfl hl.1 (Nat.le_of_ble_eq_true rfl) dL_areBowlsSo_42 ⟨(show _ ≤ 445 from by omega), (show _ ≤ 2670 from by omega)⟩ hS (fun r H locs hw hP hS => ?_)
      have hw := hw.symm
      subst hw
      refine lv_icmp_ne (tgt := 147) hx hb dL_areBowlsSo_45 (by decide) (fun c130 => ?_) (fun c130 => ?_)
      · have hF := itn c130 hF
        refine W.widen (k := 13) (n := 78) (by omega) (by omega) ?_
        exact hJ147 (o3.2.1, o3.2.2) _ _ _ hP hD hS (lv_sub hl [0, 1, 2, 3, 4, 5] rfl) hF
      · have hF := itp c130 hF
        refine lv_iload_n hx hb dL_areBowlsSo_48 rfl (lv_at hl 3 rfl) ?_
        refine lv_if_lt (tgt := 147) hx hb dL_areBowlsSo_49 (by decide) (fun c131 => ?_) (fun c131 => ?_)
        · have hF := itp c131 hF
          refine W.widen (k := 13) (n := 78) (by omega) (by omega) ?_
          exact hJ147 (o3.2.1, o3.2.2) _ _ _ hP hD hS (lv_sub hl [0, 1, 2, 3, 4, 5] rfl) hF
        · have hF := itn c131 hF
          refine lv_iload_n hx hb dL_areBowlsSo_52 rfl (lv_at hl 3 rfl) ?_
          refine lv_bipush (v := 8) hx hb dL_areBowlsSo_53 (by decide) ?_
          refine lv_icmp_gt (tgt := 147) hx hb dL_areBowlsSo_55 (by decide) (fun c132 => ?_) (fun c132 => ?_)
          · have hF := itp c132 hF
            refine W.widen (k := 13) (n := 78) (by omega) (by omega) ?_
            exact hJ147 (o3.2.1, o3.2.2) _ _ _ hP hD hS (lv_sub hl [0, 1, 2, 3, 4, 5] rfl) hF
          · have hF := itn c132 hF
            refine lv_iload_n hx hb dL_areBowlsSo_58 rfl (lv_at hl 3 rfl) ?_
            obtain ⟨j67, hj67, hF⟩ := jn_use hF
            have hJ67 : ∀ (s67 : Int32) (H : Heap) (locs : List Loc) (ls : Array Slot) (hz_67_s0 : b01 s67), va_P (dC, dI) vwCl (([(cXo x an tr o3.2.1), (cH cyO (x 1) (x 2) 2 fl), (cXk cyI x o3.2.1), (cH cyO (x 4) (x 5) 6 fs), (cT cyI x (X_text o3.2.1)), (cSo an o3.2.2), (cG cyI an (S_green o3.2.2)), (cV cyI an (S_score o3.2.2))] : List va_W).flatten) H → va_D A (([(cXo x an tr o3.2.1), (cH cyO (x 1) (x 2) 2 fl), (cXk cyI x o3.2.1), (cH cyO (x 4) (x 5) 6 fs), (cT cyI x (X_text o3.2.1)), (cSo an o3.2.2), (cG cyI an (S_green o3.2.2)), (cV cyI an (S_score o3.2.2))] : List va_W).flatten) → va_S A s.heap H locs → lv_has ls 11 [(0, .ref (x 0)), (1, .int o1), (2, .int (0 : Int32)), (3, .int o3.1), (4, .int (-1 : Int32)), (5, .int o5)] → j67 s67 = some out → W p l e (headSpec (Cond.code yL_areBowlsSo cL_areBowlsSo 11 (some .boolean) :: wT) ({ frames := 9, cells := 445, slots := 2670, locals := 147 } : Room)).room s m ([.ref (x 0)] : List Value).toArray below meth c H locs 0 0 (MQ below (va_Qi (fun (r : Int32) (u : XV × SV) => (r, u) = out ∧ b01 r) (fun u t => va_P (dC, dI) vwCl (([(cXo x an tr u.1), (cH cyO (x 1) (x 2) 2 fl), (cXk cyI x u.1), (cH cyO (x 4) (x 5) 6 fs), (cT cyI x (X_text u.1)), (cSo an u.2), (cG cyI an (S_green u.2)), (cV cyI an (S_score u.2))] : List va_W).flatten) t.heap ∧ va_D A (([(cXo x an tr u.1), (cH cyO (x 1) (x 2) 2 fl), (cXk cyI x u.1), (cH cyO (x 4) (x 5) 6 fs), (cT cyI x (X_text u.1)), (cSo an u.2), (cG cyI an (S_green u.2)), (cV cyI an (S_score u.2))] : List va_W).flatten)) A) ([.ref (x 0)] : List Value).toArray s 445 2670 A) (F0 m 67 ls [.int s67]) := by
              intro s67 H locs ls hz_67_s0 hP hD hS hl hF
              have hF := (congrFun hj67 s67).symm.trans hF
              refine lv_aload_n hx hb dL_areBowlsSo_67 rfl (lv_at hl 0 rfl) ?_
              refine lv_iconst (v := 2) hx hb dL_areBowlsSo_68 (by decide) ?_
              refine lv_iconst (v := 0) hx hb dL_areBowlsSo_69 (by decide) ?_
              obtain ⟨o133, h134, hF⟩ := obd hF
              refine wcLi (As := [.ref (x 0), .int (2 : Int32), .int (0 : Int32)]) (rest := [.int s67]) (wr := ([] : List va_W).flatten) ⟨hx, hb, hml, hown, hts⟩ (met_L_looks l z0 hst dC dI cyI cyO x tr an fl fs _ N o3.2.1 o3.2.2 (2 : Int32) (0 : Int32) o133 h134) (vx_cwSW 3 hts (gS w_methodLink_L_93 w_static_L_looks w_initialized_L w_codeW_L_looks) rfl rfl rfl (by decide +kernel) ⟨Nat.le_of_ble_eq_true rfl, Nat.le_of_ble_eq_true rfl⟩) hP hD hK hZ hAz hz0 (seg_perm (n := 8) (R := []) (C := [(cXo x an tr o3.2.1), (cH cyO (x 1) (x 2) 2 fl), (cXk cyI x o3.2.1), (cH cyO (x 4) (x 5) 6 fs), (cT cyI x (X_text o3.2.1)), (cSo an o3.2.2), (cG cyI an (S_green o3.2.2)), (cV cyI an (S_score o3.2.2))]) [] [0, 1, 2, 3, 4, 5, 6, 7] rfl rfl rfl (by decide) rfl) rfl hl.1 (Nat.le_of_ble_eq_true rfl) dL_areBowlsSo_70 ⟨(show _ ≤ 445 from by omega), (show _ ≤ 2670 from by omega)⟩ hS hA (fun r u H locs hw hP hD hS => ?_)
              obtain rfl : r = o133.1 := congrArg Prod.fst hw
              obtain rfl : u = o133.2 := congrArg Prod.snd hw
              clear hw
              have hq := seg_permS (segs := [(cXo x an tr o133.2.1), (cH cyO (x 1) (x 2) 2 fl), (cXk cyI x o133.2.1), (cH cyO (x 4) (x 5) 6 fs), (cT cyI x (X_text o133.2.1)), (cSo an o133.2.2), (cG cyI an (S_green o133.2.2)), (cV cyI an (S_score o133.2.2))]) (R := []) (C := [(cXo x an tr o133.2.1), (cH cyO (x 1) (x 2) 2 fl), (cXk cyI x o133.2.1), (cH cyO (x 4) (x 5) 6 fs), (cT cyI x (X_text o133.2.1)), (cSo an o133.2.2), (cG cyI an (S_green o133.2.2)), (cV cyI an (S_score o133.2.2))]) (n := 8) [] [0, 1, 2, 3, 4, 5, 6, 7] rfl rfl rfl (by decide)
              have hP : va_P (dC, dI) vwCl (([(cXo x an tr o133.2.1), (cH cyO (x 1) (x 2) 2 fl), (cXk cyI x o133.2.1), (cH cyO (x 4) (x 5) 6 fs), (cT cyI x (X_text o133.2.1)), (cSo an o133.2.2), (cG cyI an (S_green o133.2.2)), (cV cyI an (S_score o133.2.2))] : List va_W).flatten) H := hP.perm hq
              have hD : va_D A (([(cXo x an tr o133.2.1), (cH cyO (x 1) (x 2) 2 fl), (cXk cyI x o133.2.1), (cH cyO (x 4) (x 5) 6 fs), (cT cyI x (X_text o133.2.1)), (cSo an o133.2.2), (cG cyI an (S_green o133.2.2)), (cV cyI an (S_score o133.2.2))] : List va_W).flatten) := hD.perm hq
              clear hq
              refine lv_bipush (v := -9) hx hb dL_areBowlsSo_73 (by decide) ?_
              obtain ⟨j83, hj83, hF⟩ := jn_use hF
              have hJ83 : ∀ (s83 : Int32) (H : Heap) (locs : List Loc) (ls : Array Slot) (hz_83_s1 : b01 s83), va_P (dC, dI) vwCl (([(cXo x an tr o133.2.1), (cH cyO (x 1) (x 2) 2 fl), (cXk cyI x o133.2.1), (cH cyO (x 4) (x 5) 6 fs), (cT cyI x (X_text o133.2.1)), (cSo an o133.2.2), (cG cyI an (S_green o133.2.2)), (cV cyI an (S_score o133.2.2))] : List va_W).flatten) H → va_D A (([(cXo x an tr o133.2.1), (cH cyO (x 1) (x 2) 2 fl), (cXk cyI x o133.2.1), (cH cyO (x 4) (x 5) 6 fs), (cT cyI x (X_text o133.2.1)), (cSo an o133.2.2), (cG cyI an (S_green o133.2.2)), (cV cyI an (S_score o133.2.2))] : List va_W).flatten) → va_S A s.heap H locs → lv_has ls 11 [(0, .ref (x 0)), (1, .int o1), (2, .int (0 : Int32)), (3, .int o3.1), (4, .int (-1 : Int32)), (5, .int o5)] → j83 s83 = some out → W p l e (headSpec (Cond.code yL_areBowlsSo cL_areBowlsSo 11 (some .boolean) :: wT) ({ frames := 9, cells := 445, slots := 2670, locals := 147 } : Room)).room s m ([.ref (x 0)] : List Value).toArray below meth c H locs 9 54 (MQ below (va_Qi (fun (r : Int32) (u : XV × SV) => (r, u) = out ∧ b01 r) (fun u t => va_P (dC, dI) vwCl (([(cXo x an tr u.1), (cH cyO (x 1) (x 2) 2 fl), (cXk cyI x u.1), (cH cyO (x 4) (x 5) 6 fs), (cT cyI x (X_text u.1)), (cSo an u.2), (cG cyI an (S_green u.2)), (cV cyI an (S_score u.2))] : List va_W).flatten) t.heap ∧ va_D A (([(cXo x an tr u.1), (cH cyO (x 1) (x 2) 2 fl), (cXk cyI x u.1), (cH cyO (x 4) (x 5) 6 fs), (cT cyI x (X_text u.1)), (cSo an u.2), (cG cyI an (S_green u.2)), (cV cyI an (S_score u.2))] : List va_W).flatten)) A) ([.ref (x 0)] : List Value).toArray s 445 2670 A) (F0 m 83 ls [.int s83, .int s67]) := by
                intro s83 H locs ls hz_83_s1 hP hD hS hl hF
                have hF := (congrFun hj83 s83).symm.trans hF
                refine lv_icmp_ne (tgt := 147) hx hb dL_areBowlsSo_83 (by decide) (fun c135 => ?_) (fun c135 => ?_)
                · have hF := itn c135 hF
                  refine W.widen (k := 13) (n := 78) (by omega) (by omega) ?_
                  exact hJ147 (o133.2.1, o133.2.2) _ _ _ hP hD hS (lv_sub hl [0, 1, 2, 3, 4, 5] rfl) hF
                · have hF := itp c135 hF
                  refine lv_iload hx hb dL_areBowlsSo_86 (lv_at hl 5 rfl) ?_
                  obtain ⟨j118, hj118, hF⟩ := jn_use hF
                  have hJ118 : ∀ (s118 : Unit) (H : Heap) (locs : List Loc) (ls : Array Slot), va_P (dC, dI) vwCl (([(cXo x an tr o133.2.1), (cH cyO (x 1) (x 2) 2 fl), (cXk cyI x o133.2.1), (cH cyO (x 4) (x 5) 6 fs), (cT cyI x (X_text o133.2.1)), (cSo an o133.2.2), (cG cyI an (S_green o133.2.2)), (cV cyI an (S_score o133.2.2))] : List va_W).flatten) H → va_D A (([(cXo x an tr o133.2.1), (cH cyO (x 1) (x 2) 2 fl), (cXk cyI x o133.2.1), (cH cyO (x 4) (x 5) 6 fs), (cT cyI x (X_text o133.2.1)), (cSo an o133.2.2), (cG cyI an (S_green o133.2.2)), (cV cyI an (S_score o133.2.2))] : List va_W).flatten) → va_S A s.heap H locs → lv_has ls 11 [(0, .ref (x 0)), (1, .int o1), (2, .int (0 : Int32)), (3, .int o3.1), (4, .int (-1 : Int32)), (5, .int o5)] → j118 s118 = some out → W p l e (headSpec (Cond.code yL_areBowlsSo cL_areBowlsSo 11 (some .boolean) :: wT) ({ frames := 9, cells := 445, slots := 2670, locals := 147 } : Room)).room s m ([.ref (x 0)] : List Value).toArray below meth c H locs 12 72 (MQ below (va_Qi (fun (r : Int32) (u : XV × SV) => (r, u) = out ∧ b01 r) (fun u t => va_P (dC, dI) vwCl (([(cXo x an tr u.1), (cH cyO (x 1) (x 2) 2 fl), (cXk cyI x u.1), (cH cyO (x 4) (x 5) 6 fs), (cT cyI x (X_text u.1)), (cSo an u.2), (cG cyI an (S_green u.2)), (cV cyI an (S_score u.2))] : List va_W).flatten) t.heap ∧ va_D A (([(cXo x an tr u.1), (cH cyO (x 1) (x 2) 2 fl), (cXk cyI x u.1), (cH cyO (x 4) (x 5) 6 fs), (cT cyI x (X_text u.1)), (cSo an u.2), (cG cyI an (S_green u.2)), (cV cyI an (S_score u.2))] : List va_W).flatten)) A) ([.ref (x 0)] : List Value).toArray s 445 2670 A) (F0 m 118 ls []) := by
                    intro s118 H locs ls hP hD hS hl hF
                    have hF := (congrFun hj118 s118).symm.trans hF
                    refine lv_aload_n hx hb dL_areBowlsSo_118 rfl (lv_at hl 0 rfl) ?_
                    obtain ⟨o136, h137, hF⟩ := obd hF
                    refine wcRVi (As := []) (rest := []) (b := (x 0)) ⟨hx, hb, hml, hown, hts⟩ (met_X5_isBurnt l dC dI cyI cyO x tr an fl fs N o133.2.1 o133.2.2  o136 h137) (cwV 0 hts (gV w_methodLink_L_83 w_instanceMethod_X5_isBurnt w_selects_X5_isBurnt w_initialized_X5 w_code_X5_isBurnt) rfl rfl rfl (by decide +kernel) ⟨Nat.le_of_ble_eq_true rfl, Nat.le_of_ble_eq_true rfl⟩) (va_recv hK.1 hP (ci := 5) (q0 := 0) rfl rfl) hP hK [0, 1, 2, 3, 4, 5, 6, 7, 8, 9, 10, 11, 12, 13, 14, 15, 16, 17, 18, 19, 20] rfl rfl hl.1 (Nat.le_of_ble_eq_true rfl) dL_areBowlsSo_119 ⟨(show _ ≤ 445 from by omega), (show _ ≤ 2670 from by omega)⟩ hS (fun r H locs hw hP hS => ?_)
                    obtain ⟨hw, hz138⟩ := hw
                    have hw := hw.symm
                    subst hw
                    obtain ⟨j143, hj143, hF⟩ := jn_use hF
                    have hJ143 : ∀ (s143 : Unit) (H : Heap) (locs : List Loc) (ls : Array Slot), va_P (dC, dI) vwCl (([(cXo x an tr o133.2.1), (cH cyO (x 1) (x 2) 2 fl), (cXk cyI x o133.2.1), (cH cyO (x 4) (x 5) 6 fs), (cT cyI x (X_text o133.2.1)), (cSo an o133.2.2), (cG cyI an (S_green o133.2.2)), (cV cyI an (S_score o133.2.2))] : List va_W).flatten) H → va_D A (([(cXo x an tr o133.2.1), (cH cyO (x 1) (x 2) 2 fl), (cXk cyI x o133.2.1), (cH cyO (x 4) (x 5) 6 fs), (cT cyI x (X_text o133.2.1)), (cSo an o133.2.2), (cG cyI an (S_green o133.2.2)), (cV cyI an (S_score o133.2.2))] : List va_W).flatten) → va_S A s.heap H locs → lv_has ls 11 [(0, .ref (x 0)), (1, .int o1), (2, .int (0 : Int32)), (3, .int o3.1), (4, .int (-1 : Int32)), (5, .int o5)] → j143 s143 = some out → W p l e (headSpec (Cond.code yL_areBowlsSo cL_areBowlsSo 11 (some .boolean) :: wT) ({ frames := 9, cells := 445, slots := 2670, locals := 147 } : Room)).room s m ([.ref (x 0)] : List Value).toArray below meth c H locs 13 78 (MQ below (va_Qi (fun (r : Int32) (u : XV × SV) => (r, u) = out ∧ b01 r) (fun u t => va_P (dC, dI) vwCl (([(cXo x an tr u.1), (cH cyO (x 1) (x 2) 2 fl), (cXk cyI x u.1), (cH cyO (x 4) (x 5) 6 fs), (cT cyI x (X_text u.1)), (cSo an u.2), (cG cyI an (S_green u.2)), (cV cyI an (S_score u.2))] : List va_W).flatten) t.heap ∧ va_D A (([(cXo x an tr u.1), (cH cyO (x 1) (x 2) 2 fl), (cXk cyI x u.1), (cH cyO (x 4) (x 5) 6 fs), (cT cyI x (X_text u.1)), (cSo an u.2), (cG cyI an (S_green u.2)), (cV cyI an (S_score u.2))] : List va_W).flatten)) A) ([.ref (x 0)] : List Value).toArray s 445 2670 A) (F0 m 143 ls []) := by
                      intro s143 H locs ls hP hD hS hl hF
                      have hF := (congrFun hj143 s143).symm.trans hF
                      refine lv_iconst (v := 1) hx hb dL_areBowlsSo_143 (by decide) ?_
                      refine lv_goto (tgt := 148) hx hb dL_areBowlsSo_144 (by decide) ?_
                      refine W.widen (k := 13) (n := 78) (by omega) (by omega) ?_
                      exact hJ148 ((1 : Int32), o133.2.1, o133.2.2) _ _ _ b01_1 hP hD hS (lv_sub hl [0, 1, 2, 3, 4, 5] rfl) hF
                    refine lv_if_eq (tgt := 143) hx hb dL_areBowlsSo_122 (by decide) (fun c139 => ?_) (fun c139 => ?_)
                    · have hF := itp c139 hF
                      refine W.widen (k := 13) (n := 78) (by omega) (by omega) ?_
                      exact hJ143 () _ _ _ hP hD hS (lv_sub hl [0, 1, 2, 3, 4, 5] rfl) hF
                    · have hF := itn c139 hF
                      refine lv_iload hx hb dL_areBowlsSo_125 (lv_at hl 5 rfl) ?_
                      refine lv_if_eq (tgt := 147) hx hb dL_areBowlsSo_127 (by decide) (fun c140 => ?_) (fun c140 => ?_)
                      · have hF := itp c140 hF
                        refine W.widen (k := 13) (n := 78) (by omega) (by omega) ?_
                        exact hJ147 (o133.2.1, o133.2.2) _ _ _ hP hD hS (lv_sub hl [0, 1, 2, 3, 4, 5] rfl) hF
                      · have hF := itn c140 hF
                        refine lv_aload_n hx hb dL_areBowlsSo_130 rfl (lv_at hl 0 rfl) ?_
                        obtain ⟨o141, h142, hF⟩ := obd hF
                        refine wxRVi (As := []) (rest := []) (b := (x 0)) ⟨hx, hb, hml, hown, hts⟩ (met_X5_jackRow l z0 hst dC dI cyI cyO x tr an fl fs N o133.2.1 o133.2.2  o141 h142) (cwV 0 hts (gV w_methodLink_L_59 w_instanceMethod_X5_jackRow w_selects_X5_jackRow w_initialized_X5 w_code_X5_jackRow) rfl rfl rfl (by decide +kernel) ⟨Nat.le_of_ble_eq_true rfl, Nat.le_of_ble_eq_true rfl⟩) (va_recv hK.1 hP (ci := 5) (q0 := 0) rfl rfl) hP hK hZ hAz [0, 1, 2, 3, 4, 5, 6, 7, 8, 9, 10, 11, 12, 13, 14, 15, 16, 17, 18, 19, 20] rfl rfl hl.1 (Nat.le_of_ble_eq_true rfl) dL_areBowlsSo_131 ⟨(show _ ≤ 445 from by omega), (show _ ≤ 2670 from by omega)⟩ hS (fun k ce q9 H locs hw hP hS h9 hv9 hc9 => ?_) (fun ro141 H locs hw hP hS => ?_)
                        · have hw := hw.symm
                          subst hw
                          have hF := exc_l hF
                          cases hF
                        · skip
                          have hw := hw.symm
                          subst hw
                          have hF := exc_r hF
                          refine lv_bipush (v := 60) hx hb dL_areBowlsSo_134 (by decide) ?_
                          refine lv_icmp_ne (tgt := 147) hx hb dL_areBowlsSo_136 (by decide) (fun c143 => ?_) (fun c143 => ?_)
                          · have hF := itn c143 hF
                            refine W.widen (k := 13) (n := 78) (by omega) (by omega) ?_
                            exact hJ147 (o133.2.1, o133.2.2) _ _ _ hP hD hS (lv_sub hl [0, 1, 2, 3, 4, 5] rfl) hF
                          · have hF := itp c143 hF
                            refine lv_iload_n hx hb dL_areBowlsSo_139 rfl (lv_at hl 3 rfl) ?_
                            refine lv_if_ne (tgt := 147) hx hb dL_areBowlsSo_140 (by decide) (fun c144 => ?_) (fun c144 => ?_)
                            · have hF := itn c144 hF
                              refine W.widen (k := 13) (n := 78) (by omega) (by omega) ?_
                              exact hJ147 (o133.2.1, o133.2.2) _ _ _ hP hD hS (lv_sub hl [0, 1, 2, 3, 4, 5] rfl) hF
                            · have hF := itp c144 hF
                              refine W.widen (k := 13) (n := 78) (by omega) (by omega) ?_
                              exact hJ143 () _ _ _ hP hD hS (lv_sub hl [0, 1, 2, 3, 4, 5] rfl) hF
                  refine lv_if_eq (tgt := 118) hx hb dL_areBowlsSo_88 (by decide) (fun c145 => ?_) (fun c145 => ?_)
                  · have hF := itp c145 hF
                    refine W.widen (k := 12) (n := 72) (by omega) (by omega) ?_
                    exact hJ118 () _ _ _ hP hD hS (lv_sub hl [0, 1, 2, 3, 4, 5] rfl) hF
                  · have hF := itn c145 hF
                    refine lv_aload_n hx hb dL_areBowlsSo_91 rfl (lv_at hl 0 rfl) ?_
                    obtain ⟨o146, h147, hF⟩ := obd hF
                    refine wxRVi (As := []) (rest := []) (b := (x 0)) ⟨hx, hb, hml, hown, hts⟩ (met_X5_jackRow l z0 hst dC dI cyI cyO x tr an fl fs N o133.2.1 o133.2.2  o146 h147) (cwV 0 hts (gV w_methodLink_L_59 w_instanceMethod_X5_jackRow w_selects_X5_jackRow w_initialized_X5 w_code_X5_jackRow) rfl rfl rfl (by decide +kernel) ⟨Nat.le_of_ble_eq_true rfl, Nat.le_of_ble_eq_true rfl⟩) (va_recv hK.1 hP (ci := 5) (q0 := 0) rfl rfl) hP hK hZ hAz [0, 1, 2, 3, 4, 5, 6, 7, 8, 9, 10, 11, 12, 13, 14, 15, 16, 17, 18, 19, 20] rfl rfl hl.1 (Nat.le_of_ble_eq_true rfl) dL_areBowlsSo_92 ⟨(show _ ≤ 445 from by omega), (show _ ≤ 2670 from by omega)⟩ hS (fun k ce q9 H locs hw hP hS h9 hv9 hc9 => ?_) (fun ro146 H locs hw hP hS => ?_)
                    · have hw := hw.symm
                      subst hw
                      have hF := exc_l hF
                      cases hF
                    · skip
                      have hw := hw.symm
                      subst hw
                      have hF := exc_r hF
                      refine lv_bipush (v := 20) hx hb dL_areBowlsSo_95 (by decide) ?_
                      refine lv_icmp_lt (tgt := 147) hx hb dL_areBowlsSo_97 (by decide) (fun c148 => ?_) (fun c148 => ?_)
                      · have hF := itp c148 hF
                        refine W.widen (k := 13) (n := 78) (by omega) (by omega) ?_
                        exact hJ147 (o133.2.1, o133.2.2) _ _ _ hP hD hS (lv_sub hl [0, 1, 2, 3, 4, 5] rfl) hF
                      · have hF := itn c148 hF
                        refine lv_aload_n hx hb dL_areBowlsSo_100 rfl (lv_at hl 0 rfl) ?_
                        obtain ⟨o149, h150, hF⟩ := obd hF
                        refine wxRVi (As := []) (rest := []) (b := (x 0)) ⟨hx, hb, hml, hown, hts⟩ (met_X5_jackRow l z0 hst dC dI cyI cyO x tr an fl fs N o133.2.1 o133.2.2  o149 h150) (cwV 0 hts (gV w_methodLink_L_59 w_instanceMethod_X5_jackRow w_selects_X5_jackRow w_initialized_X5 w_code_X5_jackRow) rfl rfl rfl (by decide +kernel) ⟨Nat.le_of_ble_eq_true rfl, Nat.le_of_ble_eq_true rfl⟩) (va_recv hK.1 hP (ci := 5) (q0 := 0) rfl rfl) hP hK hZ hAz [0, 1, 2, 3, 4, 5, 6, 7, 8, 9, 10, 11, 12, 13, 14, 15, 16, 17, 18, 19, 20] rfl rfl hl.1 (Nat.le_of_ble_eq_true rfl) dL_areBowlsSo_101 ⟨(show _ ≤ 445 from by omega), (show _ ≤ 2670 from by omega)⟩ hS (fun k ce q9 H locs hw hP hS h9 hv9 hc9 => ?_) (fun ro149 H locs hw hP hS => ?_)
                        · have hw := hw.symm
                          subst hw
                          have hF := exc_l hF
                          cases hF
                        · skip
                          have hw := hw.symm
                          subst hw
                          have hF := exc_r hF
                          refine lv_bipush (v := 60) hx hb dL_areBowlsSo_104 (by decide) ?_
                          refine lv_icmp_gt (tgt := 147) hx hb dL_areBowlsSo_106 (by decide) (fun c151 => ?_) (fun c151 => ?_)
                          · have hF := itp c151 hF
                            refine W.widen (k := 13) (n := 78) (by omega) (by omega) ?_
                            exact hJ147 (o133.2.1, o133.2.2) _ _ _ hP hD hS (lv_sub hl [0, 1, 2, 3, 4, 5] rfl) hF
                          · have hF := itn c151 hF
                            refine lv_aload_n hx hb dL_areBowlsSo_109 rfl (lv_at hl 0 rfl) ?_
                            obtain ⟨o152, h153, hF⟩ := obd hF
                            refine wxRVi (As := []) (rest := []) (b := (x 0)) ⟨hx, hb, hml, hown, hts⟩ (met_X5_jackColumn l z0 hst dC dI cyI cyO x tr an fl fs N o133.2.1 o133.2.2  o152 h153) (cwV 0 hts (gV w_methodLink_L_140 w_instanceMethod_X5_jackColumn w_selects_X5_jackColumn w_initialized_X5 w_code_X5_jackColumn) rfl rfl rfl (by decide +kernel) ⟨Nat.le_of_ble_eq_true rfl, Nat.le_of_ble_eq_true rfl⟩) (va_recv hK.1 hP (ci := 5) (q0 := 0) rfl rfl) hP hK hZ hAz [0, 1, 2, 3, 4, 5, 6, 7, 8, 9, 10, 11, 12, 13, 14, 15, 16, 17, 18, 19, 20] rfl rfl hl.1 (Nat.le_of_ble_eq_true rfl) dL_areBowlsSo_110 ⟨(show _ ≤ 445 from by omega), (show _ ≤ 2670 from by omega)⟩ hS (fun k ce q9 H locs hw hP hS h9 hv9 hc9 => ?_) (fun ro152 H locs hw hP hS => ?_)
                            · have hw := hw.symm
                              subst hw
                              have hF := exc_l hF
                              cases hF
                            · skip
                              have hw := hw.symm
                              subst hw
                              have hF := exc_r hF
                              refine lv_bipush (v := 10) hx hb dL_areBowlsSo_113 (by decide) ?_
                              refine lv_icmp_ne (tgt := 147) hx hb dL_areBowlsSo_115 (by decide) (fun c154 => ?_) (fun c154 => ?_)
                              · have hF := itn c154 hF
                                refine W.widen (k := 13) (n := 78) (by omega) (by omega) ?_
                                exact hJ147 (o133.2.1, o133.2.2) _ _ _ hP hD hS (lv_sub hl [0, 1, 2, 3, 4, 5] rfl) hF
                              · have hF := itp c154 hF
                                refine W.widen (k := 12) (n := 72) (by omega) (by omega) ?_
                                exact hJ118 () _ _ _ hP hD hS (lv_sub hl [0, 1, 2, 3, 4, 5] rfl) hF
              refine lv_icmp_ne (tgt := 82) hx hb dL_areBowlsSo_75 (by decide) (fun c155 => ?_) (fun c155 => ?_)
              · have hF := itn c155 hF
                refine lv_iconst (v := 0) hx hb dL_areBowlsSo_82 (by decide) ?_
                refine W.widen (k := 9) (n := 54) (by omega) (by omega) ?_
                exact hJ83 (0 : Int32) _ _ _ b01_0 hP hD hS (lv_sub hl [0, 1, 2, 3, 4, 5] rfl) hF
              · have hF := itp c155 hF
                refine lv_iconst (v := 1) hx hb dL_areBowlsSo_78 (by decide) ?_
                refine lv_goto (tgt := 83) hx hb dL_areBowlsSo_79 (by decide) ?_
                refine W.widen (k := 9) (n := 54) (by omega) (by omega) ?_
                exact hJ83 (1 : Int32) _ _ _ b01_1 hP hD hS (lv_sub hl [0, 1, 2, 3, 4, 5] rfl) hF
            refine lv_if_ne (tgt := 66) hx hb dL_areBowlsSo_59 (by decide) (fun c156 => ?_) (fun c156 => ?_)
            · have hF := itn c156 hF
              refine lv_iconst (v := 0) hx hb dL_areBowlsSo_66 (by decide) ?_
              refine W.widen (k := 0) (n := 0) (by omega) (by omega) ?_
              exact hJ67 (0 : Int32) _ _ _ b01_0 hP hD hS (lv_sub hl [0, 1, 2, 3, 4, 5] rfl) hF
            · have hF := itp c156 hF
              refine lv_iconst (v := 1) hx hb dL_areBowlsSo_62 (by decide) ?_
              refine lv_goto (tgt := 67) hx hb dL_areBowlsSo_63 (by decide) ?_
              refine W.widen (k := 0) (n := 0) (by omega) (by omega) ?_
              exact hJ67 (1 : Int32) _ _ _ b01_1 hP hD hS (lv_sub hl [0, 1, 2, 3, 4, 5] rfl) hF
    refine lv_if_ne (tgt := 40) hx hb dL_areBowlsSo_33 (by decide) (fun c157 => ?_) (fun c157 => ?_)
    · have hF := itn c157 hF
      refine W.widen (k := 0) (n := 0) (by omega) (by omega) ?_
      exact hJ40 () _ _ _ hP hD hS (lv_sub hl [5, 4, 3, 2, 1, 0] rfl) hF
    · have hF := itp c157 hF
      refine lv_iload_n hx hb dL_areBowlsSo_36 rfl (lv_at hl 4 rfl) ?_
      refine lv_if_ne (tgt := 147) hx hb dL_areBowlsSo_37 (by decide) (fun c158 => ?_) (fun c158 => ?_)
      · have hF := itn c158 hF
        refine W.widen (k := 13) (n := 78) (by omega) (by omega) ?_
        exact hJ147 (o3.2.1, o3.2.2) _ _ _ hP hD hS (lv_sub hl [5, 4, 3, 2, 1, 0] rfl) hF
      · have hF := itp c158 hF
        refine W.widen (k := 0) (n := 0) (by omega) (by omega) ?_
        exact hJ40 () _ _ _ hP hD hS (lv_sub hl [5, 4, 3, 2, 1, 0] rfl) hF
