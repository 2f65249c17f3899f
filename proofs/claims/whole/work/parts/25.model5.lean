/-! written by program from the bytecode: what each method computes, and its contract -/

theorem dX6_takesBowls_0 : decode cX6_takesBowls 0 = .ok (.iconst 0, 1) := by decide +kernel
theorem dX6_takesBowls_1 : decode cX6_takesBowls 1 = .ok (.istore_n 1, 1) := by decide +kernel
theorem dX6_takesBowls_2 : decode cX6_takesBowls 2 = .ok (.iload_n 1, 1) := by decide +kernel
theorem dX6_takesBowls_3 : decode cX6_takesBowls 3 = .ok (.aload_n 0, 1) := by decide +kernel
theorem dX6_takesBowls_4 : decode cX6_takesBowls 4 = .ok (.getfield 7, 3) := by decide +kernel
theorem dX6_takesBowls_7 : decode cX6_takesBowls 7 = .ok (.iconst 3, 1) := by decide +kernel
theorem dX6_takesBowls_8 : decode cX6_takesBowls 8 = .ok (.iaload, 1) := by decide +kernel
theorem dX6_takesBowls_9 : decode cX6_takesBowls 9 = .ok (.if_icmp .ge 142, 3) := by decide +kernel
theorem dX6_takesBowls_12 : decode cX6_takesBowls 12 = .ok (.aload_n 0, 1) := by decide +kernel
theorem dX6_takesBowls_13 : decode cX6_takesBowls 13 = .ok (.iload_n 1, 1) := by decide +kernel
theorem dX6_takesBowls_14 : decode cX6_takesBowls 14 = .ok (.iconst 0, 1) := by decide +kernel
theorem dX6_takesBowls_15 : decode cX6_takesBowls 15 = .ok (.invokevirtual 42, 3) := by decide +kernel
theorem dX6_takesBowls_18 : decode cX6_takesBowls 18 = .ok (.iconst 2, 1) := by decide +kernel
theorem dX6_takesBowls_19 : decode cX6_takesBowls 19 = .ok (.if_icmp .ne 7, 3) := by decide +kernel
theorem dX6_takesBowls_22 : decode cX6_takesBowls 22 = .ok (.iconst 1, 1) := by decide +kernel
theorem dX6_takesBowls_23 : decode cX6_takesBowls 23 = .ok (.goto 4, 3) := by decide +kernel
theorem dX6_takesBowls_26 : decode cX6_takesBowls 26 = .ok (.iconst 0, 1) := by decide +kernel
theorem dX6_takesBowls_27 : decode cX6_takesBowls 27 = .ok (.istore_n 2, 1) := by decide +kernel
theorem dX6_takesBowls_28 : decode cX6_takesBowls 28 = .ok (.aload_n 0, 1) := by decide +kernel
theorem dX6_takesBowls_29 : decode cX6_takesBowls 29 = .ok (.aload_n 0, 1) := by decide +kernel
theorem dX6_takesBowls_30 : decode cX6_takesBowls 30 = .ok (.iload_n 1, 1) := by decide +kernel
theorem dX6_takesBowls_31 : decode cX6_takesBowls 31 = .ok (.invokevirtual 88, 3) := by decide +kernel
theorem dX6_takesBowls_34 : decode cX6_takesBowls 34 = .ok (.i2l, 1) := by decide +kernel
theorem dX6_takesBowls_35 : decode cX6_takesBowls 35 = .ok (.invokevirtual 251, 3) := by decide +kernel
theorem dX6_takesBowls_38 : decode cX6_takesBowls 38 = .ok (.aload_n 0, 1) := by decide +kernel
theorem dX6_takesBowls_39 : decode cX6_takesBowls 39 = .ok (.aload_n 0, 1) := by decide +kernel
theorem dX6_takesBowls_40 : decode cX6_takesBowls 40 = .ok (.iload_n 1, 1) := by decide +kernel
theorem dX6_takesBowls_41 : decode cX6_takesBowls 41 = .ok (.iconst 0, 1) := by decide +kernel
theorem dX6_takesBowls_42 : decode cX6_takesBowls 42 = .ok (.invokevirtual 42, 3) := by decide +kernel
theorem dX6_takesBowls_45 : decode cX6_takesBowls 45 = .ok (.i2l, 1) := by decide +kernel
theorem dX6_takesBowls_46 : decode cX6_takesBowls 46 = .ok (.invokevirtual 251, 3) := by decide +kernel
theorem dX6_takesBowls_49 : decode cX6_takesBowls 49 = .ok (.aload_n 0, 1) := by decide +kernel
theorem dX6_takesBowls_50 : decode cX6_takesBowls 50 = .ok (.iload_n 2, 1) := by decide +kernel
theorem dX6_takesBowls_51 : decode cX6_takesBowls 51 = .ok (.ifCond .eq 7, 3) := by decide +kernel
theorem dX6_takesBowls_54 : decode cX6_takesBowls 54 = .ok (.lconst 0, 1) := by decide +kernel
theorem dX6_takesBowls_55 : decode cX6_takesBowls 55 = .ok (.goto 22, 3) := by decide +kernel
theorem dX6_takesBowls_58 : decode cX6_takesBowls 58 = .ok (.bipush 21, 2) := by decide +kernel
theorem dX6_takesBowls_60 : decode cX6_takesBowls 60 = .ok (.aload_n 0, 1) := by decide +kernel
theorem dX6_takesBowls_61 : decode cX6_takesBowls 61 = .ok (.iload_n 1, 1) := by decide +kernel
theorem dX6_takesBowls_62 : decode cX6_takesBowls 62 = .ok (.iconst 1, 1) := by decide +kernel
theorem dX6_takesBowls_63 : decode cX6_takesBowls 63 = .ok (.invokevirtual 42, 3) := by decide +kernel
theorem dX6_takesBowls_66 : decode cX6_takesBowls 66 = .ok (.imul, 1) := by decide +kernel
theorem dX6_takesBowls_67 : decode cX6_takesBowls 67 = .ok (.aload_n 0, 1) := by decide +kernel
theorem dX6_takesBowls_68 : decode cX6_takesBowls 68 = .ok (.iload_n 1, 1) := by decide +kernel
theorem dX6_takesBowls_69 : decode cX6_takesBowls 69 = .ok (.iconst 2, 1) := by decide +kernel
theorem dX6_takesBowls_70 : decode cX6_takesBowls 70 = .ok (.invokevirtual 42, 3) := by decide +kernel
theorem dX6_takesBowls_73 : decode cX6_takesBowls 73 = .ok (.iadd, 1) := by decide +kernel
theorem dX6_takesBowls_74 : decode cX6_takesBowls 74 = .ok (.iconst 1, 1) := by decide +kernel
theorem dX6_takesBowls_75 : decode cX6_takesBowls 75 = .ok (.iadd, 1) := by decide +kernel
theorem dX6_takesBowls_76 : decode cX6_takesBowls 76 = .ok (.i2l, 1) := by decide +kernel
theorem dX6_takesBowls_77 : decode cX6_takesBowls 77 = .ok (.invokevirtual 251, 3) := by decide +kernel
theorem dX6_takesBowls_80 : decode cX6_takesBowls 80 = .ok (.aload_n 0, 1) := by decide +kernel
theorem dX6_takesBowls_81 : decode cX6_takesBowls 81 = .ok (.aload_n 0, 1) := by decide +kernel
theorem dX6_takesBowls_82 : decode cX6_takesBowls 82 = .ok (.iload_n 1, 1) := by decide +kernel
theorem dX6_takesBowls_83 : decode cX6_takesBowls 83 = .ok (.iconst 3, 1) := by decide +kernel
theorem dX6_takesBowls_84 : decode cX6_takesBowls 84 = .ok (.invokevirtual 42, 3) := by decide +kernel
theorem dX6_takesBowls_87 : decode cX6_takesBowls 87 = .ok (.i2l, 1) := by decide +kernel
theorem dX6_takesBowls_88 : decode cX6_takesBowls 88 = .ok (.invokevirtual 251, 3) := by decide +kernel
theorem dX6_takesBowls_91 : decode cX6_takesBowls 91 = .ok (.aload_n 0, 1) := by decide +kernel
theorem dX6_takesBowls_92 : decode cX6_takesBowls 92 = .ok (.iload_n 2, 1) := by decide +kernel
theorem dX6_takesBowls_93 : decode cX6_takesBowls 93 = .ok (.ifCond .eq 7, 3) := by decide +kernel
theorem dX6_takesBowls_96 : decode cX6_takesBowls 96 = .ok (.lconst 0, 1) := by decide +kernel
theorem dX6_takesBowls_97 : decode cX6_takesBowls 97 = .ok (.goto 11, 3) := by decide +kernel
theorem dX6_takesBowls_100 : decode cX6_takesBowls 100 = .ok (.aload_n 0, 1) := by decide +kernel
theorem dX6_takesBowls_101 : decode cX6_takesBowls 101 = .ok (.iload_n 1, 1) := by decide +kernel
theorem dX6_takesBowls_102 : decode cX6_takesBowls 102 = .ok (.invokevirtual 81, 3) := by decide +kernel
theorem dX6_takesBowls_105 : decode cX6_takesBowls 105 = .ok (.iconst 1, 1) := by decide +kernel
theorem dX6_takesBowls_106 : decode cX6_takesBowls 106 = .ok (.iadd, 1) := by decide +kernel
theorem dX6_takesBowls_107 : decode cX6_takesBowls 107 = .ok (.i2l, 1) := by decide +kernel
theorem dX6_takesBowls_108 : decode cX6_takesBowls 108 = .ok (.invokevirtual 251, 3) := by decide +kernel
theorem dX6_takesBowls_111 : decode cX6_takesBowls 111 = .ok (.aload_n 0, 1) := by decide +kernel
theorem dX6_takesBowls_112 : decode cX6_takesBowls 112 = .ok (.aload_n 0, 1) := by decide +kernel
theorem dX6_takesBowls_113 : decode cX6_takesBowls 113 = .ok (.iload_n 1, 1) := by decide +kernel
theorem dX6_takesBowls_114 : decode cX6_takesBowls 114 = .ok (.iconst 4, 1) := by decide +kernel
theorem dX6_takesBowls_115 : decode cX6_takesBowls 115 = .ok (.invokevirtual 42, 3) := by decide +kernel
theorem dX6_takesBowls_118 : decode cX6_takesBowls 118 = .ok (.i2l, 1) := by decide +kernel
theorem dX6_takesBowls_119 : decode cX6_takesBowls 119 = .ok (.invokevirtual 251, 3) := by decide +kernel
theorem dX6_takesBowls_122 : decode cX6_takesBowls 122 = .ok (.aload_n 0, 1) := by decide +kernel
theorem dX6_takesBowls_123 : decode cX6_takesBowls 123 = .ok (.aload_n 0, 1) := by decide +kernel
theorem dX6_takesBowls_124 : decode cX6_takesBowls 124 = .ok (.iload_n 1, 1) := by decide +kernel
theorem dX6_takesBowls_125 : decode cX6_takesBowls 125 = .ok (.iconst 5, 1) := by decide +kernel
theorem dX6_takesBowls_126 : decode cX6_takesBowls 126 = .ok (.invokevirtual 42, 3) := by decide +kernel
theorem dX6_takesBowls_129 : decode cX6_takesBowls 129 = .ok (.i2l, 1) := by decide +kernel
theorem dX6_takesBowls_130 : decode cX6_takesBowls 130 = .ok (.invokevirtual 251, 3) := by decide +kernel
theorem dX6_takesBowls_133 : decode cX6_takesBowls 133 = .ok (.aload_n 0, 1) := by decide +kernel
theorem dX6_takesBowls_134 : decode cX6_takesBowls 134 = .ok (.aload_n 0, 1) := by decide +kernel
theorem dX6_takesBowls_135 : decode cX6_takesBowls 135 = .ok (.iload_n 1, 1) := by decide +kernel
theorem dX6_takesBowls_136 : decode cX6_takesBowls 136 = .ok (.bipush 6, 2) := by decide +kernel
theorem dX6_takesBowls_138 : decode cX6_takesBowls 138 = .ok (.invokevirtual 42, 3) := by decide +kernel
theorem dX6_takesBowls_141 : decode cX6_takesBowls 141 = .ok (.i2l, 1) := by decide +kernel
theorem dX6_takesBowls_142 : decode cX6_takesBowls 142 = .ok (.invokevirtual 251, 3) := by decide +kernel
theorem dX6_takesBowls_145 : decode cX6_takesBowls 145 = .ok (.iinc 1 1, 3) := by decide +kernel
theorem dX6_takesBowls_148 : decode cX6_takesBowls 148 = .ok (.goto (-146), 3) := by decide +kernel
theorem dX6_takesBowls_151 : decode cX6_takesBowls 151 = .ok (.aload_n 0, 1) := by decide +kernel
theorem dX6_takesBowls_152 : decode cX6_takesBowls 152 = .ok (.invokevirtual 94, 3) := by decide +kernel
theorem dX6_takesBowls_155 : decode cX6_takesBowls 155 = .ok (.istore_n 1, 1) := by decide +kernel
theorem dX6_takesBowls_156 : decode cX6_takesBowls 156 = .ok (.aload_n 0, 1) := by decide +kernel
theorem dX6_takesBowls_157 : decode cX6_takesBowls 157 = .ok (.iload_n 1, 1) := by decide +kernel
theorem dX6_takesBowls_158 : decode cX6_takesBowls 158 = .ok (.ifCond .ne 7, 3) := by decide +kernel
theorem dX6_takesBowls_161 : decode cX6_takesBowls 161 = .ok (.lconst 0, 1) := by decide +kernel
theorem dX6_takesBowls_162 : decode cX6_takesBowls 162 = .ok (.goto 14, 3) := by decide +kernel
theorem dX6_takesBowls_165 : decode cX6_takesBowls 165 = .ok (.iload_n 1, 1) := by decide +kernel
theorem dX6_takesBowls_166 : decode cX6_takesBowls 166 = .ok (.ifCond .le 7, 3) := by decide +kernel
theorem dX6_takesBowls_169 : decode cX6_takesBowls 169 = .ok (.lconst 1, 1) := by decide +kernel
theorem dX6_takesBowls_170 : decode cX6_takesBowls 170 = .ok (.goto 6, 3) := by decide +kernel
theorem dX6_takesBowls_173 : decode cX6_takesBowls 173 = .ok (.ldc2_w 255, 3) := by decide +kernel
theorem dX6_takesBowls_176 : decode cX6_takesBowls 176 = .ok (.invokevirtual 251, 3) := by decide +kernel
theorem dX6_takesBowls_179 : decode cX6_takesBowls 179 = .ok (.aload_n 0, 1) := by decide +kernel
theorem dX6_takesBowls_180 : decode cX6_takesBowls 180 = .ok (.iload_n 1, 1) := by decide +kernel
theorem dX6_takesBowls_181 : decode cX6_takesBowls 181 = .ok (.invokestatic 101, 3) := by decide +kernel
theorem dX6_takesBowls_184 : decode cX6_takesBowls 184 = .ok (.i2l, 1) := by decide +kernel
theorem dX6_takesBowls_185 : decode cX6_takesBowls 185 = .ok (.invokevirtual 251, 3) := by decide +kernel
theorem dX6_takesBowls_188 : decode cX6_takesBowls 188 = .ok (.aload_n 0, 1) := by decide +kernel
theorem dX6_takesBowls_189 : decode cX6_takesBowls 189 = .ok (.iload_n 1, 1) := by decide +kernel
theorem dX6_takesBowls_190 : decode cX6_takesBowls 190 = .ok (.invokestatic 101, 3) := by decide +kernel
theorem dX6_takesBowls_193 : decode cX6_takesBowls 193 = .ok (.i2l, 1) := by decide +kernel
theorem dX6_takesBowls_194 : decode cX6_takesBowls 194 = .ok (.invokevirtual 251, 3) := by decide +kernel
theorem dX6_takesBowls_197 : decode cX6_takesBowls 197 = .ok (.aload_n 0, 1) := by decide +kernel
theorem dX6_takesBowls_198 : decode cX6_takesBowls 198 = .ok (.invokevirtual 85, 3) := by decide +kernel
theorem dX6_takesBowls_201 : decode cX6_takesBowls 201 = .ok (.iconst 0, 1) := by decide +kernel
theorem dX6_takesBowls_202 : decode cX6_takesBowls 202 = .ok (.istore_n 2, 1) := by decide +kernel
theorem dX6_takesBowls_203 : decode cX6_takesBowls 203 = .ok (.iload_n 2, 1) := by decide +kernel
theorem dX6_takesBowls_204 : decode cX6_takesBowls 204 = .ok (.aload_n 0, 1) := by decide +kernel
theorem dX6_takesBowls_205 : decode cX6_takesBowls 205 = .ok (.getfield 78, 3) := by decide +kernel
theorem dX6_takesBowls_208 : decode cX6_takesBowls 208 = .ok (.if_icmp .ge 20, 3) := by decide +kernel
theorem dX6_takesBowls_211 : decode cX6_takesBowls 211 = .ok (.aload_n 0, 1) := by decide +kernel
theorem dX6_takesBowls_212 : decode cX6_takesBowls 212 = .ok (.aload_n 0, 1) := by decide +kernel
theorem dX6_takesBowls_213 : decode cX6_takesBowls 213 = .ok (.getfield 28, 3) := by decide +kernel
theorem dX6_takesBowls_216 : decode cX6_takesBowls 216 = .ok (.iload_n 2, 1) := by decide +kernel
theorem dX6_takesBowls_217 : decode cX6_takesBowls 217 = .ok (.iaload, 1) := by decide +kernel
theorem dX6_takesBowls_218 : decode cX6_takesBowls 218 = .ok (.i2l, 1) := by decide +kernel
theorem dX6_takesBowls_219 : decode cX6_takesBowls 219 = .ok (.invokevirtual 251, 3) := by decide +kernel
theorem dX6_takesBowls_222 : decode cX6_takesBowls 222 = .ok (.iinc 2 1, 3) := by decide +kernel
theorem dX6_takesBowls_225 : decode cX6_takesBowls 225 = .ok (.goto (-22), 3) := by decide +kernel
theorem dX6_takesBowls_228 : decode cX6_takesBowls 228 = .ok (.aload_n 0, 1) := by decide +kernel
theorem dX6_takesBowls_229 : decode cX6_takesBowls 229 = .ok (.aload_n 0, 1) := by decide +kernel
theorem dX6_takesBowls_230 : decode cX6_takesBowls 230 = .ok (.iconst 0, 1) := by decide +kernel
theorem dX6_takesBowls_231 : decode cX6_takesBowls 231 = .ok (.invokevirtual 204, 3) := by decide +kernel
theorem dX6_takesBowls_234 : decode cX6_takesBowls 234 = .ok (.i2l, 1) := by decide +kernel
theorem dX6_takesBowls_235 : decode cX6_takesBowls 235 = .ok (.invokevirtual 251, 3) := by decide +kernel
theorem dX6_takesBowls_238 : decode cX6_takesBowls 238 = .ok (.aload_n 0, 1) := by decide +kernel
theorem dX6_takesBowls_239 : decode cX6_takesBowls 239 = .ok (.aload_n 0, 1) := by decide +kernel
theorem dX6_takesBowls_240 : decode cX6_takesBowls 240 = .ok (.iconst 1, 1) := by decide +kernel
theorem dX6_takesBowls_241 : decode cX6_takesBowls 241 = .ok (.invokevirtual 204, 3) := by decide +kernel
theorem dX6_takesBowls_244 : decode cX6_takesBowls 244 = .ok (.i2l, 1) := by decide +kernel
theorem dX6_takesBowls_245 : decode cX6_takesBowls 245 = .ok (.invokevirtual 251, 3) := by decide +kernel
theorem dX6_takesBowls_248 : decode cX6_takesBowls 248 = .ok (.aload_n 0, 1) := by decide +kernel
theorem dX6_takesBowls_249 : decode cX6_takesBowls 249 = .ok (.aload_n 0, 1) := by decide +kernel
theorem dX6_takesBowls_250 : decode cX6_takesBowls 250 = .ok (.invokevirtual 207, 3) := by decide +kernel
theorem dX6_takesBowls_253 : decode cX6_takesBowls 253 = .ok (.ifCond .eq 23, 3) := by decide +kernel
theorem dX6_takesBowls_256 : decode cX6_takesBowls 256 = .ok (.aload_n 0, 1) := by decide +kernel
theorem dX6_takesBowls_257 : decode cX6_takesBowls 257 = .ok (.iconst 0, 1) := by decide +kernel
theorem dX6_takesBowls_258 : decode cX6_takesBowls 258 = .ok (.invokevirtual 210, 3) := by decide +kernel
theorem dX6_takesBowls_261 : decode cX6_takesBowls 261 = .ok (.aload_n 0, 1) := by decide +kernel
theorem dX6_takesBowls_262 : decode cX6_takesBowls 262 = .ok (.iconst 1, 1) := by decide +kernel
theorem dX6_takesBowls_263 : decode cX6_takesBowls 263 = .ok (.invokevirtual 210, 3) := by decide +kernel
theorem dX6_takesBowls_266 : decode cX6_takesBowls 266 = .ok (.isub, 1) := by decide +kernel
theorem dX6_takesBowls_267 : decode cX6_takesBowls 267 = .ok (.invokestatic 101, 3) := by decide +kernel
theorem dX6_takesBowls_270 : decode cX6_takesBowls 270 = .ok (.i2l, 1) := by decide +kernel
theorem dX6_takesBowls_271 : decode cX6_takesBowls 271 = .ok (.lconst 1, 1) := by decide +kernel
theorem dX6_takesBowls_272 : decode cX6_takesBowls 272 = .ok (.ladd, 1) := by decide +kernel
theorem dX6_takesBowls_273 : decode cX6_takesBowls 273 = .ok (.goto 4, 3) := by decide +kernel
theorem dX6_takesBowls_276 : decode cX6_takesBowls 276 = .ok (.lconst 0, 1) := by decide +kernel
theorem dX6_takesBowls_277 : decode cX6_takesBowls 277 = .ok (.invokevirtual 251, 3) := by decide +kernel
theorem dX6_takesBowls_280 : decode cX6_takesBowls 280 = .ok (.aload_n 0, 1) := by decide +kernel
theorem dX6_takesBowls_281 : decode cX6_takesBowls 281 = .ok (.aload_n 0, 1) := by decide +kernel
theorem dX6_takesBowls_282 : decode cX6_takesBowls 282 = .ok (.invokevirtual 213, 3) := by decide +kernel
theorem dX6_takesBowls_285 : decode cX6_takesBowls 285 = .ok (.i2l, 1) := by decide +kernel
theorem dX6_takesBowls_286 : decode cX6_takesBowls 286 = .ok (.invokevirtual 251, 3) := by decide +kernel
theorem dX6_takesBowls_289 : decode cX6_takesBowls 289 = .ok (.return_, 1) := by decide +kernel
def f_X6_takesBowls (N : Nat) (v : MV) : Option (MV) :=
  lpN (fun (s2 : Int32 × MV) (k2 : (Int32 × MV) → Option (MV)) => (if ((M_s s2.2) (3 : Int32).toNatClampNeg) ≤ s2.1 then (f_X6_score N s2.2).bind (fun o3 => jn (fun (s176 : Int64) => (f_X6_takesIn N o3.2 s176).bind (fun o5 => (f_X6_abs N o3.1).bind (fun o7 => (f_X6_takesIn N o5 ((o7).toInt64)).bind (fun o9 => (f_X6_abs N o3.1).bind (fun o11 => (f_X6_takesIn N o9 ((o11).toInt64)).bind (fun o13 => (f_X6_laysOrder N o13).bind (fun o15 => lpN (fun (s203 : Int32 × MV) (k203 : (Int32 × MV) → Option (MV)) => (if (M_orderMany s203.2) ≤ s203.1 then (f_X6_alive N s203.2 (0 : Int32)).bind (fun o18 => (f_X6_takesIn N s203.2 ((o18).toInt64)).bind (fun o20 => (f_X6_alive N o20 (1 : Int32)).bind (fun o22 => (f_X6_takesIn N o20 ((o22).toInt64)).bind (fun o24 => (f_X6_hasGap N o24).bind (fun o26 => jn (fun (s277 : Int64) => (f_X6_takesIn N o24 s277).bind (fun o29 => (f_X6_widest N o29).bind (fun o31 => (f_X6_takesIn N o29 ((o31).toInt64)).bind (fun o33 => some o33)))) (fun (j277 : (Int64) → Option (MV)) => (if o26 = 0 then j277 (0 : Int64) else (f_X6_least N o24 (0 : Int32)).bind (fun o36 => (f_X6_least N o24 (1 : Int32)).bind (fun o38 => (f_X6_abs N (o36 - o38)).bind (fun o40 => j277 (((o40).toInt64) + (1 : Int64)))))))))))) else gd (ixok s203.1 8) ((f_X6_takesIn N s203.2 (((M_order s203.2) s203.1.toNatClampNeg).toInt64)).bind (fun o43 => k203 ((s203.1 + (1 : Int32)), o43))))) N ((0 : Int32), o15)))))))) (fun (j176 : (Int64) → Option (MV)) => (if o3.1 = 0 then j176 (0 : Int64) else (if o3.1 ≤ 0 then j176 (2 : Int64) else j176 (1 : Int64))))) else (f_X6_of N s2.2 s2.1 (0 : Int32)).bind (fun o47 => jn (fun (s27 : Int32) => (f_X6_sideNow N s2.2 s2.1).bind (fun o49 => (f_X6_takesIn N s2.2 ((o49).toInt64)).bind (fun o51 => (f_X6_of N o51 s2.1 (0 : Int32)).bind (fun o53 => (f_X6_takesIn N o51 ((o53).toInt64)).bind (fun o55 => jn (fun (s77 : Int64) => (f_X6_takesIn N o55 s77).bind (fun o57 => (f_X6_of N o57 s2.1 (3 : Int32)).bind (fun o59 => (f_X6_takesIn N o57 ((o59).toInt64)).bind (fun o61 => jn (fun (s108 : Int64) => (f_X6_takesIn N o61 s108).bind (fun o63 => (f_X6_of N o63 s2.1 (4 : Int32)).bind (fun o65 => (f_X6_takesIn N o63 ((o65).toInt64)).bind (fun o67 => (f_X6_of N o67 s2.1 (5 : Int32)).bind (fun o69 => (f_X6_takesIn N o67 ((o69).toInt64)).bind (fun o71 => (f_X6_of N o71 s2.1 (6 : Int32)).bind (fun o73 => (f_X6_takesIn N o71 ((o73).toInt64)).bind (fun o75 => k2 ((s2.1 + (1 : Int32)), o75))))))))) (fun (j108 : (Int64) → Option (MV)) => (if s27 = 0 then (f_X6_distance N o61 s2.1).bind (fun o78 => j108 ((o78 + (1 : Int32)).toInt64)) else j108 (0 : Int64))))))) (fun (j77 : (Int64) → Option (MV)) => (if s27 = 0 then (f_X6_of N o55 s2.1 (1 : Int32)).bind (fun o81 => (f_X6_of N o55 s2.1 (2 : Int32)).bind (fun o83 => j77 (((((21 : Int32) * o81) + o83) + (1 : Int32)).toInt64))) else j77 (0 : Int64)))))))) (fun (j27 : (Int32) → Option (MV)) => (if o47 = (2 : Int32) then j27 (1 : Int32) else j27 (0 : Int32)))))) N ((0 : Int32), v)
set_option maxHeartbeats 4000000 in
set_option maxRecDepth 100000 in
theorem met_X6_takesBowls (l : Launch) (dC : Nat → ClassId) (dI : Nat → Nat → Nat) (cyI cyO cyL : ClassId) (a : Nat → Nat) (sz : Nat) (N : Nat) (v : MV) (out : MV) (hF : f_X6_takesBowls N v = some out) : Met l yX6_takesBowls (Cond.code yX6_takesBowls cX6_takesBowls 3 none :: wT) ({ frames := 4, cells := 0, slots := 0, locals := 92 } : Room) (wWr dC dI cyI cyO cyL [.ref (a 0)] (cM cyI a v) sz) (va_Qv (fun (u : MV) => u = out) (fun u t => va_P (dC, dI) vwCl (cM cyI a u) t.heap ∧ va_D (va_A (cM cyI a v) sz) (cM cyI a u)) (va_A (cM cyI a v) sz)) 0 0 (va_A (cM cyI a v) sz) := by
  refine Met.ofW (cc := cX6_takesBowls) (maxL := 3) (ret := none) (by decide) rfl ?_
  intro p e s m args below meth c s₁ B hml hv
  obtain ⟨rfl, hsz, hP, hK, hD0⟩ := hv
  have hx := B.exec
  have hb := B.bytes
  have hr := B.returns
  have hts0 := atoms_spec (ws := (Cond.code yX6_takesBowls cX6_takesBowls 3 none :: wT)) B.pre
  have hts := fun w h => hts0 w (List.mem_cons_of_mem _ h)
  clear hts0
  have hown : s.vm.findClass RX6 = some m.cls := findClass_of_methodNamed B.named
  have hlocks := B.notSynchronized
  subst hsz
  have hD := hD0.self (sz := s.heap.size)
  generalize hAe : va_A (cM cyI a v) s.heap.size = A at hD ⊢
  have hA : ∀ q : Nat, s.heap.size ≤ q → A q := fun q h => by rw [← hAe]; exact Or.inr h
  clear hD0
  have hS : va_S A s.heap s.heap [] := va_S.rf
  have hl := lv_entry [.ref (a 0)] (n := 3) (Nat.le_of_ble_eq_true rfl)
  rw [lg_entry_eq]
  generalize (lg_sl [.ref (a 0)] ++ List.replicate (3 - (lg_sl [.ref (a 0)]).length) Slot.unset).toArray = ls at hl ⊢
  have hl : lv_has ls 3 [(0, .ref (a 0))] := hl
  unfold f_X6_takesBowls at hF
  refine lv_iconst (v := 0) hx hb dX6_takesBowls_0 (by decide) ?_
  refine lv_istore_n (lv' := [(1, .int (0 : Int32)), (0, .ref (a 0))]) hx hb dX6_takesBowls_1 rfl hl (by decide) rfl (fun ls hl => ?_)
  obtain ⟨st2, hst2, hF⟩ := lpN_use hF
  have hL2 : ∀ (n : Nat) (s2 : Int32 × MV) (H : Heap) (locs : List Loc) (ls : Array Slot), va_P (dC, dI) vwCl (cM cyI a s2.2) H → va_D A (cM cyI a s2.2) → va_S A s.heap H locs → lv_has ls 3 [(0, .ref (a 0)), (1, .int s2.1)] → lpN st2 n s2 = some out → W p l e (headSpec (Cond.code yX6_takesBowls cX6_takesBowls 3 none :: wT) ({ frames := 4, cells := 0, slots := 0, locals := 92 } : Room)).room s m ([.ref (a 0)] : List Value).toArray below meth c H locs 0 0 (MQ below (va_Qv (fun (u : MV) => u = out) (fun u t => va_P (dC, dI) vwCl (cM cyI a u) t.heap ∧ va_D A (cM cyI a u)) A) ([.ref (a 0)] : List Value).toArray s 0 0 A) (F0 m 2 ls []) := by
    intro n
    induction n with
    | zero => intro s2 H locs ls hP hD hS hl hF; exact lpN_0 hF
    | succ n ih2 =>
      intro s2 H locs ls hP hD hS hl hF
      have hF := (congrFun (congrFun hst2 s2) (lpN st2 n)).symm.trans (lpN_s hF)
      refine lv_iload_n hx hb dX6_takesBowls_2 rfl (lv_at hl 1 rfl) ?_
      refine lv_aload_n hx hb dX6_takesBowls_3 rfl (lv_at hl 0 rfl) ?_
      refine va_get (D := (dC, dI)) (ci := 6) (v := .ref (a 1)) (C := RX6) (T := TX6) (N := 23) hx hb hts inX6 hown hK.1 hP 0 rfl rfl 1 (by decide) (hts _ w_fieldLink_X6_7) (fun _ h9 => h9) rfl dX6_takesBowls_4 ?_
      refine lv_iconst (v := 3) hx hb dX6_takesBowls_7 (by decide) ?_
      refine va_iald hx hb hK.1 hP 1 0 rfl rfl (i := (3 : Int32)) (show ixok (3 : Int32) 103 by decide) dX6_takesBowls_8 ?_
      refine lv_icmp_ge (tgt := 151) hx hb dX6_takesBowls_9 (by decide) (fun c2 => ?_) (fun c2 => ?_)
      · have hF := itp c2 hF
        refine lv_aload_n hx hb dX6_takesBowls_151 rfl (lv_at hl 0 rfl) ?_
        obtain ⟨o3, h4, hF⟩ := obd hF
        refine wcWVi (As := []) (rest := []) (wr := []) (b := (a 0)) ⟨hx, hb, hml, hown, hts⟩ (met_X6_score l dC dI cyI cyO cyL a _ N s2.2  o3 h4) (cwV 0 hts (gV w_methodLink_X6_94 w_instanceMethod_X6_score w_selects_X6_score w_initialized_X6 w_code_X6_score) rfl rfl rfl (by decide +kernel) ⟨Nat.le_of_ble_eq_true rfl, Nat.le_of_ble_eq_true rfl⟩) (va_recv hK.1 hP (ci := 6) (q0 := 0) rfl rfl) hP hD hK [0, 1, 2, 3, 4, 5, 6, 7] [] rfl rfl (by decide) (by decide) (by decide) rfl hl.1 (Nat.le_of_ble_eq_true rfl) dX6_takesBowls_152 ⟨Nat.le_of_ble_eq_true rfl, Nat.le_of_ble_eq_true rfl⟩ hS hA (fun r u H locs hw hP hD hS => ?_)
        obtain rfl : r = o3.1 := congrArg Prod.fst hw
        obtain rfl : u = o3.2 := congrArg Prod.snd hw
        clear hw
        have hP : va_P (dC, dI) vwCl (cM cyI a o3.2) H := hP
        have hD : va_D A (cM cyI a o3.2) := hD
        refine lv_istore_n (lv' := [(1, .int o3.1), (0, .ref (a 0))]) hx hb dX6_takesBowls_155 rfl hl (by decide) rfl (fun ls hl => ?_)
        refine lv_aload_n hx hb dX6_takesBowls_156 rfl (lv_at hl 1 rfl) ?_
        refine lv_iload_n hx hb dX6_takesBowls_157 rfl (lv_at hl 0 rfl) ?_
        obtain ⟨j176, hj176, hF⟩ := jn_use hF
        have hJ176 : ∀ (s176 : Int64) (H : Heap) (locs : List Loc) (ls : Array Slot), va_P (dC, dI) vwCl (cM cyI a o3.2) H → va_D A (cM cyI a o3.2) → va_S A s.heap H locs → lv_has ls 3 [(0, .ref (a 0)), (1, .int o3.1)] → j176 s176 = some out → W p l e (headSpec (Cond.code yX6_takesBowls cX6_takesBowls 3 none :: wT) ({ frames := 4, cells := 0, slots := 0, locals := 92 } : Room)).room s m ([.ref (a 0)] : List Value).toArray below meth c H locs 0 0 (MQ below (va_Qv (fun (u : MV) => u = out) (fun u t => va_P (dC, dI) vwCl (cM cyI a u) t.heap ∧ va_D A (cM cyI a u)) A) ([.ref (a 0)] : List Value).toArray s 0 0 A) (F0 m 176 ls [.long s176, .ref (a 0)]) := by
          intro s176 H locs ls hP hD hS hl hF
          have hF := (congrFun hj176 s176).symm.trans hF
          obtain ⟨o5, h6, hF⟩ := obd hF
          refine wcWVv (As := [.long s176]) (rest := []) (wr := []) (b := (a 0)) ⟨hx, hb, hml, hown, hts⟩ (met_X6_takesIn l dC dI cyI cyO cyL a _ N o3.2 s176 o5 h6) (cwV 1 hts (gV w_methodLink_X6_251 w_instanceMethod_X6_takesIn w_selects_X6_takesIn w_initialized_X6 w_code_X6_takesIn) rfl rfl rfl (by decide +kernel) ⟨Nat.le_of_ble_eq_true rfl, Nat.le_of_ble_eq_true rfl⟩) (va_recv hK.1 hP (ci := 6) (q0 := 0) rfl rfl) hP hD hK [0, 1, 2, 3, 4, 5, 6, 7] [] rfl rfl (by decide) (by decide) (by decide) rfl hl.1 (Nat.le_of_ble_eq_true rfl) dX6_takesBowls_176 ⟨Nat.le_of_ble_eq_true rfl, Nat.le_of_ble_eq_true rfl⟩ hS hA (fun u H locs hw hP hD hS => ?_)
          have hw := hw.symm
          subst hw
          have hP : va_P (dC, dI) vwCl (cM cyI a o5) H := hP
          have hD : va_D A (cM cyI a o5) := hD
          refine lv_aload_n hx hb dX6_takesBowls_179 rfl (lv_at hl 0 rfl) ?_
          refine lv_iload_n hx hb dX6_takesBowls_180 rfl (lv_at hl 1 rfl) ?_
          obtain ⟨o7, h8, hF⟩ := obd hF
          refine wcRSi (As := [.int o3.1]) (rest := [.ref (a 0)]) ⟨hx, hb, hml, hown, hts⟩ (met_X6_abs l dC dI cyI cyO cyL  N  o3.1 o7 h8) (va_cwS 1 hts (gS w_methodLink_X6_101 w_static_X6_abs w_initialized_X6 w_code_X6_abs) rfl rfl rfl (by decide +kernel) ⟨Nat.le_of_ble_eq_true rfl, Nat.le_of_ble_eq_true rfl⟩) hP hK [] rfl rfl hl.1 (Nat.le_of_ble_eq_true rfl) dX6_takesBowls_181 ⟨Nat.le_of_ble_eq_true rfl, Nat.le_of_ble_eq_true rfl⟩ hS (fun r H locs hw hP hS => ?_)
          have hw := hw.symm
          subst hw
          refine lv_i2l (v := (o7).toInt64) hx hb dX6_takesBowls_184 rfl ?_
          obtain ⟨o9, h10, hF⟩ := obd hF
          refine wcWVv (As := [.long ((o7).toInt64)]) (rest := []) (wr := []) (b := (a 0)) ⟨hx, hb, hml, hown, hts⟩ (met_X6_takesIn l dC dI cyI cyO cyL a _ N o5 ((o7).toInt64) o9 h10) (cwV 1 hts (gV w_methodLink_X6_251 w_instanceMethod_X6_takesIn w_selects_X6_takesIn w_initialized_X6 w_code_X6_takesIn) rfl rfl rfl (by decide +kernel) ⟨Nat.le_of_ble_eq_true rfl, Nat.le_of_ble_eq_true rfl⟩) (va_recv hK.1 hP (ci := 6) (q0 := 0) rfl rfl) hP hD hK [0, 1, 2, 3, 4, 5, 6, 7] [] rfl rfl (by decide) (by decide) (by decide) rfl hl.1 (Nat.le_of_ble_eq_true rfl) dX6_takesBowls_185 ⟨Nat.le_of_ble_eq_true rfl, Nat.le_of_ble_eq_true rfl⟩ hS hA (fun u H locs hw hP hD hS => ?_)
          have hw := hw.symm
          subst hw
          have hP : va_P (dC, dI) vwCl (cM cyI a o9) H := hP
          have hD : va_D A (cM cyI a o9) := hD
          refine lv_aload_n hx hb dX6_takesBowls_188 rfl (lv_at hl 0 rfl) ?_
          refine lv_iload_n hx hb dX6_takesBowls_189 rfl (lv_at hl 1 rfl) ?_
          obtain ⟨o11, h12, hF⟩ := obd hF
          refine wcRSi (As := [.int o3.1]) (rest := [.ref (a 0)]) ⟨hx, hb, hml, hown, hts⟩ (met_X6_abs l dC dI cyI cyO cyL  N  o3.1 o11 h12) (va_cwS 1 hts (gS w_methodLink_X6_101 w_static_X6_abs w_initialized_X6 w_code_X6_abs) rfl rfl rfl (by decide +kernel) ⟨Nat.le_of_ble_eq_true rfl, Nat.le_of_ble_eq_true rfl⟩) hP hK [] rfl rfl hl.1 (Nat.le_of_ble_eq_true rfl) dX6_takesBowls_190 ⟨Nat.le_of_ble_eq_true rfl, Nat.le_of_ble_eq_true rfl⟩ hS (fun r H locs hw hP hS => ?_)
          have hw := hw.symm
          subst hw
          refine lv_i2l (v := (o11).toInt64) hx hb dX6_takesBowls_193 rfl ?_
          obtain ⟨o13, h14, hF⟩ := obd hF
          refine wcWVv (As := [.long ((o11).toInt64)]) (rest := []) (wr := []) (b := (a 0)) ⟨hx, hb, hml, hown, hts⟩ (met_X6_takesIn l dC dI cyI cyO cyL a _ N o9 ((o11).toInt64) o13 h14) (cwV 1 hts (gV w_methodLink_X6_251 w_instanceMethod_X6_takesIn w_selects_X6_takesIn w_initialized_X6 w_code_X6_takesIn) rfl rfl rfl (by decide +kernel) ⟨Nat.le_of_ble_eq_true rfl, Nat.le_of_ble_eq_true rfl⟩) (va_recv hK.1 hP (ci := 6) (q0 := 0) rfl rfl) hP hD hK [0, 1, 2, 3, 4, 5, 6, 7] [] rfl rfl (by decide) (by decide) (by decide) rfl hl.1 (Nat.le_of_ble_eq_true rfl) dX6_takesBowls_194 ⟨Nat.le_of_ble_eq_true rfl, Nat.le_of_ble_eq_true rfl⟩ hS hA (fun u H locs hw hP hD hS => ?_)
          have hw := hw.symm
          subst hw
          have hP : va_P (dC, dI) vwCl (cM cyI a o13) H := hP
          have hD : va_D A (cM cyI a o13) := hD
          refine lv_aload_n hx hb dX6_takesBowls_197 rfl (lv_at hl 0 rfl) ?_
          obtain ⟨o15, h16, hF⟩ := obd hF
          refine wcWVv (As := []) (rest := []) (wr := []) (b := (a 0)) ⟨hx, hb, hml, hown, hts⟩ (met_X6_laysOrder l dC dI cyI cyO cyL a _ N o13  o15 h16) (cwV 0 hts (gV w_methodLink_X6_85 w_instanceMethod_X6_laysOrder w_selects_X6_laysOrder w_initialized_X6 w_code_X6_laysOrder) rfl rfl rfl (by decide +kernel) ⟨Nat.le_of_ble_eq_true rfl, Nat.le_of_ble_eq_true rfl⟩) (va_recv hK.1 hP (ci := 6) (q0 := 0) rfl rfl) hP hD hK [0, 1, 2, 3, 4, 5, 6, 7] [] rfl rfl (by decide) (by decide) (by decide) rfl hl.1 (Nat.le_of_ble_eq_true rfl) dX6_takesBowls_198 ⟨Nat.le_of_ble_eq_true rfl, Nat.le_of_ble_eq_true rfl⟩ hS hA (fun u H locs hw hP hD hS => ?_)
          have hw := hw.symm
          subst hw
          have hP : va_P (dC, dI) vwCl (cM cyI a o15) H := hP
          have hD : va_D A (cM cyI a o15) := hD
          refine lv_iconst (v := 0) hx hb dX6_takesBowls_201 (by decide) ?_
          refine lv_istore_n (lv' := [(2, .int (0 : Int32)), (0, .ref (a 0)), (1, .int o3.1)]) hx hb dX6_takesBowls_202 rfl hl (by decide) rfl (fun ls hl => ?_)
          obtain ⟨st203, hst203, hF⟩ := lpN_use hF
          have hL203 : ∀ (n : Nat) (s203 : Int32 × MV) (H : Heap) (locs : List Loc) (ls : Array Slot), va_P (dC, dI) vwCl (cM cyI a s203.2) H → va_D A (cM cyI a s203.2) → va_S A s.heap H locs → lv_has ls 3 [(0, .ref (a 0)), (2, .int s203.1)] → lpN st203 n s203 = some out → W p l e (headSpec (Cond.code yX6_takesBowls cX6_takesBowls 3 none :: wT) ({ frames := 4, cells := 0, slots := 0, locals := 92 } : Room)).room s m ([.ref (a 0)] : List Value).toArray below meth c H locs 0 0 (MQ below (va_Qv (fun (u : MV) => u = out) (fun u t => va_P (dC, dI) vwCl (cM cyI a u) t.heap ∧ va_D A (cM cyI a u)) A) ([.ref (a 0)] : List Value).toArray s 0 0 A) (F0 m 203 ls []) := by
            intro n
            induction n with
            | zero => intro s203 H locs ls hP hD hS hl hF; exact lpN_0 hF
            | succ n ih203 =>
              intro s203 H locs ls hP hD hS hl hF
              have hF := (congrFun (congrFun hst203 s203) (lpN st203 n)).symm.trans (lpN_s hF)
              refine lv_iload_n hx hb dX6_takesBowls_203 rfl (lv_at hl 1 rfl) ?_
              refine lv_aload_n hx hb dX6_takesBowls_204 rfl (lv_at hl 0 rfl) ?_
              refine va_get (D := (dC, dI)) (ci := 6) (v := .int (M_orderMany s203.2)) (C := RX6) (T := TX6) (N := 23) hx hb hts inX6 hown hK.1 hP 0 rfl rfl 12 (by decide) (hts _ w_fieldLink_X6_78) (fun _ h9 => h9) rfl dX6_takesBowls_205 ?_
              refine lv_icmp_ge (tgt := 228) hx hb dX6_takesBowls_208 (by decide) (fun c17 => ?_) (fun c17 => ?_)
              · have hF := itp c17 hF
                refine lv_aload_n hx hb dX6_takesBowls_228 rfl (lv_at hl 0 rfl) ?_
                refine lv_aload_n hx hb dX6_takesBowls_229 rfl (lv_at hl 0 rfl) ?_
                refine lv_iconst (v := 0) hx hb dX6_takesBowls_230 (by decide) ?_
                obtain ⟨o18, h19, hF⟩ := obd hF
                refine wcRVi (As := [.int (0 : Int32)]) (rest := [.ref (a 0)]) (b := (a 0)) ⟨hx, hb, hml, hown, hts⟩ (met_X6_alive l dC dI cyI cyO cyL a N s203.2 (0 : Int32) o18 h19) (cwV 1 hts (gV w_methodLink_X6_204 w_instanceMethod_X6_alive w_selects_X6_alive w_initialized_X6 w_code_X6_alive) rfl rfl rfl (by decide +kernel) ⟨Nat.le_of_ble_eq_true rfl, Nat.le_of_ble_eq_true rfl⟩) (va_recv hK.1 hP (ci := 6) (q0 := 0) rfl rfl) hP hK [0, 1, 2, 3, 4, 5, 6, 7] rfl rfl hl.1 (Nat.le_of_ble_eq_true rfl) dX6_takesBowls_231 ⟨Nat.le_of_ble_eq_true rfl, Nat.le_of_ble_eq_true rfl⟩ hS (fun r H locs hw hP hS => ?_)
                have hw := hw.symm
                subst hw
                refine lv_i2l (v := (o18).toInt64) hx hb dX6_takesBowls_234 rfl ?_
                obtain ⟨o20, h21, hF⟩ := obd hF
                refine wcWVv (As := [.long ((o18).toInt64)]) (rest := []) (wr := []) (b := (a 0)) ⟨hx, hb, hml, hown, hts⟩ (met_X6_takesIn l dC dI cyI cyO cyL a _ N s203.2 ((o18).toInt64) o20 h21) (cwV 1 hts (gV w_methodLink_X6_251 w_instanceMethod_X6_takesIn w_selects_X6_takesIn w_initialized_X6 w_code_X6_takesIn) rfl rfl rfl (by decide +kernel) ⟨Nat.le_of_ble_eq_true rfl, Nat.le_of_ble_eq_true rfl⟩) (va_recv hK.1 hP (ci := 6) (q0 := 0) rfl rfl) hP hD hK [0, 1, 2, 3, 4, 5, 6, 7] [] rfl rfl (by decide) (by decide) (by decide) rfl hl.1 (Nat.le_of_ble_eq_true rfl) dX6_takesBowls_235 ⟨Nat.le_of_ble_eq_true rfl, Nat.le_of_ble_eq_true rfl⟩ hS hA (fun u H locs hw hP hD hS => ?_)
                have hw := hw.symm
                subst hw
                have hP : va_P (dC, dI) vwCl (cM cyI a o20) H := hP
                have hD : va_D A (cM cyI a o20) := hD
                refine lv_aload_n hx hb dX6_takesBowls_238 rfl (lv_at hl 0 rfl) ?_
                refine lv_aload_n hx hb dX6_takesBowls_239 rfl (lv_at hl 0 rfl) ?_
                refine lv_iconst (v := 1) hx hb dX6_takesBowls_240 (by decide) ?_
                obtain ⟨o22, h23, hF⟩ := obd hF
                refine wcRVi (As := [.int (1 : Int32)]) (rest := [.ref (a 0)]) (b := (a 0)) ⟨hx, hb, hml, hown, hts⟩ (met_X6_alive l dC dI cyI cyO cyL a N o20 (1 : Int32) o22 h23) (cwV 1 hts (gV w_methodLink_X6_204 w_instanceMethod_X6_alive w_selects_X6_alive w_initialized_X6 w_code_X6_alive) rfl rfl rfl (by decide +kernel) ⟨Nat.le_of_ble_eq_true rfl, Nat.le_of_ble_eq_true rfl⟩) (va_recv hK.1 hP (ci := 6) (q0 := 0) rfl rfl) hP hK [0, 1, 2, 3, 4, 5, 6, 7] rfl rfl hl.1 (Nat.le_of_ble_eq_true rfl) dX6_takesBowls_241 ⟨Nat.le_of_ble_eq_true rfl, Nat.le_of_ble_eq_true rfl⟩ hS (fun r H locs hw hP hS => ?_)
                have hw := hw.symm
                subst hw
                refine lv_i2l (v := (o22).toInt64) hx hb dX6_takesBowls_244 rfl ?_
                obtain ⟨o24, h25, hF⟩ := obd hF
                refine wcWVv (As := [.long ((o22).toInt64)]) (rest := []) (wr := []) (b := (a 0)) ⟨hx, hb, hml, hown, hts⟩ (met_X6_takesIn l dC dI cyI cyO cyL a _ N o20 ((o22).toInt64) o24 h25) (cwV 1 hts (gV w_methodLink_X6_251 w_instanceMethod_X6_takesIn w_selects_X6_takesIn w_initialized_X6 w_code_X6_takesIn) rfl rfl rfl (by decide +kernel) ⟨Nat.le_of_ble_eq_true rfl, Nat.le_of_ble_eq_true rfl⟩) (va_recv hK.1 hP (ci := 6) (q0 := 0) rfl rfl) hP hD hK [0, 1, 2, 3, 4, 5, 6, 7] [] rfl rfl (by decide) (by decide) (by decide) rfl hl.1 (Nat.le_of_ble_eq_true rfl) dX6_takesBowls_245 ⟨Nat.le_of_ble_eq_true rfl, Nat.le_of_ble_eq_true rfl⟩ hS hA (fun u H locs hw hP hD hS => ?_)
                have hw := hw.symm
                subst hw
                have hP : va_P (dC, dI) vwCl (cM cyI a o24) H := hP
                have hD : va_D A (cM cyI a o24) := hD
                refine lv_aload_n hx hb dX6_takesBowls_248 rfl (lv_at hl 0 rfl) ?_
                refine lv_aload_n hx hb dX6_takesBowls_249 rfl (lv_at hl 0 rfl) ?_
                obtain ⟨o26, h27, hF⟩ := obd hF
                refine wcRVi (As := []) (rest := [.ref (a 0)]) (b := (a 0)) ⟨hx, hb, hml, hown, hts⟩ (met_X6_hasGap l dC dI cyI cyO cyL a N o24  o26 h27) (cwV 0 hts (gV w_methodLink_X6_207 w_instanceMethod_X6_hasGap w_selects_X6_hasGap w_initialized_X6 w_code_X6_hasGap) rfl rfl rfl (by decide +kernel) ⟨Nat.le_of_ble_eq_true rfl, Nat.le_of_ble_eq_true rfl⟩) (va_recv hK.1 hP (ci := 6) (q0 := 0) rfl rfl) hP hK [0, 1, 2, 3, 4, 5, 6, 7] rfl rfl hl.1 (Nat.le_of_ble_eq_true rfl) dX6_takesBowls_250 ⟨Nat.le_of_ble_eq_true rfl, Nat.le_of_ble_eq_true rfl⟩ hS (fun r H locs hw hP hS => ?_)
                obtain ⟨hw, hz28⟩ := hw
                have hw := hw.symm
                subst hw
                obtain ⟨j277, hj277, hF⟩ := jn_use hF
                have hJ277 : ∀ (s277 : Int64) (H : Heap) (locs : List Loc) (ls : Array Slot), va_P (dC, dI) vwCl (cM cyI a o24) H → va_D A (cM cyI a o24) → va_S A s.heap H locs → lv_has ls 3 [(0, .ref (a 0))] → j277 s277 = some out → W p l e (headSpec (Cond.code yX6_takesBowls cX6_takesBowls 3 none :: wT) ({ frames := 4, cells := 0, slots := 0, locals := 92 } : Room)).room s m ([.ref (a 0)] : List Value).toArray below meth c H locs 0 0 (MQ below (va_Qv (fun (u : MV) => u = out) (fun u t => va_P (dC, dI) vwCl (cM cyI a u) t.heap ∧ va_D A (cM cyI a u)) A) ([.ref (a 0)] : List Value).toArray s 0 0 A) (F0 m 277 ls [.long s277, .ref (a 0)]) := by
                  intro s277 H locs ls hP hD hS hl hF
                  have hF := (congrFun hj277 s277).symm.trans hF
                  obtain ⟨o29, h30, hF⟩ := obd hF
                  refine wcWVv (As := [.long s277]) (rest := []) (wr := []) (b := (a 0)) ⟨hx, hb, hml, hown, hts⟩ (met_X6_takesIn l dC dI cyI cyO cyL a _ N o24 s277 o29 h30) (cwV 1 hts (gV w_methodLink_X6_251 w_instanceMethod_X6_takesIn w_selects_X6_takesIn w_initialized_X6 w_code_X6_takesIn) rfl rfl rfl (by decide +kernel) ⟨Nat.le_of_ble_eq_true rfl, Nat.le_of_ble_eq_true rfl⟩) (va_recv hK.1 hP (ci := 6) (q0 := 0) rfl rfl) hP hD hK [0, 1, 2, 3, 4, 5, 6, 7] [] rfl rfl (by decide) (by decide) (by decide) rfl hl.1 (Nat.le_of_ble_eq_true rfl) dX6_takesBowls_277 ⟨Nat.le_of_ble_eq_true rfl, Nat.le_of_ble_eq_true rfl⟩ hS hA (fun u H locs hw hP hD hS => ?_)
                  have hw := hw.symm
                  subst hw
                  have hP : va_P (dC, dI) vwCl (cM cyI a o29) H := hP
                  have hD : va_D A (cM cyI a o29) := hD
                  refine lv_aload_n hx hb dX6_takesBowls_280 rfl (lv_at hl 0 rfl) ?_
                  refine lv_aload_n hx hb dX6_takesBowls_281 rfl (lv_at hl 0 rfl) ?_
                  obtain ⟨o31, h32, hF⟩ := obd hF
                  refine wcRVi (As := []) (rest := [.ref (a 0)]) (b := (a 0)) ⟨hx, hb, hml, hown, hts⟩ (met_X6_widest l dC dI cyI cyO cyL a N o29  o31 h32) (cwV 0 hts (gV w_methodLink_X6_213 w_instanceMethod_X6_widest w_selects_X6_widest w_initialized_X6 w_code_X6_widest) rfl rfl rfl (by decide +kernel) ⟨Nat.le_of_ble_eq_true rfl, Nat.le_of_ble_eq_true rfl⟩) (va_recv hK.1 hP (ci := 6) (q0 := 0) rfl rfl) hP hK [0, 1, 2, 3, 4, 5, 6, 7] rfl rfl hl.1 (Nat.le_of_ble_eq_true rfl) dX6_takesBowls_282 ⟨Nat.le_of_ble_eq_true rfl, Nat.le_of_ble_eq_true rfl⟩ hS (fun r H locs hw hP hS => ?_)
                  have hw := hw.symm
                  subst hw
                  refine lv_i2l (v := (o31).toInt64) hx hb dX6_takesBowls_285 rfl ?_
                  obtain ⟨o33, h34, hF⟩ := obd hF
                  refine wcWVv (As := [.long ((o31).toInt64)]) (rest := []) (wr := []) (b := (a 0)) ⟨hx, hb, hml, hown, hts⟩ (met_X6_takesIn l dC dI cyI cyO cyL a _ N o29 ((o31).toInt64) o33 h34) (cwV 1 hts (gV w_methodLink_X6_251 w_instanceMethod_X6_takesIn w_selects_X6_takesIn w_initialized_X6 w_code_X6_takesIn) rfl rfl rfl (by decide +kernel) ⟨Nat.le_of_ble_eq_true rfl, Nat.le_of_ble_eq_true rfl⟩) (va_recv hK.1 hP (ci := 6) (q0 := 0) rfl rfl) hP hD hK [0, 1, 2, 3, 4, 5, 6, 7] [] rfl rfl (by decide) (by decide) (by decide) rfl hl.1 (Nat.le_of_ble_eq_true rfl) dX6_takesBowls_286 ⟨Nat.le_of_ble_eq_true rfl, Nat.le_of_ble_eq_true rfl⟩ hS hA (fun u H locs hw hP hD hS => ?_)
                  have hw := hw.symm
                  subst hw
                  have hP : va_P (dC, dI) vwCl (cM cyI a o33) H := hP
                  have hD : va_D A (cM cyI a o33) := hD
                  exact W.vret hx hb hr (fun t ht hW => ⟨⟨_, rfl, Option.some.inj hF, by rw [ht]; exact hP, hD⟩, hS.F ht⟩) hS.2.2 dX6_takesBowls_289
                refine lv_if_eq (tgt := 276) hx hb dX6_takesBowls_253 (by decide) (fun c35 => ?_) (fun c35 => ?_)
                · have hF := itp c35 hF
                  refine lv_lconst (v := 0) hx hb dX6_takesBowls_276 (by decide) ?_
                  exact hJ277 (0 : Int64) _ _ _ hP hD hS (lv_sub hl [0] rfl) hF
                · have hF := itn c35 hF
                  refine lv_aload_n hx hb dX6_takesBowls_256 rfl (lv_at hl 0 rfl) ?_
                  refine lv_iconst (v := 0) hx hb dX6_takesBowls_257 (by decide) ?_
                  obtain ⟨o36, h37, hF⟩ := obd hF
                  refine wcRVi (As := [.int (0 : Int32)]) (rest := [.ref (a 0)]) (b := (a 0)) ⟨hx, hb, hml, hown, hts⟩ (met_X6_least l dC dI cyI cyO cyL a N o24 (0 : Int32) o36 h37) (cwV 1 hts (gV w_methodLink_X6_210 w_instanceMethod_X6_least w_selects_X6_least w_initialized_X6 w_code_X6_least) rfl rfl rfl (by decide +kernel) ⟨Nat.le_of_ble_eq_true rfl, Nat.le_of_ble_eq_true rfl⟩) (va_recv hK.1 hP (ci := 6) (q0 := 0) rfl rfl) hP hK [0, 1, 2, 3, 4, 5, 6, 7] rfl rfl hl.1 (Nat.le_of_ble_eq_true rfl) dX6_takesBowls_258 ⟨Nat.le_of_ble_eq_true rfl, Nat.le_of_ble_eq_true rfl⟩ hS (fun r H locs hw hP hS => ?_)
                  have hw := hw.symm
                  subst hw
                  refine lv_aload_n hx hb dX6_takesBowls_261 rfl (lv_at hl 0 rfl) ?_
                  refine lv_iconst (v := 1) hx hb dX6_takesBowls_262 (by decide) ?_
                  obtain ⟨o38, h39, hF⟩ := obd hF
                  refine wcRVi (As := [.int (1 : Int32)]) (rest := [.int o36, .ref (a 0)]) (b := (a 0)) ⟨hx, hb, hml, hown, hts⟩ (met_X6_least l dC dI cyI cyO cyL a N o24 (1 : Int32) o38 h39) (cwV 1 hts (gV w_methodLink_X6_210 w_instanceMethod_X6_least w_selects_X6_least w_initialized_X6 w_code_X6_least) rfl rfl rfl (by decide +kernel) ⟨Nat.le_of_ble_eq_true rfl, Nat.le_of_ble_eq_true rfl⟩) (va_recv hK.1 hP (ci := 6) (q0 := 0) rfl rfl) hP hK [0, 1, 2, 3, 4, 5, 6, 7] rfl rfl hl.1 (Nat.le_of_ble_eq_true rfl) dX6_takesBowls_263 ⟨Nat.le_of_ble_eq_true rfl, Nat.le_of_ble_eq_true rfl⟩ hS (fun r H locs hw hP hS => ?_)
                  have hw := hw.symm
                  subst hw
                  refine lv_isub hx hb dX6_takesBowls_266 ?_
                  obtain ⟨o40, h41, hF⟩ := obd hF
                  refine wcRSi (As := [.int (o36 - o38)]) (rest := [.ref (a 0)]) ⟨hx, hb, hml, hown, hts⟩ (met_X6_abs l dC dI cyI cyO cyL  N  (o36 - o38) o40 h41) (va_cwS 1 hts (gS w_methodLink_X6_101 w_static_X6_abs w_initialized_X6 w_code_X6_abs) rfl rfl rfl (by decide +kernel) ⟨Nat.le_of_ble_eq_true rfl, Nat.le_of_ble_eq_true rfl⟩) hP hK [] rfl rfl hl.1 (Nat.le_of_ble_eq_true rfl) dX6_takesBowls_267 ⟨Nat.le_of_ble_eq_true rfl, Nat.le_of_ble_eq_true rfl⟩ hS (fun r H locs hw hP hS => ?_)
                  have hw := hw.symm
                  subst hw
                  refine lv_i2l (v := (o40).toInt64) hx hb dX6_takesBowls_270 rfl ?_
                  refine lv_lconst (v := 1) hx hb dX6_takesBowls_271 (by decide) ?_
                  refine lv_ladd hx hb dX6_takesBowls_272 ?_
                  refine lv_goto (tgt := 277) hx hb dX6_takesBowls_273 (by decide) ?_
                  exact hJ277 (((o40).toInt64) + (1 : Int64)) _ _ _ hP hD hS (lv_sub hl [0] rfl) hF
              · have hF := itn c17 hF
                refine lv_aload_n hx hb dX6_takesBowls_211 rfl (lv_at hl 0 rfl) ?_
                refine lv_aload_n hx hb dX6_takesBowls_212 rfl (lv_at hl 0 rfl) ?_
                refine va_get (D := (dC, dI)) (ci := 6) (v := .ref (a 7)) (C := RX6) (T := TX6) (N := 23) hx hb hts inX6 hown hK.1 hP 0 rfl rfl 11 (by decide) (hts _ w_fieldLink_X6_28) (fun _ h9 => h9) rfl dX6_takesBowls_213 ?_
                refine lv_iload_n hx hb dX6_takesBowls_216 rfl (lv_at hl 1 rfl) ?_
                obtain ⟨hg42, hF⟩ := gd_use hF
                refine va_iald hx hb hK.1 hP 7 0 rfl rfl (i := s203.1) hg42 dX6_takesBowls_217 ?_
                refine lv_i2l (v := ((M_order s203.2) s203.1.toNatClampNeg).toInt64) hx hb dX6_takesBowls_218 rfl ?_
                obtain ⟨o43, h44, hF⟩ := obd hF
                refine wcWVv (As := [.long (((M_order s203.2) s203.1.toNatClampNeg).toInt64)]) (rest := []) (wr := []) (b := (a 0)) ⟨hx, hb, hml, hown, hts⟩ (met_X6_takesIn l dC dI cyI cyO cyL a _ N s203.2 (((M_order s203.2) s203.1.toNatClampNeg).toInt64) o43 h44) (cwV 1 hts (gV w_methodLink_X6_251 w_instanceMethod_X6_takesIn w_selects_X6_takesIn w_initialized_X6 w_code_X6_takesIn) rfl rfl rfl (by decide +kernel) ⟨Nat.le_of_ble_eq_true rfl, Nat.le_of_ble_eq_true rfl⟩) (va_recv hK.1 hP (ci := 6) (q0 := 0) rfl rfl) hP hD hK [0, 1, 2, 3, 4, 5, 6, 7] [] rfl rfl (by decide) (by decide) (by decide) rfl hl.1 (Nat.le_of_ble_eq_true rfl) dX6_takesBowls_219 ⟨Nat.le_of_ble_eq_true rfl, Nat.le_of_ble_eq_true rfl⟩ hS hA (fun u H locs hw hP hD hS => ?_)
                have hw := hw.symm
                subst hw
                have hP : va_P (dC, dI) vwCl (cM cyI a o43) H := hP
                have hD : va_D A (cM cyI a o43) := hD
                refine lv_iinc (v := (s203.1 + (1 : Int32))) (lv' := [(2, .int (s203.1 + (1 : Int32))), (0, .ref (a 0))]) hx hb dX6_takesBowls_222 hl (k := 1) rfl rfl (by decide) rfl (fun ls hl => ?_)
                refine lv_goto (tgt := 203) hx hb dX6_takesBowls_225 (by decide) ?_
                exact ih203 ((s203.1 + (1 : Int32)), o43) _ _ _ hP hD hS (lv_sub hl [1, 0] rfl) hF
          exact hL203 N ((0 : Int32), o15) _ _ _ hP hD hS (lv_sub hl [1, 0] rfl) hF
        refine lv_if_ne (tgt := 165) hx hb dX6_takesBowls_158 (by decide) (fun c45 => ?_) (fun c45 => ?_)
        · have hF := itn c45 hF
          refine lv_iload_n hx hb dX6_takesBowls_165 rfl (lv_at hl 0 rfl) ?_
          refine lv_if_le (tgt := 173) hx hb dX6_takesBowls_166 (by decide) (fun c46 => ?_) (fun c46 => ?_)
          · have hF := itp c46 hF
            refine lv_ldc2 (v := 2) hx hb hown (hts _ w_constantLong_X6_255) dX6_takesBowls_173 ?_
            exact hJ176 (2 : Int64) _ _ _ hP hD hS (lv_sub hl [1, 0] rfl) hF
          · have hF := itn c46 hF
            refine lv_lconst (v := 1) hx hb dX6_takesBowls_169 (by decide) ?_
            refine lv_goto (tgt := 176) hx hb dX6_takesBowls_170 (by decide) ?_
            exact hJ176 (1 : Int64) _ _ _ hP hD hS (lv_sub hl [1, 0] rfl) hF
        · have hF := itp c45 hF
          refine lv_lconst (v := 0) hx hb dX6_takesBowls_161 (by decide) ?_
          refine lv_goto (tgt := 176) hx hb dX6_takesBowls_162 (by decide) ?_
          exact hJ176 (0 : Int64) _ _ _ hP hD hS (lv_sub hl [1, 0] rfl) hF
      · have hF := itn c2 hF
        refine lv_aload_n hx hb dX6_takesBowls_12 rfl (lv_at hl 0 rfl) ?_
        refine lv_iload_n hx hb dX6_takesBowls_13 rfl (lv_at hl 1 rfl) ?_
        refine lv_iconst (v := 0) hx hb dX6_takesBowls_14 (by decide) ?_
        obtain ⟨o47, h48, hF⟩ := obd hF
        refine wcRVi (As := [.int s2.1, .int (0 : Int32)]) (rest := []) (b := (a 0)) ⟨hx, hb, hml, hown, hts⟩ (met_X6_of l dC dI cyI cyO cyL a N s2.2 s2.1 (0 : Int32) o47 h48) (cwV 2 hts (gV w_methodLink_X6_42 w_instanceMethod_X6_of w_selects_X6_of w_initialized_X6 w_code_X6_of) rfl rfl rfl (by decide +kernel) ⟨Nat.le_of_ble_eq_true rfl, Nat.le_of_ble_eq_true rfl⟩) (va_recv hK.1 hP (ci := 6) (q0 := 0) rfl rfl) hP hK [0, 1, 2, 3, 4, 5, 6, 7] rfl rfl hl.1 (Nat.le_of_ble_eq_true rfl) dX6_takesBowls_15 ⟨Nat.le_of_ble_eq_true rfl, Nat.le_of_ble_eq_true rfl⟩ hS (fun r H locs hw hP hS => ?_)
        have hw := hw.symm
        subst hw
        refine lv_iconst (v := 2) hx hb dX6_takesBowls_18 (by decide) ?_
        obtain ⟨j27, hj27, hF⟩ := jn_use hF
        have hJ27 : ∀ (s27 : Int32) (H : Heap) (locs : List Loc) (ls : Array Slot) (hz_27_s0 : b01 s27), va_P (dC, dI) vwCl (cM cyI a s2.2) H → va_D A (cM cyI a s2.2) → va_S A s.heap H locs → lv_has ls 3 [(0, .ref (a 0)), (1, .int s2.1)] → j27 s27 = some out → W p l e (headSpec (Cond.code yX6_takesBowls cX6_takesBowls 3 none :: wT) ({ frames := 4, cells := 0, slots := 0, locals := 92 } : Room)).room s m ([.ref (a 0)] : List Value).toArray below meth c H locs 0 0 (MQ below (va_Qv (fun (u : MV) => u = out) (fun u t => va_P (dC, dI) vwCl (cM cyI a u) t.heap ∧ va_D A (cM cyI a u)) A) ([.ref (a 0)] : List Value).toArray s 0 0 A) (F0 m 27 ls [.int s27]) := by
          intro s27 H locs ls hz_27_s0 hP hD hS hl hF
          have hF := (congrFun hj27 s27).symm.trans hF
          refine lv_istore_n (lv' := [(2, .int s27), (0, .ref (a 0)), (1, .int s2.1)]) hx hb dX6_takesBowls_27 rfl hl (by decide) rfl (fun ls hl => ?_)
          refine lv_aload_n hx hb dX6_takesBowls_28 rfl (lv_at hl 1 rfl) ?_
          refine lv_aload_n hx hb dX6_takesBowls_29 rfl (lv_at hl 1 rfl) ?_
          refine lv_iload_n hx hb dX6_takesBowls_30 rfl (lv_at hl 2 rfl) ?_
          obtain ⟨o49, h50, hF⟩ := obd hF
          refine wcRVi (As := [.int s2.1]) (rest := [.ref (a 0)]) (b := (a 0)) ⟨hx, hb, hml, hown, hts⟩ (met_X6_sideNow l dC dI cyI cyO cyL a N s2.2 s2.1 o49 h50) (cwV 1 hts (gV w_methodLink_X6_88 w_instanceMethod_X6_sideNow w_selects_X6_sideNow w_initialized_X6 w_code_X6_sideNow) rfl rfl rfl (by decide +kernel) ⟨Nat.le_of_ble_eq_true rfl, Nat.le_of_ble_eq_true rfl⟩) (va_recv hK.1 hP (ci := 6) (q0 := 0) rfl rfl) hP hK [0, 1, 2, 3, 4, 5, 6, 7] rfl rfl hl.1 (Nat.le_of_ble_eq_true rfl) dX6_takesBowls_31 ⟨Nat.le_of_ble_eq_true rfl, Nat.le_of_ble_eq_true rfl⟩ hS (fun r H locs hw hP hS => ?_)
          have hw := hw.symm
          subst hw
          refine lv_i2l (v := (o49).toInt64) hx hb dX6_takesBowls_34 rfl ?_
          obtain ⟨o51, h52, hF⟩ := obd hF
          refine wcWVv (As := [.long ((o49).toInt64)]) (rest := []) (wr := []) (b := (a 0)) ⟨hx, hb, hml, hown, hts⟩ (met_X6_takesIn l dC dI cyI cyO cyL a _ N s2.2 ((o49).toInt64) o51 h52) (cwV 1 hts (gV w_methodLink_X6_251 w_instanceMethod_X6_takesIn w_selects_X6_takesIn w_initialized_X6 w_code_X6_takesIn) rfl rfl rfl (by decide +kernel) ⟨Nat.le_of_ble_eq_true rfl, Nat.le_of_ble_eq_true rfl⟩) (va_recv hK.1 hP (ci := 6) (q0 := 0) rfl rfl) hP hD hK [0, 1, 2, 3, 4, 5, 6, 7] [] rfl rfl (by decide) (by decide) (by decide) rfl hl.1 (Nat.le_of_ble_eq_true rfl) dX6_takesBowls_35 ⟨Nat.le_of_ble_eq_true rfl, Nat.le_of_ble_eq_true rfl⟩ hS hA (fun u H locs hw hP hD hS => ?_)
          have hw := hw.symm
          subst hw
          have hP : va_P (dC, dI) vwCl (cM cyI a o51) H := hP
          have hD : va_D A (cM cyI a o51) := hD
          refine lv_aload_n hx hb dX6_takesBowls_38 rfl (lv_at hl 1 rfl) ?_
          refine lv_aload_n hx hb dX6_takesBowls_39 rfl (lv_at hl 1 rfl) ?_
          refine lv_iload_n hx hb dX6_takesBowls_40 rfl (lv_at hl 2 rfl) ?_
          refine lv_iconst (v := 0) hx hb dX6_takesBowls_41 (by decide) ?_
          obtain ⟨o53, h54, hF⟩ := obd hF
          refine wcRVi (As := [.int s2.1, .int (0 : Int32)]) (rest := [.ref (a 0)]) (b := (a 0)) ⟨hx, hb, hml, hown, hts⟩ (met_X6_of l dC dI cyI cyO cyL a N o51 s2.1 (0 : Int32) o53 h54) (cwV 2 hts (gV w_methodLink_X6_42 w_instanceMethod_X6_of w_selects_X6_of w_initialized_X6 w_code_X6_of) rfl rfl rfl (by decide +kernel) ⟨Nat.le_of_ble_eq_true rfl, Nat.le_of_ble_eq_true rfl⟩) (va_recv hK.1 hP (ci := 6) (q0 := 0) rfl rfl) hP hK [0, 1, 2, 3, 4, 5, 6, 7] rfl rfl hl.1 (Nat.le_of_ble_eq_true rfl) dX6_takesBowls_42 ⟨Nat.le_of_ble_eq_true rfl, Nat.le_of_ble_eq_true rfl⟩ hS (fun r H locs hw hP hS => ?_)
          have hw := hw.symm
          subst hw
          refine lv_i2l (v := (o53).toInt64) hx hb dX6_takesBowls_45 rfl ?_
          obtain ⟨o55, h56, hF⟩ := obd hF
          refine wcWVv (As := [.long ((o53).toInt64)]) (rest := []) (wr := []) (b := (a 0)) ⟨hx, hb, hml, hown, hts⟩ (met_X6_takesIn l dC dI cyI cyO cyL a _ N o51 ((o53).toInt64) o55 h56) (cwV 1 hts (gV w_methodLink_X6_251 w_instanceMethod_X6_takesIn w_selects_X6_takesIn w_initialized_X6 w_code_X6_takesIn) rfl rfl rfl (by decide +kernel) ⟨Nat.le_of_ble_eq_true rfl, Nat.le_of_ble_eq_true rfl⟩) (va_recv hK.1 hP (ci := 6) (q0 := 0) rfl rfl) hP hD hK [0, 1, 2, 3, 4, 5, 6, 7] [] rfl rfl (by decide) (by decide) (by decide) rfl hl.1 (Nat.le_of_ble_eq_true rfl) dX6_takesBowls_46 ⟨Nat.le_of_ble_eq_true rfl, Nat.le_of_ble_eq_true rfl⟩ hS hA (fun u H locs hw hP hD hS => ?_)
          have hw := hw.symm
          subst hw
          have hP : va_P (dC, dI) vwCl (cM cyI a o55) H := hP
          have hD : va_D A (cM cyI a o55) := hD
          refine lv_aload_n hx hb dX6_takesBowls_49 rfl (lv_at hl 1 rfl) ?_
          refine lv_iload_n hx hb dX6_takesBowls_50 rfl (lv_at hl 0 rfl) ?_
          obtain ⟨j77, hj77, hF⟩ := jn_use hF
          have hJ77 : ∀ (s77 : Int64) (H : Heap) (locs : List Loc) (ls : Array Slot), va_P (dC, dI) vwCl (cM cyI a o55) H → va_D A (cM cyI a o55) → va_S A s.heap H locs → lv_has ls 3 [(0, .ref (a 0)), (1, .int s2.1), (2, .int s27)] → j77 s77 = some out → W p l e (headSpec (Cond.code yX6_takesBowls cX6_takesBowls 3 none :: wT) ({ frames := 4, cells := 0, slots := 0, locals := 92 } : Room)).room s m ([.ref (a 0)] : List Value).toArray below meth c H locs 0 0 (MQ below (va_Qv (fun (u : MV) => u = out) (fun u t => va_P (dC, dI) vwCl (cM cyI a u) t.heap ∧ va_D A (cM cyI a u)) A) ([.ref (a 0)] : List Value).toArray s 0 0 A) (F0 m 77 ls [.long s77, .ref (a 0)]) := by
            intro s77 H locs ls hP hD hS hl hF
            have hF := (congrFun hj77 s77).symm.trans hF
            obtain ⟨o57, h58, hF⟩ := obd hF
            refine wcWVv (As := [.long s77]) (rest := []) (wr := []) (b := (a 0)) ⟨hx, hb, hml, hown, hts⟩ (met_X6_takesIn l dC dI cyI cyO cyL a _ N o55 s77 o57 h58) (cwV 1 hts (gV w_methodLink_X6_251 w_instanceMethod_X6_takesIn w_selects_X6_takesIn w_initialized_X6 w_code_X6_takesIn) rfl rfl rfl (by decide +kernel) ⟨Nat.le_of_ble_eq_true rfl, Nat.le_of_ble_eq_true rfl⟩) (va_recv hK.1 hP (ci := 6) (q0 := 0) rfl rfl) hP hD hK [0, 1, 2, 3, 4, 5, 6, 7] [] rfl rfl (by decide) (by decide) (by decide) rfl hl.1 (Nat.le_of_ble_eq_true rfl) dX6_takesBowls_77 ⟨Nat.le_of_ble_eq_true rfl, Nat.le_of_ble_eq_true rfl⟩ hS hA (fun u H locs hw hP hD hS => ?_)
            have hw := hw.symm
            subst hw
            have hP : va_P (dC, dI) vwCl (cM cyI a o57) H := hP
            have hD : va_D A (cM cyI a o57) := hD
            refine lv_aload_n hx hb dX6_takesBowls_80 rfl (lv_at hl 0 rfl) ?_
            refine lv_aload_n hx hb dX6_takesBowls_81 rfl (lv_at hl 0 rfl) ?_
            refine lv_iload_n hx hb dX6_takesBowls_82 rfl (lv_at hl 1 rfl) ?_
            refine lv_iconst (v := 3) hx hb dX6_takesBowls_83 (by decide) ?_
            obtain ⟨o59, h60, hF⟩ := obd hF
            refine wcRVi (As := [.int s2.1, .int (3 : Int32)]) (rest := [.ref (a 0)]) (b := (a 0)) ⟨hx, hb, hml, hown, hts⟩ (met_X6_of l dC dI cyI cyO cyL a N o57 s2.1 (3 : Int32) o59 h60) (cwV 2 hts (gV w_methodLink_X6_42 w_instanceMethod_X6_of w_selects_X6_of w_initialized_X6 w_code_X6_of) rfl rfl rfl (by decide +kernel) ⟨Nat.le_of_ble_eq_true rfl, Nat.le_of_ble_eq_true rfl⟩) (va_recv hK.1 hP (ci := 6) (q0 := 0) rfl rfl) hP hK [0, 1, 2, 3, 4, 5, 6, 7] rfl rfl hl.1 (Nat.le_of_ble_eq_true rfl) dX6_takesBowls_84 ⟨Nat.le_of_ble_eq_true rfl, Nat.le_of_ble_eq_true rfl⟩ hS (fun r H locs hw hP hS => ?_)
            have hw := hw.symm
            subst hw
            refine lv_i2l (v := (o59).toInt64) hx hb dX6_takesBowls_87 rfl ?_
            obtain ⟨o61, h62, hF⟩ := obd hF
            refine wcWVv (As := [.long ((o59).toInt64)]) (rest := []) (wr := []) (b := (a 0)) ⟨hx, hb, hml, hown, hts⟩ (met_X6_takesIn l dC dI cyI cyO cyL a _ N o57 ((o59).toInt64) o61 h62) (cwV 1 hts (gV w_methodLink_X6_251 w_instanceMethod_X6_takesIn w_selects_X6_takesIn w_initialized_X6 w_code_X6_takesIn) rfl rfl rfl (by decide +kernel) ⟨Nat.le_of_ble_eq_true rfl, Nat.le_of_ble_eq_true rfl⟩) (va_recv hK.1 hP (ci := 6) (q0 := 0) rfl rfl) hP hD hK [0, 1, 2, 3, 4, 5, 6, 7] [] rfl rfl (by decide) (by decide) (by decide) rfl hl.1 (Nat.le_of_ble_eq_true rfl) dX6_takesBowls_88 ⟨Nat.le_of_ble_eq_true rfl, Nat.le_of_ble_eq_true rfl⟩ hS hA (fun u H locs hw hP hD hS => ?_)
            have hw := hw.symm
            subst hw
            have hP : va_P (dC, dI) vwCl (cM cyI a o61) H := hP
            have hD : va_D A (cM cyI a o61) := hD
            refine lv_aload_n hx hb dX6_takesBowls_91 rfl (lv_at hl 0 rfl) ?_
            refine lv_iload_n hx hb dX6_takesBowls_92 rfl (lv_at hl 2 rfl) ?_
            obtain ⟨j108, hj108, hF⟩ := jn_use hF
            have hJ108 : ∀ (s108 : Int64) (H : Heap) (locs : List Loc) (ls : Array Slot), va_P (dC, dI) vwCl (cM cyI a o61) H → va_D A (cM cyI a o61) → va_S A s.heap H locs → lv_has ls 3 [(0, .ref (a 0)), (1, .int s2.1)] → j108 s108 = some out → W p l e (headSpec (Cond.code yX6_takesBowls cX6_takesBowls 3 none :: wT) ({ frames := 4, cells := 0, slots := 0, locals := 92 } : Room)).room s m ([.ref (a 0)] : List Value).toArray below meth c H locs 0 0 (MQ below (va_Qv (fun (u : MV) => u = out) (fun u t => va_P (dC, dI) vwCl (cM cyI a u) t.heap ∧ va_D A (cM cyI a u)) A) ([.ref (a 0)] : List Value).toArray s 0 0 A) (F0 m 108 ls [.long s108, .ref (a 0)]) := by
              intro s108 H locs ls hP hD hS hl hF
              have hF := (congrFun hj108 s108).symm.trans hF
              obtain ⟨o63, h64, hF⟩ := obd hF
              refine wcWVv (As := [.long s108]) (rest := []) (wr := []) (b := (a 0)) ⟨hx, hb, hml, hown, hts⟩ (met_X6_takesIn l dC dI cyI cyO cyL a _ N o61 s108 o63 h64) (cwV 1 hts (gV w_methodLink_X6_251 w_instanceMethod_X6_takesIn w_selects_X6_takesIn w_initialized_X6 w_code_X6_takesIn) rfl rfl rfl (by decide +kernel) ⟨Nat.le_of_ble_eq_true rfl, Nat.le_of_ble_eq_true rfl⟩) (va_recv hK.1 hP (ci := 6) (q0 := 0) rfl rfl) hP hD hK [0, 1, 2, 3, 4, 5, 6, 7] [] rfl rfl (by decide) (by decide) (by decide) rfl hl.1 (Nat.le_of_ble_eq_true rfl) dX6_takesBowls_108 ⟨Nat.le_of_ble_eq_true rfl, Nat.le_of_ble_eq_true rfl⟩ hS hA (fun u H locs hw hP hD hS => ?_)
              have hw := hw.symm
              subst hw
              have hP : va_P (dC, dI) vwCl (cM cyI a o63) H := hP
              have hD : va_D A (cM cyI a o63) := hD
              refine lv_aload_n hx hb dX6_takesBowls_111 rfl (lv_at hl 0 rfl) ?_
              refine lv_aload_n hx hb dX6_takesBowls_112 rfl (lv_at hl 0 rfl) ?_
              refine lv_iload_n hx hb dX6_takesBowls_113 rfl (lv_at hl 1 rfl) ?_
              refine lv_iconst (v := 4) hx hb dX6_takesBowls_114 (by decide) ?_
              obtain ⟨o65, h66, hF⟩ := obd hF
              refine wcRVi (As := [.int s2.1, .int (4 : Int32)]) (rest := [.ref (a 0)]) (b := (a 0)) ⟨hx, hb, hml, hown, hts⟩ (met_X6_of l dC dI cyI cyO cyL a N o63 s2.1 (4 : Int32) o65 h66) (cwV 2 hts (gV w_methodLink_X6_42 w_instanceMethod_X6_of w_selects_X6_of w_initialized_X6 w_code_X6_of) rfl rfl rfl (by decide +kernel) ⟨Nat.le_of_ble_eq_true rfl, Nat.le_of_ble_eq_true rfl⟩) (va_recv hK.1 hP (ci := 6) (q0 := 0) rfl rfl) hP hK [0, 1, 2, 3, 4, 5, 6, 7] rfl rfl hl.1 (Nat.le_of_ble_eq_true rfl) dX6_takesBowls_115 ⟨Nat.le_of_ble_eq_true rfl, Nat.le_of_ble_eq_true rfl⟩ hS (fun r H locs hw hP hS => ?_)
              have hw := hw.symm
              subst hw
              refine lv_i2l (v := (o65).toInt64) hx hb dX6_takesBowls_118 rfl ?_
              obtain ⟨o67, h68, hF⟩ := obd hF
              refine wcWVv (As := [.long ((o65).toInt64)]) (rest := []) (wr := []) (b := (a 0)) ⟨hx, hb, hml, hown, hts⟩ (met_X6_takesIn l dC dI cyI cyO cyL a _ N o63 ((o65).toInt64) o67 h68) (cwV 1 hts (gV w_methodLink_X6_251 w_instanceMethod_X6_takesIn w_selects_X6_takesIn w_initialized_X6 w_code_X6_takesIn) rfl rfl rfl (by decide +kernel) ⟨Nat.le_of_ble_eq_true rfl, Nat.le_of_ble_eq_true rfl⟩) (va_recv hK.1 hP (ci := 6) (q0 := 0) rfl rfl) hP hD hK [0, 1, 2, 3, 4, 5, 6, 7] [] rfl rfl (by decide) (by decide) (by decide) rfl hl.1 (Nat.le_of_ble_eq_true rfl) dX6_takesBowls_119 ⟨Nat.le_of_ble_eq_true rfl, Nat.le_of_ble_eq_true rfl⟩ hS hA (fun u H locs hw hP hD hS => ?_)
              have hw := hw.symm
              subst hw
              have hP : va_P (dC, dI) vwCl (cM cyI a o67) H := hP
              have hD : va_D A (cM cyI a o67) := hD
              refine lv_aload_n hx hb dX6_takesBowls_122 rfl (lv_at hl 0 rfl) ?_
              refine lv_aload_n hx hb dX6_takesBowls_123 rfl (lv_at hl 0 rfl) ?_
              refine lv_iload_n hx hb dX6_takesBowls_124 rfl (lv_at hl 1 rfl) ?_
              refine lv_iconst (v := 5) hx hb dX6_takesBowls_125 (by decide) ?_
              obtain ⟨o69, h70, hF⟩ := obd hF
              refine wcRVi (As := [.int s2.1, .int (5 : Int32)]) (rest := [.ref (a 0)]) (b := (a 0)) ⟨hx, hb, hml, hown, hts⟩ (met_X6_of l dC dI cyI cyO cyL a N o67 s2.1 (5 : Int32) o69 h70) (cwV 2 hts (gV w_methodLink_X6_42 w_instanceMethod_X6_of w_selects_X6_of w_initialized_X6 w_code_X6_of) rfl rfl rfl (by decide +kernel) ⟨Nat.le_of_ble_eq_true rfl, Nat.le_of_ble_eq_true rfl⟩) (va_recv hK.1 hP (ci := 6) (q0 := 0) rfl rfl) hP hK [0, 1, 2, 3, 4, 5, 6, 7] rfl rfl hl.1 (Nat.le_of_ble_eq_true rfl) dX6_takesBowls_126 ⟨Nat.le_of_ble_eq_true rfl, Nat.le_of_ble_eq_true rfl⟩ hS (fun r H locs hw hP hS => ?_)
              have hw := hw.symm
              subst hw
              refine lv_i2l (v := (o69).toInt64) hx hb dX6_takesBowls_129 rfl ?_
              obtain ⟨o71, h72, hF⟩ := obd hF
              refine wcWVv (As := [.long ((o69).toInt64)]) (rest := []) (wr := []) (b := (a 0)) ⟨hx, hb, hml, hown, hts⟩ (met_X6_takesIn l dC dI cyI cyO cyL a _ N o67 ((o69).toInt64) o71 h72) (cwV 1 hts (gV w_methodLink_X6_251 w_instanceMethod_X6_takesIn w_selects_X6_takesIn w_initialized_X6 w_code_X6_takesIn) rfl rfl rfl (by decide +kernel) ⟨Nat.le_of_ble_eq_true rfl, Nat.le_of_ble_eq_true rfl⟩) (va_recv hK.1 hP (ci := 6) (q0 := 0) rfl rfl) hP hD hK [0, 1, 2, 3, 4, 5, 6, 7] [] rfl rfl (by decide) (by decide) (by decide) rfl hl.1 (Nat.le_of_ble_eq_true rfl) dX6_takesBowls_130 ⟨Nat.le_of_ble_eq_true rfl, Nat.le_of_ble_eq_true rfl⟩ hS hA (fun u H locs hw hP hD hS => ?_)
              have hw := hw.symm
              subst hw
              have hP : va_P (dC, dI) vwCl (cM cyI a o71) H := hP
              have hD : va_D A (cM cyI a o71) := hD
              refine lv_aload_n hx hb dX6_takesBowls_133 rfl (lv_at hl 0 rfl) ?_
              refine lv_aload_n hx hb dX6_takesBowls_134 rfl (lv_at hl 0 rfl) ?_
              refine lv_iload_n hx hb dX6_takesBowls_135 rfl (lv_at hl 1 rfl) ?_
              refine lv_bipush (v := 6) hx hb dX6_takesBowls_136 (by decide) ?_
              obtain ⟨o73, h74, hF⟩ := obd hF
              refine wcRVi (As := [.int s2.1, .int (6 : Int32)]) (rest := [.ref (a 0)]) (b := (a 0)) ⟨hx, hb, hml, hown, hts⟩ (met_X6_of l dC dI cyI cyO cyL a N o71 s2.1 (6 : Int32) o73 h74) (cwV 2 hts (gV w_methodLink_X6_42 w_instanceMethod_X6_of w_selects_X6_of w_initialized_X6 w_code_X6_of) rfl rfl rfl (by decide +kernel) ⟨Nat.le_of_ble_eq_true rfl, Nat.le_of_ble_eq_true rfl⟩) (va_recv hK.1 hP (ci := 6) (q0 := 0) rfl rfl) hP hK [0, 1, 2, 3, 4, 5, 6, 7] rfl rfl hl.1 (Nat.le_of_ble_eq_true rfl) dX6_takesBowls_138 ⟨Nat.le_of_ble_eq_true rfl, Nat.le_of_ble_eq_true rfl⟩ hS (fun r H locs hw hP hS => ?_)
              have hw := hw.symm
              subst hw
              refine lv_i2l (v := (o73).toInt64) hx hb dX6_takesBowls_141 rfl ?_
              obtain ⟨o75, h76, hF⟩ := obd hF
              refine wcWVv (As := [.long ((o73).toInt64)]) (rest := []) (wr := []) (b := (a 0)) ⟨hx, hb, hml, hown, hts⟩ (met_X6_takesIn l dC dI cyI cyO cyL a _ N o71 ((o73).toInt64) o75 h76) (cwV 1 hts (gV w_methodLink_X6_251 w_instanceMethod_X6_takesIn w_selects_X6_takesIn w_initialized_X6 w_code_X6_takesIn) rfl rfl rfl (by decide +kernel) ⟨Nat.le_of_ble_eq_true rfl, Nat.le_of_ble_eq_true rfl⟩) (va_recv hK.1 hP (ci := 6) (q0 := 0) rfl rfl) hP hD hK [0, 1, 2, 3, 4, 5, 6, 7] [] rfl rfl (by decide) (by decide) (by decide) rfl hl.1 (Nat.le_of_ble_eq_true rfl) dX6_takesBowls_142 ⟨Nat.le_of_ble_eq_true rfl, Nat.le_of_ble_eq_true rfl⟩ hS hA (fun u H locs hw hP hD hS => ?_)
              have hw := hw.symm
              subst hw
              have hP : va_P (dC, dI) vwCl (cM cyI a o75) H := hP
              have hD : va_D A (cM cyI a o75) := hD
              refine lv_iinc (v := (s2.1 + (1 : Int32))) (lv' := [(1, .int (s2.1 + (1 : Int32))), (0, .ref (a 0))]) hx hb dX6_takesBowls_145 hl (k := 1) rfl rfl (by decide) rfl (fun ls hl => ?_)
              refine lv_goto (tgt := 2) hx hb dX6_takesBowls_148 (by decide) ?_
              exact ih2 ((s2.1 + (1 : Int32)), o75) _ _ _ hP hD hS (lv_sub hl [1, 0] rfl) hF
            refine lv_if_eq (tgt := 100) hx hb dX6_takesBowls_93 (by decide) (fun c77 => ?_) (fun c77 => ?_)
            · have hF := itp c77 hF
              refine lv_aload_n hx hb dX6_takesBowls_100 rfl (lv_at hl 0 rfl) ?_
              refine lv_iload_n hx hb dX6_takesBowls_101 rfl (lv_at hl 1 rfl) ?_
              obtain ⟨o78, h79, hF⟩ := obd hF
              refine wcRVi (As := [.int s2.1]) (rest := [.ref (a 0)]) (b := (a 0)) ⟨hx, hb, hml, hown, hts⟩ (met_X6_distance l dC dI cyI cyO cyL a N o61 s2.1 o78 h79) (cwV 1 hts (gV w_methodLink_X6_81 w_instanceMethod_X6_distance w_selects_X6_distance w_initialized_X6 w_code_X6_distance) rfl rfl rfl (by decide +kernel) ⟨Nat.le_of_ble_eq_true rfl, Nat.le_of_ble_eq_true rfl⟩) (va_recv hK.1 hP (ci := 6) (q0 := 0) rfl rfl) hP hK [0, 1, 2, 3, 4, 5, 6, 7] rfl rfl hl.1 (Nat.le_of_ble_eq_true rfl) dX6_takesBowls_102 ⟨Nat.le_of_ble_eq_true rfl, Nat.le_of_ble_eq_true rfl⟩ hS (fun r H locs hw hP hS => ?_)
              have hw := hw.symm
              subst hw
              refine lv_iconst (v := 1) hx hb dX6_takesBowls_105 (by decide) ?_
              refine lv_iadd hx hb dX6_takesBowls_106 ?_
              refine lv_i2l (v := (o78 + (1 : Int32)).toInt64) hx hb dX6_takesBowls_107 rfl ?_
              exact hJ108 ((o78 + (1 : Int32)).toInt64) _ _ _ hP hD hS (lv_sub hl [0, 1] rfl) hF
            · have hF := itn c77 hF
              refine lv_lconst (v := 0) hx hb dX6_takesBowls_96 (by decide) ?_
              refine lv_goto (tgt := 108) hx hb dX6_takesBowls_97 (by decide) ?_
              exact hJ108 (0 : Int64) _ _ _ hP hD hS (lv_sub hl [0, 1] rfl) hF
          refine lv_if_eq (tgt := 58) hx hb dX6_takesBowls_51 (by decide) (fun c80 => ?_) (fun c80 => ?_)
          · have hF := itp c80 hF
            refine lv_bipush (v := 21) hx hb dX6_takesBowls_58 (by decide) ?_
            refine lv_aload_n hx hb dX6_takesBowls_60 rfl (lv_at hl 1 rfl) ?_
            refine lv_iload_n hx hb dX6_takesBowls_61 rfl (lv_at hl 2 rfl) ?_
            refine lv_iconst (v := 1) hx hb dX6_takesBowls_62 (by decide) ?_
            obtain ⟨o81, h82, hF⟩ := obd hF
            refine wcRVi (As := [.int s2.1, .int (1 : Int32)]) (rest := [.int (21 : Int32), .ref (a 0)]) (b := (a 0)) ⟨hx, hb, hml, hown, hts⟩ (met_X6_of l dC dI cyI cyO cyL a N o55 s2.1 (1 : Int32) o81 h82) (cwV 2 hts (gV w_methodLink_X6_42 w_instanceMethod_X6_of w_selects_X6_of w_initialized_X6 w_code_X6_of) rfl rfl rfl (by decide +kernel) ⟨Nat.le_of_ble_eq_true rfl, Nat.le_of_ble_eq_true rfl⟩) (va_recv hK.1 hP (ci := 6) (q0 := 0) rfl rfl) hP hK [0, 1, 2, 3, 4, 5, 6, 7] rfl rfl hl.1 (Nat.le_of_ble_eq_true rfl) dX6_takesBowls_63 ⟨Nat.le_of_ble_eq_true rfl, Nat.le_of_ble_eq_true rfl⟩ hS (fun r H locs hw hP hS => ?_)
            have hw := hw.symm
            subst hw
            refine lv_imul hx hb dX6_takesBowls_66 ?_
            refine lv_aload_n hx hb dX6_takesBowls_67 rfl (lv_at hl 1 rfl) ?_
            refine lv_iload_n hx hb dX6_takesBowls_68 rfl (lv_at hl 2 rfl) ?_
            refine lv_iconst (v := 2) hx hb dX6_takesBowls_69 (by decide) ?_
            obtain ⟨o83, h84, hF⟩ := obd hF
            refine wcRVi (As := [.int s2.1, .int (2 : Int32)]) (rest := [.int ((21 : Int32) * o81), .ref (a 0)]) (b := (a 0)) ⟨hx, hb, hml, hown, hts⟩ (met_X6_of l dC dI cyI cyO cyL a N o55 s2.1 (2 : Int32) o83 h84) (cwV 2 hts (gV w_methodLink_X6_42 w_instanceMethod_X6_of w_selects_X6_of w_initialized_X6 w_code_X6_of) rfl rfl rfl (by decide +kernel) ⟨Nat.le_of_ble_eq_true rfl, Nat.le_of_ble_eq_true rfl⟩) (va_recv hK.1 hP (ci := 6) (q0 := 0) rfl rfl) hP hK [0, 1, 2, 3, 4, 5, 6, 7] rfl rfl hl.1 (Nat.le_of_ble_eq_true rfl) dX6_takesBowls_70 ⟨Nat.le_of_ble_eq_true rfl, Nat.le_of_ble_eq_true rfl⟩ hS (fun r H locs hw hP hS => ?_)
            have hw := hw.symm
            subst hw
            refine lv_iadd hx hb dX6_takesBowls_73 ?_
            refine lv_iconst (v := 1) hx hb dX6_takesBowls_74 (by decide) ?_
            refine lv_iadd hx hb dX6_takesBowls_75 ?_
            refine lv_i2l (v := ((((21 : Int32) * o81) + o83) + (1 : Int32)).toInt64) hx hb dX6_takesBowls_76 rfl ?_
            exact hJ77 (((((21 : Int32) * o81) + o83) + (1 : Int32)).toInt64) _ _ _ hP hD hS (lv_sub hl [1, 2, 0] rfl) hF
          · have hF := itn c80 hF
            refine lv_lconst (v := 0) hx hb dX6_takesBowls_54 (by decide) ?_
            refine lv_goto (tgt := 77) hx hb dX6_takesBowls_55 (by decide) ?_
            exact hJ77 (0 : Int64) _ _ _ hP hD hS (lv_sub hl [1, 2, 0] rfl) hF
        refine lv_icmp_ne (tgt := 26) hx hb dX6_takesBowls_19 (by decide) (fun c85 => ?_) (fun c85 => ?_)
        · have hF := itn c85 hF
          refine lv_iconst (v := 0) hx hb dX6_takesBowls_26 (by decide) ?_
          exact hJ27 (0 : Int32) _ _ _ b01_0 hP hD hS (lv_sub hl [0, 1] rfl) hF
        · have hF := itp c85 hF
          refine lv_iconst (v := 1) hx hb dX6_takesBowls_22 (by decide) ?_
          refine lv_goto (tgt := 27) hx hb dX6_takesBowls_23 (by decide) ?_
          exact hJ27 (1 : Int32) _ _ _ b01_1 hP hD hS (lv_sub hl [0, 1] rfl) hF
  exact hL2 N ((0 : Int32), v) _ _ _ hP hD hS (lv_sub hl [1, 0] rfl) hF
