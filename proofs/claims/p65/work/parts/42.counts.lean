/-! written by program from the bytecode: what each method computes, and its contract -/

theorem dL_areCountsSo_0 : decode cL_areCountsSo 0 = .ok (.iconst 0, 1) := by decide +kernel
theorem dL_areCountsSo_1 : decode cL_areCountsSo 1 = .ok (.istore_n 1, 1) := by decide +kernel
theorem dL_areCountsSo_2 : decode cL_areCountsSo 2 = .ok (.iconst 0, 1) := by decide +kernel
theorem dL_areCountsSo_3 : decode cL_areCountsSo 3 = .ok (.istore_n 2, 1) := by decide +kernel
theorem dL_areCountsSo_4 : decode cL_areCountsSo 4 = .ok (.iconst 0, 1) := by decide +kernel
theorem dL_areCountsSo_5 : decode cL_areCountsSo 5 = .ok (.istore_n 3, 1) := by decide +kernel
theorem dL_areCountsSo_6 : decode cL_areCountsSo 6 = .ok (.iconst 0, 1) := by decide +kernel
theorem dL_areCountsSo_7 : decode cL_areCountsSo 7 = .ok (.istore 4, 2) := by decide +kernel
theorem dL_areCountsSo_9 : decode cL_areCountsSo 9 = .ok (.aload_n 0, 1) := by decide +kernel
theorem dL_areCountsSo_10 : decode cL_areCountsSo 10 = .ok (.invokevirtual 167, 3) := by decide +kernel
theorem dL_areCountsSo_13 : decode cL_areCountsSo 13 = .ok (.aload_n 0, 1) := by decide +kernel
theorem dL_areCountsSo_14 : decode cL_areCountsSo 14 = .ok (.iconst 0, 1) := by decide +kernel
theorem dL_areCountsSo_15 : decode cL_areCountsSo 15 = .ok (.invokevirtual 170, 3) := by decide +kernel
theorem dL_areCountsSo_18 : decode cL_areCountsSo 18 = .ok (.if_icmp .gt 54, 3) := by decide +kernel
theorem dL_areCountsSo_21 : decode cL_areCountsSo 21 = .ok (.aload_n 0, 1) := by decide +kernel
theorem dL_areCountsSo_22 : decode cL_areCountsSo 22 = .ok (.invokevirtual 112, 3) := by decide +kernel
theorem dL_areCountsSo_25 : decode cL_areCountsSo 25 = .ok (.aload_n 0, 1) := by decide +kernel
theorem dL_areCountsSo_26 : decode cL_areCountsSo 26 = .ok (.invokevirtual 109, 3) := by decide +kernel
theorem dL_areCountsSo_29 : decode cL_areCountsSo 29 = .ok (.if_icmp .gt 43, 3) := by decide +kernel
theorem dL_areCountsSo_32 : decode cL_areCountsSo 32 = .ok (.aload_n 0, 1) := by decide +kernel
theorem dL_areCountsSo_33 : decode cL_areCountsSo 33 = .ok (.invokevirtual 173, 3) := by decide +kernel
theorem dL_areCountsSo_36 : decode cL_areCountsSo 36 = .ok (.aload_n 0, 1) := by decide +kernel
theorem dL_areCountsSo_37 : decode cL_areCountsSo 37 = .ok (.invokevirtual 121, 3) := by decide +kernel
theorem dL_areCountsSo_40 : decode cL_areCountsSo 40 = .ok (.if_icmp .gt 32, 3) := by decide +kernel
theorem dL_areCountsSo_43 : decode cL_areCountsSo 43 = .ok (.aload_n 0, 1) := by decide +kernel
theorem dL_areCountsSo_44 : decode cL_areCountsSo 44 = .ok (.invokevirtual 121, 3) := by decide +kernel
theorem dL_areCountsSo_47 : decode cL_areCountsSo 47 = .ok (.aload_n 0, 1) := by decide +kernel
theorem dL_areCountsSo_48 : decode cL_areCountsSo 48 = .ok (.invokevirtual 103, 3) := by decide +kernel
theorem dL_areCountsSo_51 : decode cL_areCountsSo 51 = .ok (.bipush 12, 2) := by decide +kernel
theorem dL_areCountsSo_53 : decode cL_areCountsSo 53 = .ok (.if_icmp .ge 10, 3) := by decide +kernel
theorem dL_areCountsSo_56 : decode cL_areCountsSo 56 = .ok (.aload_n 0, 1) := by decide +kernel
theorem dL_areCountsSo_57 : decode cL_areCountsSo 57 = .ok (.invokevirtual 103, 3) := by decide +kernel
theorem dL_areCountsSo_60 : decode cL_areCountsSo 60 = .ok (.goto 5, 3) := by decide +kernel
theorem dL_areCountsSo_63 : decode cL_areCountsSo 63 = .ok (.bipush 12, 2) := by decide +kernel
theorem dL_areCountsSo_65 : decode cL_areCountsSo 65 = .ok (.if_icmp .ne 7, 3) := by decide +kernel
theorem dL_areCountsSo_68 : decode cL_areCountsSo 68 = .ok (.iconst 1, 1) := by decide +kernel
theorem dL_areCountsSo_69 : decode cL_areCountsSo 69 = .ok (.goto 4, 3) := by decide +kernel
theorem dL_areCountsSo_72 : decode cL_areCountsSo 72 = .ok (.iconst 0, 1) := by decide +kernel
theorem dL_areCountsSo_73 : decode cL_areCountsSo 73 = .ok (.istore 5, 2) := by decide +kernel
theorem dL_areCountsSo_75 : decode cL_areCountsSo 75 = .ok (.bipush (-8), 2) := by decide +kernel
theorem dL_areCountsSo_77 : decode cL_areCountsSo 77 = .ok (.istore 6, 2) := by decide +kernel
theorem dL_areCountsSo_79 : decode cL_areCountsSo 79 = .ok (.iload 6, 2) := by decide +kernel
theorem dL_areCountsSo_81 : decode cL_areCountsSo 81 = .ok (.bipush 9, 2) := by decide +kernel
theorem dL_areCountsSo_83 : decode cL_areCountsSo 83 = .ok (.if_icmp .ge 60, 3) := by decide +kernel
theorem dL_areCountsSo_86 : decode cL_areCountsSo 86 = .ok (.iload_n 1, 1) := by decide +kernel
theorem dL_areCountsSo_87 : decode cL_areCountsSo 87 = .ok (.aload_n 0, 1) := by decide +kernel
theorem dL_areCountsSo_88 : decode cL_areCountsSo 88 = .ok (.iload 6, 2) := by decide +kernel
theorem dL_areCountsSo_90 : decode cL_areCountsSo 90 = .ok (.invokevirtual 170, 3) := by decide +kernel
theorem dL_areCountsSo_93 : decode cL_areCountsSo 93 = .ok (.iadd, 1) := by decide +kernel
theorem dL_areCountsSo_94 : decode cL_areCountsSo 94 = .ok (.istore_n 1, 1) := by decide +kernel
theorem dL_areCountsSo_95 : decode cL_areCountsSo 95 = .ok (.iload_n 2, 1) := by decide +kernel
theorem dL_areCountsSo_96 : decode cL_areCountsSo 96 = .ok (.iload 6, 2) := by decide +kernel
theorem dL_areCountsSo_98 : decode cL_areCountsSo 98 = .ok (.ifCond .le 15, 3) := by decide +kernel
theorem dL_areCountsSo_101 : decode cL_areCountsSo 101 = .ok (.iload 6, 2) := by decide +kernel
theorem dL_areCountsSo_103 : decode cL_areCountsSo 103 = .ok (.aload_n 0, 1) := by decide +kernel
theorem dL_areCountsSo_104 : decode cL_areCountsSo 104 = .ok (.iload 6, 2) := by decide +kernel
theorem dL_areCountsSo_106 : decode cL_areCountsSo 106 = .ok (.invokevirtual 170, 3) := by decide +kernel
theorem dL_areCountsSo_109 : decode cL_areCountsSo 109 = .ok (.imul, 1) := by decide +kernel
theorem dL_areCountsSo_110 : decode cL_areCountsSo 110 = .ok (.goto 4, 3) := by decide +kernel
theorem dL_areCountsSo_113 : decode cL_areCountsSo 113 = .ok (.iconst 0, 1) := by decide +kernel
theorem dL_areCountsSo_114 : decode cL_areCountsSo 114 = .ok (.iadd, 1) := by decide +kernel
theorem dL_areCountsSo_115 : decode cL_areCountsSo 115 = .ok (.istore_n 2, 1) := by decide +kernel
theorem dL_areCountsSo_116 : decode cL_areCountsSo 116 = .ok (.iload_n 3, 1) := by decide +kernel
theorem dL_areCountsSo_117 : decode cL_areCountsSo 117 = .ok (.iload 6, 2) := by decide +kernel
theorem dL_areCountsSo_119 : decode cL_areCountsSo 119 = .ok (.ifCond .ge 15, 3) := by decide +kernel
theorem dL_areCountsSo_122 : decode cL_areCountsSo 122 = .ok (.iload 6, 2) := by decide +kernel
theorem dL_areCountsSo_124 : decode cL_areCountsSo 124 = .ok (.aload_n 0, 1) := by decide +kernel
theorem dL_areCountsSo_125 : decode cL_areCountsSo 125 = .ok (.iload 6, 2) := by decide +kernel
theorem dL_areCountsSo_127 : decode cL_areCountsSo 127 = .ok (.invokevirtual 170, 3) := by decide +kernel
theorem dL_areCountsSo_130 : decode cL_areCountsSo 130 = .ok (.imul, 1) := by decide +kernel
theorem dL_areCountsSo_131 : decode cL_areCountsSo 131 = .ok (.goto 4, 3) := by decide +kernel
theorem dL_areCountsSo_134 : decode cL_areCountsSo 134 = .ok (.iconst 0, 1) := by decide +kernel
theorem dL_areCountsSo_135 : decode cL_areCountsSo 135 = .ok (.isub, 1) := by decide +kernel
theorem dL_areCountsSo_136 : decode cL_areCountsSo 136 = .ok (.istore_n 3, 1) := by decide +kernel
theorem dL_areCountsSo_137 : decode cL_areCountsSo 137 = .ok (.iinc 6 1, 3) := by decide +kernel
theorem dL_areCountsSo_140 : decode cL_areCountsSo 140 = .ok (.goto (-61), 3) := by decide +kernel
theorem dL_areCountsSo_143 : decode cL_areCountsSo 143 = .ok (.iconst 0, 1) := by decide +kernel
theorem dL_areCountsSo_144 : decode cL_areCountsSo 144 = .ok (.istore 6, 2) := by decide +kernel
theorem dL_areCountsSo_146 : decode cL_areCountsSo 146 = .ok (.iload 6, 2) := by decide +kernel
theorem dL_areCountsSo_148 : decode cL_areCountsSo 148 = .ok (.aload_n 0, 1) := by decide +kernel
theorem dL_areCountsSo_149 : decode cL_areCountsSo 149 = .ok (.invokevirtual 121, 3) := by decide +kernel
theorem dL_areCountsSo_152 : decode cL_areCountsSo 152 = .ok (.if_icmp .ge 52, 3) := by decide +kernel
theorem dL_areCountsSo_155 : decode cL_areCountsSo 155 = .ok (.aload_n 0, 1) := by decide +kernel
theorem dL_areCountsSo_156 : decode cL_areCountsSo 156 = .ok (.iload 6, 2) := by decide +kernel
theorem dL_areCountsSo_158 : decode cL_areCountsSo 158 = .ok (.invokevirtual 176, 3) := by decide +kernel
theorem dL_areCountsSo_161 : decode cL_areCountsSo 161 = .ok (.istore 4, 2) := by decide +kernel
theorem dL_areCountsSo_163 : decode cL_areCountsSo 163 = .ok (.iload 5, 2) := by decide +kernel
theorem dL_areCountsSo_165 : decode cL_areCountsSo 165 = .ok (.ifCond .eq 30, 3) := by decide +kernel
theorem dL_areCountsSo_168 : decode cL_areCountsSo 168 = .ok (.iload 4, 2) := by decide +kernel
theorem dL_areCountsSo_170 : decode cL_areCountsSo 170 = .ok (.bipush (-8), 2) := by decide +kernel
theorem dL_areCountsSo_172 : decode cL_areCountsSo 172 = .ok (.if_icmp .lt 23, 3) := by decide +kernel
theorem dL_areCountsSo_175 : decode cL_areCountsSo 175 = .ok (.iload 4, 2) := by decide +kernel
theorem dL_areCountsSo_177 : decode cL_areCountsSo 177 = .ok (.bipush 8, 2) := by decide +kernel
theorem dL_areCountsSo_179 : decode cL_areCountsSo 179 = .ok (.if_icmp .gt 16, 3) := by decide +kernel
theorem dL_areCountsSo_182 : decode cL_areCountsSo 182 = .ok (.aload_n 0, 1) := by decide +kernel
theorem dL_areCountsSo_183 : decode cL_areCountsSo 183 = .ok (.iload 4, 2) := by decide +kernel
theorem dL_areCountsSo_185 : decode cL_areCountsSo 185 = .ok (.invokevirtual 170, 3) := by decide +kernel
theorem dL_areCountsSo_188 : decode cL_areCountsSo 188 = .ok (.ifCond .le 7, 3) := by decide +kernel
theorem dL_areCountsSo_191 : decode cL_areCountsSo 191 = .ok (.iconst 1, 1) := by decide +kernel
theorem dL_areCountsSo_192 : decode cL_areCountsSo 192 = .ok (.goto 4, 3) := by decide +kernel
theorem dL_areCountsSo_195 : decode cL_areCountsSo 195 = .ok (.iconst 0, 1) := by decide +kernel
theorem dL_areCountsSo_196 : decode cL_areCountsSo 196 = .ok (.istore 5, 2) := by decide +kernel
theorem dL_areCountsSo_198 : decode cL_areCountsSo 198 = .ok (.iinc 6 1, 3) := by decide +kernel
theorem dL_areCountsSo_201 : decode cL_areCountsSo 201 = .ok (.goto (-55), 3) := by decide +kernel
theorem dL_areCountsSo_204 : decode cL_areCountsSo 204 = .ok (.iload 5, 2) := by decide +kernel
theorem dL_areCountsSo_206 : decode cL_areCountsSo 206 = .ok (.ifCond .eq 109, 3) := by decide +kernel
theorem dL_areCountsSo_209 : decode cL_areCountsSo 209 = .ok (.iload_n 1, 1) := by decide +kernel
theorem dL_areCountsSo_210 : decode cL_areCountsSo 210 = .ok (.aload_n 0, 1) := by decide +kernel
theorem dL_areCountsSo_211 : decode cL_areCountsSo 211 = .ok (.invokevirtual 103, 3) := by decide +kernel
theorem dL_areCountsSo_214 : decode cL_areCountsSo 214 = .ok (.if_icmp .ne 101, 3) := by decide +kernel
theorem dL_areCountsSo_217 : decode cL_areCountsSo 217 = .ok (.iload_n 2, 1) := by decide +kernel
theorem dL_areCountsSo_218 : decode cL_areCountsSo 218 = .ok (.aload_n 0, 1) := by decide +kernel
theorem dL_areCountsSo_219 : decode cL_areCountsSo 219 = .ok (.iconst 0, 1) := by decide +kernel
theorem dL_areCountsSo_220 : decode cL_areCountsSo 220 = .ok (.invokevirtual 118, 3) := by decide +kernel
theorem dL_areCountsSo_223 : decode cL_areCountsSo 223 = .ok (.if_icmp .ne 92, 3) := by decide +kernel
theorem dL_areCountsSo_226 : decode cL_areCountsSo 226 = .ok (.iload_n 3, 1) := by decide +kernel
theorem dL_areCountsSo_227 : decode cL_areCountsSo 227 = .ok (.aload_n 0, 1) := by decide +kernel
theorem dL_areCountsSo_228 : decode cL_areCountsSo 228 = .ok (.iconst 1, 1) := by decide +kernel
theorem dL_areCountsSo_229 : decode cL_areCountsSo 229 = .ok (.invokevirtual 118, 3) := by decide +kernel
theorem dL_areCountsSo_232 : decode cL_areCountsSo 232 = .ok (.if_icmp .ne 83, 3) := by decide +kernel
theorem dL_areCountsSo_235 : decode cL_areCountsSo 235 = .ok (.aload_n 0, 1) := by decide +kernel
theorem dL_areCountsSo_236 : decode cL_areCountsSo 236 = .ok (.invokevirtual 86, 3) := by decide +kernel
theorem dL_areCountsSo_239 : decode cL_areCountsSo 239 = .ok (.iload_n 2, 1) := by decide +kernel
theorem dL_areCountsSo_240 : decode cL_areCountsSo 240 = .ok (.aload_n 0, 1) := by decide +kernel
theorem dL_areCountsSo_241 : decode cL_areCountsSo 241 = .ok (.invokevirtual 106, 3) := by decide +kernel
theorem dL_areCountsSo_244 : decode cL_areCountsSo 244 = .ok (.if_icmp .ge 11, 3) := by decide +kernel
theorem dL_areCountsSo_247 : decode cL_areCountsSo 247 = .ok (.iload_n 3, 1) := by decide +kernel
theorem dL_areCountsSo_248 : decode cL_areCountsSo 248 = .ok (.aload_n 0, 1) := by decide +kernel
theorem dL_areCountsSo_249 : decode cL_areCountsSo 249 = .ok (.invokevirtual 106, 3) := by decide +kernel
theorem dL_areCountsSo_252 : decode cL_areCountsSo 252 = .ok (.if_icmp .lt 7, 3) := by decide +kernel
theorem dL_areCountsSo_255 : decode cL_areCountsSo 255 = .ok (.iconst 1, 1) := by decide +kernel
theorem dL_areCountsSo_256 : decode cL_areCountsSo 256 = .ok (.goto 4, 3) := by decide +kernel
theorem dL_areCountsSo_259 : decode cL_areCountsSo 259 = .ok (.iconst 0, 1) := by decide +kernel
theorem dL_areCountsSo_260 : decode cL_areCountsSo 260 = .ok (.if_icmp .ne 55, 3) := by decide +kernel
theorem dL_areCountsSo_263 : decode cL_areCountsSo 263 = .ok (.aload_n 0, 1) := by decide +kernel
theorem dL_areCountsSo_264 : decode cL_areCountsSo 264 = .ok (.invokevirtual 179, 3) := by decide +kernel
theorem dL_areCountsSo_267 : decode cL_areCountsSo 267 = .ok (.iload_n 1, 1) := by decide +kernel
theorem dL_areCountsSo_268 : decode cL_areCountsSo 268 = .ok (.ifCond .ne 7, 3) := by decide +kernel
theorem dL_areCountsSo_271 : decode cL_areCountsSo 271 = .ok (.dconst 0, 1) := by decide +kernel
theorem dL_areCountsSo_272 : decode cL_areCountsSo 272 = .ok (.goto 10, 3) := by decide +kernel
theorem dL_areCountsSo_275 : decode cL_areCountsSo 275 = .ok (.iload_n 2, 1) := by decide +kernel
theorem dL_areCountsSo_276 : decode cL_areCountsSo 276 = .ok (.iload_n 3, 1) := by decide +kernel
theorem dL_areCountsSo_277 : decode cL_areCountsSo 277 = .ok (.iadd, 1) := by decide +kernel
theorem dL_areCountsSo_278 : decode cL_areCountsSo 278 = .ok (.i2d, 1) := by decide +kernel
theorem dL_areCountsSo_279 : decode cL_areCountsSo 279 = .ok (.iload_n 1, 1) := by decide +kernel
theorem dL_areCountsSo_280 : decode cL_areCountsSo 280 = .ok (.i2d, 1) := by decide +kernel
theorem dL_areCountsSo_281 : decode cL_areCountsSo 281 = .ok (.ddiv, 1) := by decide +kernel
theorem dL_areCountsSo_282 : decode cL_areCountsSo 282 = .ok (.dcmp .l, 1) := by decide +kernel
theorem dL_areCountsSo_283 : decode cL_areCountsSo 283 = .ok (.ifCond .ne 32, 3) := by decide +kernel
theorem dL_areCountsSo_286 : decode cL_areCountsSo 286 = .ok (.aload_n 0, 1) := by decide +kernel
theorem dL_areCountsSo_287 : decode cL_areCountsSo 287 = .ok (.invokevirtual 173, 3) := by decide +kernel
theorem dL_areCountsSo_290 : decode cL_areCountsSo 290 = .ok (.ifCond .le 7, 3) := by decide +kernel
theorem dL_areCountsSo_293 : decode cL_areCountsSo 293 = .ok (.iconst 1, 1) := by decide +kernel
theorem dL_areCountsSo_294 : decode cL_areCountsSo 294 = .ok (.goto 4, 3) := by decide +kernel
theorem dL_areCountsSo_297 : decode cL_areCountsSo 297 = .ok (.iconst 0, 1) := by decide +kernel
theorem dL_areCountsSo_298 : decode cL_areCountsSo 298 = .ok (.iload 4, 2) := by decide +kernel
theorem dL_areCountsSo_300 : decode cL_areCountsSo 300 = .ok (.ifCond .eq 7, 3) := by decide +kernel
theorem dL_areCountsSo_303 : decode cL_areCountsSo 303 = .ok (.iconst 1, 1) := by decide +kernel
theorem dL_areCountsSo_304 : decode cL_areCountsSo 304 = .ok (.goto 4, 3) := by decide +kernel
theorem dL_areCountsSo_307 : decode cL_areCountsSo 307 = .ok (.iconst 0, 1) := by decide +kernel
theorem dL_areCountsSo_308 : decode cL_areCountsSo 308 = .ok (.if_icmp .ne 7, 3) := by decide +kernel
theorem dL_areCountsSo_311 : decode cL_areCountsSo 311 = .ok (.iconst 1, 1) := by decide +kernel
theorem dL_areCountsSo_312 : decode cL_areCountsSo 312 = .ok (.goto 4, 3) := by decide +kernel
theorem dL_areCountsSo_315 : decode cL_areCountsSo 315 = .ok (.iconst 0, 1) := by decide +kernel
theorem dL_areCountsSo_316 : decode cL_areCountsSo 316 = .ok (.ireturn, 1) := by decide +kernel
def f_L_areCountsSo (N : Nat) (xv : XV) (nv : SV) : Option (Int32 × (XV × SV)) :=
  (f_X5_burntEnds N xv nv).bind (fun o1 => (f_X5_endsWith N xv nv (0 : Int32)).bind (fun o3 => exc o3 (fun k => none) (fun (ro3 : Int32) => jn (fun (s73 : Int32) => lpN (fun (s79 : Int32 × Int32 × Int32 × Int32) (k79 : (Int32 × Int32 × Int32 × Int32) → Option (Int32 × (XV × SV))) => (if (9 : Int32) ≤ s79.2.2.2 then lpN (fun (s146 : Int32 × Int32 × Int32) (k146 : (Int32 × Int32 × Int32) → Option (Int32 × (XV × SV))) => (f_X5_keptEnds N xv nv).bind (fun o6 => (if o6 ≤ s146.2.2 then jn (fun (s316 : Int32) => some (s316, (xv, nv))) (fun (j316 : (Int32) → Option (Int32 × (XV × SV))) => jn (fun (s315 : Unit) => j316 (0 : Int32)) (fun (j315 : (Unit) → Option (Int32 × (XV × SV))) => (if s146.2.1 = 0 then j315 () else (f_X5_ends N xv nv).bind (fun o10 => (if s79.1 = o10 then (f_X5_pointsOf N xv nv (0 : Int32)).bind (fun o13 => exc o13 (fun k => none) (fun (ro13 : Int32) => (if s79.2.1 = ro13 then (f_X5_pointsOf N xv nv (1 : Int32)).bind (fun o16 => exc o16 (fun k => none) (fun (ro16 : Int32) => (if s79.2.2.1 = ro16 then (f_X5_isOver N xv nv).bind (fun o19 => (f_X5_needed N xv nv).bind (fun o22 => jn (fun (s260 : Int32) => (if o19 = s260 then (f_X5_meanPoints N xv nv).bind (fun o25 => jn (fun (s282 : UInt64) => (if (Op.cmpValue (FP.dcmp o25 s282) CmpOp.l) = 0 then (f_X5_streak N xv nv).bind (fun o28 => jn (fun (s298 : Int32) => jn (fun (s308 : Int32) => (if s298 = s308 then j316 (1 : Int32) else j315 ())) (fun (j308 : (Int32) → Option (Int32 × (XV × SV))) => (if s146.1 = 0 then j308 (0 : Int32) else j308 (1 : Int32)))) (fun (j298 : (Int32) → Option (Int32 × (XV × SV))) => (if o28 ≤ 0 then j298 (0 : Int32) else j298 (1 : Int32)))) else j315 ())) (fun (j282 : (UInt64) → Option (Int32 × (XV × SV))) => (if s79.1 = 0 then j282 (0 : UInt64) else gd (nn64 (FP.ddiv (FP.i2d (s79.2.1 + s79.2.2.1)) (FP.i2d s79.1))) (j282 (FP.ddiv (FP.i2d (s79.2.1 + s79.2.2.1)) (FP.i2d s79.1)))))) else j315 ())) (fun (j260 : (Int32) → Option (Int32 × (XV × SV))) => jn (fun (s255 : Unit) => j260 (1 : Int32)) (fun (j255 : (Unit) → Option (Int32 × (XV × SV))) => (if o22 ≤ s79.2.1 then j255 () else (f_X5_needed N xv nv).bind (fun o36 => (if s79.2.2.1 < o36 then j260 (0 : Int32) else j255 ()))))))) else j315 ()))) else j315 ()))) else j315 ()))))) else (f_X5_pointsOfEnd N xv nv s146.2.2).bind (fun o39 => exc o39 (fun k => none) (fun (ro39 : Int32) => jn (fun (s196 : Int32) => k146 (ro39, s196, (s146.2.2 + (1 : Int32)))) (fun (j196 : (Int32) → Option (Int32 × (XV × SV))) => jn (fun (s195 : Unit) => j196 (0 : Int32)) (fun (j195 : (Unit) → Option (Int32 × (XV × SV))) => (if s146.2.1 = 0 then j195 () else (if ro39 < (-8 : Int32) then j195 () else (if (8 : Int32) < ro39 then j195 () else (f_X5_endsWith N xv nv ro39).bind (fun o44 => exc o44 (fun k => none) (fun (ro44 : Int32) => (if ro44 ≤ 0 then j195 () else j196 (1 : Int32)))))))))))))) 13 ((0 : Int32), s73, (0 : Int32)) else (f_X5_endsWith N xv nv s79.2.2.2).bind (fun o47 => exc o47 (fun k => none) (fun (ro47 : Int32) => jn (fun (s114 : Int32) => jn (fun (s135 : Int32) => k79 ((s79.1 + ro47), (s79.2.1 + s114), (s79.2.2.1 - s135), (s79.2.2.2 + (1 : Int32)))) (fun (j135 : (Int32) → Option (Int32 × (XV × SV))) => (if 0 ≤ s79.2.2.2 then j135 (0 : Int32) else (f_X5_endsWith N xv nv s79.2.2.2).bind (fun o50 => exc o50 (fun k => none) (fun (ro50 : Int32) => j135 (s79.2.2.2 * ro50)))))) (fun (j114 : (Int32) → Option (Int32 × (XV × SV))) => (if s79.2.2.2 ≤ 0 then j114 (0 : Int32) else (f_X5_endsWith N xv nv s79.2.2.2).bind (fun o53 => exc o53 (fun k => none) (fun (ro53 : Int32) => j114 (s79.2.2.2 * ro53))))))))) 18 ((0 : Int32), (0 : Int32), (0 : Int32), (-8 : Int32))) (fun (j73 : (Int32) → Option (Int32 × (XV × SV))) => jn (fun (s72 : Unit) => j73 (0 : Int32)) (fun (j72 : (Unit) → Option (Int32 × (XV × SV))) => (if ro3 < o1 then j72 () else (f_X5_touchers N xv nv).bind (fun o56 => (f_X5_played N xv nv).bind (fun o58 => (if o58 < o56 then j72 () else (f_X5_streak N xv nv).bind (fun o61 => (f_X5_keptEnds N xv nv).bind (fun o63 => (if o63 < o61 then j72 () else (f_X5_keptEnds N xv nv).bind (fun o66 => (f_X5_ends N xv nv).bind (fun o68 => jn (fun (s65 : Int32) => (if o66 = s65 then j73 (1 : Int32) else j72 ())) (fun (j65 : (Int32) → Option (Int32 × (XV × SV))) => (if (12 : Int32) ≤ o68 then j65 (12 : Int32) else (f_X5_ends N xv nv).bind (fun o72 => j65 o72)))))))))))))))))
set_option maxHeartbeats 4000000 in
set_option maxRecDepth 100000 in
theorem met_L_areCountsSo (l : Launch) (z0 : Nat) (hst : l.stackTraces = false) (dC : Nat → ClassId) (dI : Nat → Nat → Nat) (cyI cyO : ClassId) (x : Nat → Nat) (tr : Nat → Nat) (an : Nat → Nat) (fl fs : Nat → Option Nat) (sz : Nat) (N : Nat) (xv : XV) (nv : SV) (out : Int32 × (XV × SV)) (hF : f_L_areCountsSo N xv nv = some out) : Met l yL_areCountsSo (Cond.code yL_areCountsSo cL_areCountsSo 7 (some .boolean) :: wT) ({ frames := 8, cells := 83, slots := 498, locals := 123 } : Room) (wWrX z0 dC dI cyI cyO [.ref (x 0)] (([(cXo x an tr xv), (cH cyO (x 1) (x 2) 2 fl), (cXk cyI x xv), (cH cyO (x 4) (x 5) 6 fs), (cT cyI x (X_text xv)), (cSo an nv), (cG cyI an (S_green nv)), (cV cyI an (S_score nv))] : List va_W).flatten) sz) (va_Qi (fun (r : Int32) (u : XV × SV) => (r, u) = out ∧ b01 r) (fun u t => va_P (dC, dI) vwCl (([(cXo x an tr u.1), (cH cyO (x 1) (x 2) 2 fl), (cXk cyI x u.1), (cH cyO (x 4) (x 5) 6 fs), (cT cyI x (X_text u.1)), (cSo an u.2), (cG cyI an (S_green u.2)), (cV cyI an (S_score u.2))] : List va_W).flatten) t.heap ∧ va_D (va_A (([(cXo x an tr xv), (cH cyO (x 1) (x 2) 2 fl), (cXk cyI x xv), (cH cyO (x 4) (x 5) 6 fs), (cT cyI x (X_text xv)), (cSo an nv), (cG cyI an (S_green nv)), (cV cyI an (S_score nv))] : List va_W).flatten) sz) (([(cXo x an tr u.1), (cH cyO (x 1) (x 2) 2 fl), (cXk cyI x u.1), (cH cyO (x 4) (x 5) 6 fs), (cT cyI x (X_text u.1)), (cSo an u.2), (cG cyI an (S_green u.2)), (cV cyI an (S_score u.2))] : List va_W).flatten)) (va_A (([(cXo x an tr xv), (cH cyO (x 1) (x 2) 2 fl), (cXk cyI x xv), (cH cyO (x 4) (x 5) 6 fs), (cT cyI x (X_text xv)), (cSo an nv), (cG cyI an (S_green nv)), (cV cyI an (S_score nv))] : List va_W).flatten) sz)) 83 498 (va_A (([(cXo x an tr xv), (cH cyO (x 1) (x 2) 2 fl), (cXk cyI x xv), (cH cyO (x 4) (x 5) 6 fs), (cT cyI x (X_text xv)), (cSo an nv), (cG cyI an (S_green nv)), (cV cyI an (S_score nv))] : List va_W).flatten) sz) := by
  refine Met.ofW (cc := cL_areCountsSo) (maxL := 7) (ret := (some .boolean)) (by decide) rfl ?_
  intro p e s m args below meth c s₁ B hml hv
  obtain ⟨rfl, hsz, hP, hK, hD0, hz0, hZ⟩ := hv
  have hx := B.exec
  have hb := B.bytes
  have hr := B.returns
  have hts0 := atoms_spec (ws := (Cond.code yL_areCountsSo cL_areCountsSo 7 (some .boolean) :: wT)) B.pre
  have hts := fun w h => hts0 w (List.mem_cons_of_mem _ h)
  clear hts0
  have hown : s.vm.findClass RL = some m.cls := findClass_of_methodNamed B.named
  have hlocks := B.notSynchronized
  subst hsz
  have hD := hD0.self (sz := s.heap.size)
  have hAz := wA_ge hD0 hz0
  generalize hAe : va_A (([(cXo x an tr xv), (cH cyO (x 1) (x 2) 2 fl), (cXk cyI x xv), (cH cyO (x 4) (x 5) 6 fs), (cT cyI x (X_text xv)), (cSo an nv), (cG cyI an (S_green nv)), (cV cyI an (S_score nv))] : List va_W).flatten) s.heap.size = A at hD hAz ⊢
  have hA : ∀ q : Nat, s.heap.size ≤ q → A q := fun q h => by rw [← hAe]; exact Or.inr h
  clear hD0
  have hS : va_S A s.heap s.heap [] := va_S.rf
  have hl := lv_entry [.ref (x 0)] (n := 7) (Nat.le_of_ble_eq_true rfl)
  rw [lg_entry_eq]
  generalize (lg_sl [.ref (x 0)] ++ List.replicate (7 - (lg_sl [.ref (x 0)]).length) Slot.unset).toArray = ls at hl ⊢
  have hl : lv_has ls 7 [(0, .ref (x 0))] := hl
  unfold f_L_areCountsSo at hF
  refine lv_iconst (v := 0) hx hb dL_areCountsSo_0 (by decide) ?_
  refine lv_istore_n (lv' := [(1, .int (0 : Int32)), (0, .ref (x 0))]) hx hb dL_areCountsSo_1 rfl hl (by decide) rfl (fun ls hl => ?_)
  refine lv_iconst (v := 0) hx hb dL_areCountsSo_2 (by decide) ?_
  refine lv_istore_n (lv' := [(2, .int (0 : Int32)), (1, .int (0 : Int32)), (0, .ref (x 0))]) hx hb dL_areCountsSo_3 rfl hl (by decide) rfl (fun ls hl => ?_)
  refine lv_iconst (v := 0) hx hb dL_areCountsSo_4 (by decide) ?_
  refine lv_istore_n (lv' := [(3, .int (0 : Int32)), (2, .int (0 : Int32)), (1, .int (0 : Int32)), (0, .ref (x 0))]) hx hb dL_areCountsSo_5 rfl hl (by decide) rfl (fun ls hl => ?_)
  refine lv_iconst (v := 0) hx hb dL_areCountsSo_6 (by decide) ?_
  refine lv_istore (lv' := [(4, .int (0 : Int32)), (3, .int (0 : Int32)), (2, .int (0 : Int32)), (1, .int (0 : Int32)), (0, .ref (x 0))]) hx hb dL_areCountsSo_7 hl (by decide) rfl (fun ls hl => ?_)
  refine lv_aload_n hx hb dL_areCountsSo_9 rfl (lv_at hl 4 rfl) ?_
  obtain ⟨o1, h2, hF⟩ := obd hF
  refine wcRVi (As := []) (rest := []) (b := (x 0)) ⟨hx, hb, hml, hown, hts⟩ (met_X5_burntEnds l dC dI cyI cyO x tr an fl fs N xv nv  o1 h2) (cwV 0 hts (gV w_methodLink_L_167 w_instanceMethod_X5_burntEnds w_selects_X5_burntEnds w_initialized_X5 w_code_X5_burntEnds) rfl rfl rfl (by decide +kernel) ⟨Nat.le_of_ble_eq_true rfl, Nat.le_of_ble_eq_true rfl⟩) (va_recv hK.1 hP (ci := 5) (q0 := 0) rfl rfl) hP hK [0, 1, 2, 3, 4, 5, 6, 7, 8, 9, 10, 11, 12, 13, 14, 15, 16, 17, 18, 19, 20] rfl rfl hl.1 (Nat.le_of_ble_eq_true rfl) dL_areCountsSo_10 ⟨(show _ ≤ 83 from by omega), (show _ ≤ 498 from by omega)⟩ hS (fun r H locs hw hP hS => ?_)
  have hw := hw.symm
  subst hw
  refine lv_aload_n hx hb dL_areCountsSo_13 rfl (lv_at hl 4 rfl) ?_
  refine lv_iconst (v := 0) hx hb dL_areCountsSo_14 (by decide) ?_
  obtain ⟨o3, h4, hF⟩ := obd hF
  refine wxRVi (As := [.int (0 : Int32)]) (rest := [.int o1]) (b := (x 0)) ⟨hx, hb, hml, hown, hts⟩ (met_X5_endsWith l z0 hst dC dI cyI cyO x tr an fl fs N xv nv (0 : Int32) o3 h4) (cwV 1 hts (gV w_methodLink_L_170 w_instanceMethod_X5_endsWith w_selects_X5_endsWith w_initialized_X5 w_code_X5_endsWith) rfl rfl rfl (by decide +kernel) ⟨Nat.le_of_ble_eq_true rfl, Nat.le_of_ble_eq_true rfl⟩) (va_recv hK.1 hP (ci := 5) (q0 := 0) rfl rfl) hP hK hZ hAz [0, 1, 2, 3, 4, 5, 6, 7, 8, 9, 10, 11, 12, 13, 14, 15, 16, 17, 18, 19, 20] rfl rfl hl.1 (Nat.le_of_ble_eq_true rfl) dL_areCountsSo_15 ⟨(show _ ≤ 83 from by omega), (show _ ≤ 498 from by omega)⟩ hS (fun k ce q9 H locs hw hP hS h9 hv9 hc9 => ?_) (fun ro3 H locs hw hP hS => ?_)
  · have hw := hw.symm
    subst hw
    have hF := exc_l hF
    cases hF
  · skip
    have hw := hw.symm
    subst hw
    have hF := exc_r hF
    obtain ⟨j73, hj73, hF⟩ := jn_use hF
    have hJ73 : ∀ (s73 : Int32) (H : Heap) (locs : List Loc) (ls : Array Slot) (hz_73_s0 : b01 s73), va_P (dC, dI) vwCl (([(cXo x an tr xv), (cH cyO (x 1) (x 2) 2 fl), (cXk cyI x xv), (cH cyO (x 4) (x 5) 6 fs), (cT cyI x (X_text xv)), (cSo an nv), (cG cyI an (S_green nv)), (cV cyI an (S_score nv))] : List va_W).flatten) H → va_D A (([(cXo x an tr xv), (cH cyO (x 1) (x 2) 2 fl), (cXk cyI x xv), (cH cyO (x 4) (x 5) 6 fs), (cT cyI x (X_text xv)), (cSo an nv), (cG cyI an (S_green nv)), (cV cyI an (S_score nv))] : List va_W).flatten) → va_S A s.heap H locs → lv_has ls 7 [(0, .ref (x 0)), (1, .int (0 : Int32)), (2, .int (0 : Int32)), (3, .int (0 : Int32)), (4, .int (0 : Int32))] → j73 s73 = some out → W p l e (headSpec (Cond.code yL_areCountsSo cL_areCountsSo 7 (some .boolean) :: wT) ({ frames := 8, cells := 83, slots := 498, locals := 123 } : Room)).room s m ([.ref (x 0)] : List Value).toArray below meth c H locs 1 6 (MQ below (va_Qi (fun (r : Int32) (u : XV × SV) => (r, u) = out ∧ b01 r) (fun u t => va_P (dC, dI) vwCl (([(cXo x an tr u.1), (cH cyO (x 1) (x 2) 2 fl), (cXk cyI x u.1), (cH cyO (x 4) (x 5) 6 fs), (cT cyI x (X_text u.1)), (cSo an u.2), (cG cyI an (S_green u.2)), (cV cyI an (S_score u.2))] : List va_W).flatten) t.heap ∧ va_D A (([(cXo x an tr u.1), (cH cyO (x 1) (x 2) 2 fl), (cXk cyI x u.1), (cH cyO (x 4) (x 5) 6 fs), (cT cyI x (X_text u.1)), (cSo an u.2), (cG cyI an (S_green u.2)), (cV cyI an (S_score u.2))] : List va_W).flatten)) A) ([.ref (x 0)] : List Value).toArray s 83 498 A) (F0 m 73 ls [.int s73]) := by
      intro s73 H locs ls hz_73_s0 hP hD hS hl hF
      have hF := (congrFun hj73 s73).symm.trans hF
      refine lv_istore (lv' := [(5, .int s73), (0, .ref (x 0)), (1, .int (0 : Int32)), (2, .int (0 : Int32)), (3, .int (0 : Int32)), (4, .int (0 : Int32))]) hx hb dL_areCountsSo_73 hl (by decide) rfl (fun ls hl => ?_)
      refine lv_bipush (v := -8) hx hb dL_areCountsSo_75 (by decide) ?_
      refine lv_istore (lv' := [(6, .int (-8 : Int32)), (5, .int s73), (0, .ref (x 0)), (1, .int (0 : Int32)), (2, .int (0 : Int32)), (3, .int (0 : Int32)), (4, .int (0 : Int32))]) hx hb dL_areCountsSo_77 hl (by decide) rfl (fun ls hl => ?_)
      obtain ⟨st79, hst79, hF⟩ := lpN_use hF
      have hL79 : ∀ (n79 : Nat) (hn79 : n79 ≤ 18) (s79 : Int32 × Int32 × Int32 × Int32) (H : Heap) (locs : List Loc) (ls : Array Slot), va_P (dC, dI) vwCl (([(cXo x an tr xv), (cH cyO (x 1) (x 2) 2 fl), (cXk cyI x xv), (cH cyO (x 4) (x 5) 6 fs), (cT cyI x (X_text xv)), (cSo an nv), (cG cyI an (S_green nv)), (cV cyI an (S_score nv))] : List va_W).flatten) H → va_D A (([(cXo x an tr xv), (cH cyO (x 1) (x 2) 2 fl), (cXk cyI x xv), (cH cyO (x 4) (x 5) 6 fs), (cT cyI x (X_text xv)), (cSo an nv), (cG cyI an (S_green nv)), (cV cyI an (S_score nv))] : List va_W).flatten) → va_S A s.heap H locs → lv_has ls 7 [(0, .ref (x 0)), (1, .int s79.1), (2, .int s79.2.1), (3, .int s79.2.2.1), (4, .int (0 : Int32)), (5, .int s73), (6, .int s79.2.2.2)] → lpN st79 n79 s79 = some out → W p l e (headSpec (Cond.code yL_areCountsSo cL_areCountsSo 7 (some .boolean) :: wT) ({ frames := 8, cells := 83, slots := 498, locals := 123 } : Room)).room s m ([.ref (x 0)] : List Value).toArray below meth c H locs (1 + 3 * (18 - (n79))) (6 + 18 * (18 - (n79))) (MQ below (va_Qi (fun (r : Int32) (u : XV × SV) => (r, u) = out ∧ b01 r) (fun u t => va_P (dC, dI) vwCl (([(cXo x an tr u.1), (cH cyO (x 1) (x 2) 2 fl), (cXk cyI x u.1), (cH cyO (x 4) (x 5) 6 fs), (cT cyI x (X_text u.1)), (cSo an u.2), (cG cyI an (S_green u.2)), (cV cyI an (S_score u.2))] : List va_W).flatten) t.heap ∧ va_D A (([(cXo x an tr u.1), (cH cyO (x 1) (x 2) 2 fl), (cXk cyI x u.1), (cH cyO (x 4) (x 5) 6 fs), (cT cyI x (X_text u.1)), (cSo an u.2), (cG cyI an (S_green u.2)), (cV cyI an (S_score u.2))] : List va_W).flatten)) A) ([.ref (x 0)] : List Value).toArray s 83 498 A) (F0 m 79 ls []) := by
        intro n79
        induction n79 with
        | zero => intro hn79 s79 H locs ls hP hD hS hl hF; exact lpN_0 hF
        | succ n79 ih79 =>
          intro hn79 s79 H locs ls hP hD hS hl hF
          have hF := (congrFun (congrFun hst79 s79) (lpN st79 n79)).symm.trans (lpN_s hF)
          refine lv_iload hx hb dL_areCountsSo_79 (lv_at hl 6 rfl) ?_
          refine lv_bipush (v := 9) hx hb dL_areCountsSo_81 (by decide) ?_
          refine lv_icmp_ge (tgt := 143) hx hb dL_areCountsSo_83 (by decide) (fun c5 => ?_) (fun c5 => ?_)
          · have hF := itp c5 hF
            refine lv_iconst (v := 0) hx hb dL_areCountsSo_143 (by decide) ?_
            refine lv_istore (lv' := [(6, .int (0 : Int32)), (0, .ref (x 0)), (1, .int s79.1), (2, .int s79.2.1), (3, .int s79.2.2.1), (4, .int (0 : Int32)), (5, .int s73)]) hx hb dL_areCountsSo_144 hl (by decide) rfl (fun ls hl => ?_)
            obtain ⟨st146, hst146, hF⟩ := lpN_use hF
            have hL146 : ∀ (n146 : Nat) (hn146 : n146 ≤ 13) (s146 : Int32 × Int32 × Int32) (H : Heap) (locs : List Loc) (ls : Array Slot) (hz_146_5 : b01 s146.2.1), va_P (dC, dI) vwCl (([(cXo x an tr xv), (cH cyO (x 1) (x 2) 2 fl), (cXk cyI x xv), (cH cyO (x 4) (x 5) 6 fs), (cT cyI x (X_text xv)), (cSo an nv), (cG cyI an (S_green nv)), (cV cyI an (S_score nv))] : List va_W).flatten) H → va_D A (([(cXo x an tr xv), (cH cyO (x 1) (x 2) 2 fl), (cXk cyI x xv), (cH cyO (x 4) (x 5) 6 fs), (cT cyI x (X_text xv)), (cSo an nv), (cG cyI an (S_green nv)), (cV cyI an (S_score nv))] : List va_W).flatten) → va_S A s.heap H locs → lv_has ls 7 [(0, .ref (x 0)), (1, .int s79.1), (2, .int s79.2.1), (3, .int s79.2.2.1), (4, .int s146.1), (5, .int s146.2.1), (6, .int s146.2.2)] → lpN st146 n146 s146 = some out → W p l e (headSpec (Cond.code yL_areCountsSo cL_areCountsSo 7 (some .boolean) :: wT) ({ frames := 8, cells := 83, slots := 498, locals := 123 } : Room)).room s m ([.ref (x 0)] : List Value).toArray below meth c H locs (1 + 3 * (18 - (n79 + 1)) + 2 * (13 - (n146))) (6 + 18 * (18 - (n79 + 1)) + 12 * (13 - (n146))) (MQ below (va_Qi (fun (r : Int32) (u : XV × SV) => (r, u) = out ∧ b01 r) (fun u t => va_P (dC, dI) vwCl (([(cXo x an tr u.1), (cH cyO (x 1) (x 2) 2 fl), (cXk cyI x u.1), (cH cyO (x 4) (x 5) 6 fs), (cT cyI x (X_text u.1)), (cSo an u.2), (cG cyI an (S_green u.2)), (cV cyI an (S_score u.2))] : List va_W).flatten) t.heap ∧ va_D A (([(cXo x an tr u.1), (cH cyO (x 1) (x 2) 2 fl), (cXk cyI x u.1), (cH cyO (x 4) (x 5) 6 fs), (cT cyI x (X_text u.1)), (cSo an u.2), (cG cyI an (S_green u.2)), (cV cyI an (S_score u.2))] : List va_W).flatten)) A) ([.ref (x 0)] : List Value).toArray s 83 498 A) (F0 m 146 ls []) := by
              intro n146
              induction n146 with
              | zero => intro hn146 s146 H locs ls hz_146_5 hP hD hS hl hF; exact lpN_0 hF
              | succ n146 ih146 =>
                intro hn146 s146 H locs ls hz_146_5 hP hD hS hl hF
                have hF := (congrFun (congrFun hst146 s146) (lpN st146 n146)).symm.trans (lpN_s hF)
                refine lv_iload hx hb dL_areCountsSo_146 (lv_at hl 6 rfl) ?_
                refine lv_aload_n hx hb dL_areCountsSo_148 rfl (lv_at hl 0 rfl) ?_
                obtain ⟨o6, h7, hF⟩ := obd hF
                refine wcRVi (As := []) (rest := [.int s146.2.2]) (b := (x 0)) ⟨hx, hb, hml, hown, hts⟩ (met_X5_keptEnds l dC dI cyI cyO x tr an fl fs N xv nv  o6 h7) (cwV 0 hts (gV w_methodLink_L_121 w_instanceMethod_X5_keptEnds w_selects_X5_keptEnds w_initialized_X5 w_code_X5_keptEnds) rfl rfl rfl (by decide +kernel) ⟨Nat.le_of_ble_eq_true rfl, Nat.le_of_ble_eq_true rfl⟩) (va_recv hK.1 hP (ci := 5) (q0 := 0) rfl rfl) hP hK [0, 1, 2, 3, 4, 5, 6, 7, 8, 9, 10, 11, 12, 13, 14, 15, 16, 17, 18, 19, 20] rfl rfl hl.1 (Nat.le_of_ble_eq_true rfl) dL_areCountsSo_149 ⟨(show _ ≤ 83 from by omega), (show _ ≤ 498 from by omega)⟩ hS (fun r H locs hw hP hS => ?_)
                have hw := hw.symm
                subst hw
                refine lv_icmp_ge (tgt := 204) hx hb dL_areCountsSo_152 (by decide) (fun c8 => ?_) (fun c8 => ?_)
                · have hF := itp c8 hF
                  refine lv_iload hx hb dL_areCountsSo_204 (lv_at hl 5 rfl) ?_
                  obtain ⟨j316, hj316, hF⟩ := jn_use hF
                  have hJ316 : ∀ (s316 : Int32) (H : Heap) (locs : List Loc) (ls : Array Slot) (hz_316_s0 : b01 s316), va_P (dC, dI) vwCl (([(cXo x an tr xv), (cH cyO (x 1) (x 2) 2 fl), (cXk cyI x xv), (cH cyO (x 4) (x 5) 6 fs), (cT cyI x (X_text xv)), (cSo an nv), (cG cyI an (S_green nv)), (cV cyI an (S_score nv))] : List va_W).flatten) H → va_D A (([(cXo x an tr xv), (cH cyO (x 1) (x 2) 2 fl), (cXk cyI x xv), (cH cyO (x 4) (x 5) 6 fs), (cT cyI x (X_text xv)), (cSo an nv), (cG cyI an (S_green nv)), (cV cyI an (S_score nv))] : List va_W).flatten) → va_S A s.heap H locs → lv_has ls 7 [] → j316 s316 = some out → W p l e (headSpec (Cond.code yL_areCountsSo cL_areCountsSo 7 (some .boolean) :: wT) ({ frames := 8, cells := 83, slots := 498, locals := 123 } : Room)).room s m ([.ref (x 0)] : List Value).toArray below meth c H locs (3 + 3 * (18 - (n79 + 1)) + 2 * (13 - (n146 + 1))) (18 + 18 * (18 - (n79 + 1)) + 12 * (13 - (n146 + 1))) (MQ below (va_Qi (fun (r : Int32) (u : XV × SV) => (r, u) = out ∧ b01 r) (fun u t => va_P (dC, dI) vwCl (([(cXo x an tr u.1), (cH cyO (x 1) (x 2) 2 fl), (cXk cyI x u.1), (cH cyO (x 4) (x 5) 6 fs), (cT cyI x (X_text u.1)), (cSo an u.2), (cG cyI an (S_green u.2)), (cV cyI an (S_score u.2))] : List va_W).flatten) t.heap ∧ va_D A (([(cXo x an tr u.1), (cH cyO (x 1) (x 2) 2 fl), (cXk cyI x u.1), (cH cyO (x 4) (x 5) 6 fs), (cT cyI x (X_text u.1)), (cSo an u.2), (cG cyI an (S_green u.2)), (cV cyI an (S_score u.2))] : List va_W).flatten)) A) ([.ref (x 0)] : List Value).toArray s 83 498 A) (F0 m 316 ls [.int s316]) := by
                    intro s316 H locs ls hz_316_s0 hP hD hS hl hF
                    have hF := (congrFun hj316 s316).symm.trans hF
                    refine W.widen (k := 83) (n := 498) (by omega) (by omega) ?_
                    exact W.zret (ty := .boolean) (v := s316) hx hb hr (b01_n hz_316_s0) (fun t ht hW => ⟨⟨_, (xv, nv), rfl, ⟨Option.some.inj hF, hz_316_s0⟩, by rw [ht]; exact hP, hD⟩, hS.F ht⟩) hS.2.2 dL_areCountsSo_316
                  obtain ⟨j315, hj315, hF⟩ := jn_use hF
                  have hJ315 : ∀ (s315 : Unit) (H : Heap) (locs : List Loc) (ls : Array Slot), va_P (dC, dI) vwCl (([(cXo x an tr xv), (cH cyO (x 1) (x 2) 2 fl), (cXk cyI x xv), (cH cyO (x 4) (x 5) 6 fs), (cT cyI x (X_text xv)), (cSo an nv), (cG cyI an (S_green nv)), (cV cyI an (S_score nv))] : List va_W).flatten) H → va_D A (([(cXo x an tr xv), (cH cyO (x 1) (x 2) 2 fl), (cXk cyI x xv), (cH cyO (x 4) (x 5) 6 fs), (cT cyI x (X_text xv)), (cSo an nv), (cG cyI an (S_green nv)), (cV cyI an (S_score nv))] : List va_W).flatten) → va_S A s.heap H locs → lv_has ls 7 [] → j315 s315 = some out → W p l e (headSpec (Cond.code yL_areCountsSo cL_areCountsSo 7 (some .boolean) :: wT) ({ frames := 8, cells := 83, slots := 498, locals := 123 } : Room)).room s m ([.ref (x 0)] : List Value).toArray below meth c H locs (3 + 3 * (18 - (n79 + 1)) + 2 * (13 - (n146 + 1))) (18 + 18 * (18 - (n79 + 1)) + 12 * (13 - (n146 + 1))) (MQ below (va_Qi (fun (r : Int32) (u : XV × SV) => (r, u) = out ∧ b01 r) (fun u t => va_P (dC, dI) vwCl (([(cXo x an tr u.1), (cH cyO (x 1) (x 2) 2 fl), (cXk cyI x u.1), (cH cyO (x 4) (x 5) 6 fs), (cT cyI x (X_text u.1)), (cSo an u.2), (cG cyI an (S_green u.2)), (cV cyI an (S_score u.2))] : List va_W).flatten) t.heap ∧ va_D A (([(cXo x an tr u.1), (cH cyO (x 1) (x 2) 2 fl), (cXk cyI x u.1), (cH cyO (x 4) (x 5) 6 fs), (cT cyI x (X_text u.1)), (cSo an u.2), (cG cyI an (S_green u.2)), (cV cyI an (S_score u.2))] : List va_W).flatten)) A) ([.ref (x 0)] : List Value).toArray s 83 498 A) (F0 m 315 ls []) := by
                    intro s315 H locs ls hP hD hS hl hF
                    have hF := (congrFun hj315 s315).symm.trans hF
                    refine lv_iconst (v := 0) hx hb dL_areCountsSo_315 (by decide) ?_
                    refine W.widen (k := (3 + 3 * (18 - (n79 + 1)) + 2 * (13 - (n146 + 1)))) (n := (18 + 18 * (18 - (n79 + 1)) + 12 * (13 - (n146 + 1)))) (by omega) (by omega) ?_
                    exact hJ316 (0 : Int32) _ _ _ b01_0 hP hD hS (lv_sub hl [] rfl) hF
                  refine lv_if_eq (tgt := 315) hx hb dL_areCountsSo_206 (by decide) (fun c9 => ?_) (fun c9 => ?_)
                  · have hF := itp c9 hF
                    refine W.widen (k := (3 + 3 * (18 - (n79 + 1)) + 2 * (13 - (n146 + 1)))) (n := (18 + 18 * (18 - (n79 + 1)) + 12 * (13 - (n146 + 1)))) (by omega) (by omega) ?_
                    exact hJ315 () _ _ _ hP hD hS (lv_sub hl [] rfl) hF
                  · have hF := itn c9 hF
                    refine lv_iload_n hx hb dL_areCountsSo_209 rfl (lv_at hl 1 rfl) ?_
                    refine lv_aload_n hx hb dL_areCountsSo_210 rfl (lv_at hl 0 rfl) ?_
                    obtain ⟨o10, h11, hF⟩ := obd hF
                    refine wcRVi (As := []) (rest := [.int s79.1]) (b := (x 0)) ⟨hx, hb, hml, hown, hts⟩ (met_X5_ends l dC dI cyI cyO x tr an fl fs N xv nv  o10 h11) (cwV 0 hts (gV w_methodLink_L_103 w_instanceMethod_X5_ends w_selects_X5_ends w_initialized_X5 w_code_X5_ends) rfl rfl rfl (by decide +kernel) ⟨Nat.le_of_ble_eq_true rfl, Nat.le_of_ble_eq_true rfl⟩) (va_recv hK.1 hP (ci := 5) (q0 := 0) rfl rfl) hP hK [0, 1, 2, 3, 4, 5, 6, 7, 8, 9, 10, 11, 12, 13, 14, 15, 16, 17, 18, 19, 20] rfl rfl hl.1 (Nat.le_of_ble_eq_true rfl) dL_areCountsSo_211 ⟨(show _ ≤ 83 from by omega), (show _ ≤ 498 from by omega)⟩ hS (fun r H locs hw hP hS => ?_)
                    have hw := hw.symm
                    subst hw
                    refine lv_icmp_ne (tgt := 315) hx hb dL_areCountsSo_214 (by decide) (fun c12 => ?_) (fun c12 => ?_)
                    · have hF := itn c12 hF
                      refine W.widen (k := (3 + 3 * (18 - (n79 + 1)) + 2 * (13 - (n146 + 1)))) (n := (18 + 18 * (18 - (n79 + 1)) + 12 * (13 - (n146 + 1)))) (by omega) (by omega) ?_
                      exact hJ315 () _ _ _ hP hD hS (lv_sub hl [] rfl) hF
                    · have hF := itp c12 hF
                      refine lv_iload_n hx hb dL_areCountsSo_217 rfl (lv_at hl 2 rfl) ?_
                      refine lv_aload_n hx hb dL_areCountsSo_218 rfl (lv_at hl 0 rfl) ?_
                      refine lv_iconst (v := 0) hx hb dL_areCountsSo_219 (by decide) ?_
                      obtain ⟨o13, h14, hF⟩ := obd hF
                      refine wxRVi (As := [.int (0 : Int32)]) (rest := [.int s79.2.1]) (b := (x 0)) ⟨hx, hb, hml, hown, hts⟩ (met_X5_pointsOf l z0 hst dC dI cyI cyO x tr an fl fs N xv nv (0 : Int32) o13 h14) (cwV 1 hts (gV w_methodLink_L_118 w_instanceMethod_X5_pointsOf w_selects_X5_pointsOf w_initialized_X5 w_code_X5_pointsOf) rfl rfl rfl (by decide +kernel) ⟨Nat.le_of_ble_eq_true rfl, Nat.le_of_ble_eq_true rfl⟩) (va_recv hK.1 hP (ci := 5) (q0 := 0) rfl rfl) hP hK hZ hAz [0, 1, 2, 3, 4, 5, 6, 7, 8, 9, 10, 11, 12, 13, 14, 15, 16, 17, 18, 19, 20] rfl rfl hl.1 (Nat.le_of_ble_eq_true rfl) dL_areCountsSo_220 ⟨(show _ ≤ 83 from by omega), (show _ ≤ 498 from by omega)⟩ hS (fun k ce q9 H locs hw hP hS h9 hv9 hc9 => ?_) (fun ro13 H locs hw hP hS => ?_)
                      · have hw := hw.symm
                        subst hw
                        have hF := exc_l hF
                        cases hF
                      · skip
                        have hw := hw.symm
                        subst hw
                        have hF := exc_r hF
                        refine lv_icmp_ne (tgt := 315) hx hb dL_areCountsSo_223 (by decide) (fun c15 => ?_) (fun c15 => ?_)
                        · have hF := itn c15 hF
                          refine W.widen (k := (3 + 3 * (18 - (n79 + 1)) + 2 * (13 - (n146 + 1)))) (n := (18 + 18 * (18 - (n79 + 1)) + 12 * (13 - (n146 + 1)))) (by omega) (by omega) ?_
                          exact hJ315 () _ _ _ hP hD hS (lv_sub hl [] rfl) hF
                        · have hF := itp c15 hF
                          refine lv_iload_n hx hb dL_areCountsSo_226 rfl (lv_at hl 3 rfl) ?_
                          refine lv_aload_n hx hb dL_areCountsSo_227 rfl (lv_at hl 0 rfl) ?_
                          refine lv_iconst (v := 1) hx hb dL_areCountsSo_228 (by decide) ?_
                          obtain ⟨o16, h17, hF⟩ := obd hF
                          refine wxRVi (As := [.int (1 : Int32)]) (rest := [.int s79.2.2.1]) (b := (x 0)) ⟨hx, hb, hml, hown, hts⟩ (met_X5_pointsOf l z0 hst dC dI cyI cyO x tr an fl fs N xv nv (1 : Int32) o16 h17) (cwV 1 hts (gV w_methodLink_L_118 w_instanceMethod_X5_pointsOf w_selects_X5_pointsOf w_initialized_X5 w_code_X5_pointsOf) rfl rfl rfl (by decide +kernel) ⟨Nat.le_of_ble_eq_true rfl, Nat.le_of_ble_eq_true rfl⟩) (va_recv hK.1 hP (ci := 5) (q0 := 0) rfl rfl) hP hK hZ hAz [0, 1, 2, 3, 4, 5, 6, 7, 8, 9, 10, 11, 12, 13, 14, 15, 16, 17, 18, 19, 20] rfl rfl hl.1 (Nat.le_of_ble_eq_true rfl) dL_areCountsSo_229 ⟨(show _ ≤ 83 from by omega), (show _ ≤ 498 from by omega)⟩ hS (fun k ce q9 H locs hw hP hS h9 hv9 hc9 => ?_) (fun ro16 H locs hw hP hS => ?_)
                          · have hw := hw.symm
                            subst hw
                            have hF := exc_l hF
                            cases hF
                          · skip
                            have hw := hw.symm
                            subst hw
                            have hF := exc_r hF
                            refine lv_icmp_ne (tgt := 315) hx hb dL_areCountsSo_232 (by decide) (fun c18 => ?_) (fun c18 => ?_)
                            · have hF := itn c18 hF
                              refine W.widen (k := (3 + 3 * (18 - (n79 + 1)) + 2 * (13 - (n146 + 1)))) (n := (18 + 18 * (18 - (n79 + 1)) + 12 * (13 - (n146 + 1)))) (by omega) (by omega) ?_
                              exact hJ315 () _ _ _ hP hD hS (lv_sub hl [] rfl) hF
                            · have hF := itp c18 hF
                              refine lv_aload_n hx hb dL_areCountsSo_235 rfl (lv_at hl 0 rfl) ?_
                              obtain ⟨o19, h20, hF⟩ := obd hF
                              refine wcRVi (As := []) (rest := []) (b := (x 0)) ⟨hx, hb, hml, hown, hts⟩ (met_X5_isOver l dC dI cyI cyO x tr an fl fs N xv nv  o19 h20) (cwV 0 hts (gV w_methodLink_L_86 w_instanceMethod_X5_isOver w_selects_X5_isOver w_initialized_X5 w_code_X5_isOver) rfl rfl rfl (by decide +kernel) ⟨Nat.le_of_ble_eq_true rfl, Nat.le_of_ble_eq_true rfl⟩) (va_recv hK.1 hP (ci := 5) (q0 := 0) rfl rfl) hP hK [0, 1, 2, 3, 4, 5, 6, 7, 8, 9, 10, 11, 12, 13, 14, 15, 16, 17, 18, 19, 20] rfl rfl hl.1 (Nat.le_of_ble_eq_true rfl) dL_areCountsSo_236 ⟨(show _ ≤ 83 from by omega), (show _ ≤ 498 from by omega)⟩ hS (fun r H locs hw hP hS => ?_)
                              obtain ⟨hw, hz21⟩ := hw
                              have hw := hw.symm
                              subst hw
                              refine lv_iload_n hx hb dL_areCountsSo_239 rfl (lv_at hl 2 rfl) ?_
                              refine lv_aload_n hx hb dL_areCountsSo_240 rfl (lv_at hl 0 rfl) ?_
                              obtain ⟨o22, h23, hF⟩ := obd hF
                              refine wcRVi (As := []) (rest := [.int s79.2.1, .int o19]) (b := (x 0)) ⟨hx, hb, hml, hown, hts⟩ (met_X5_needed l dC dI cyI cyO x tr an fl fs N xv nv  o22 h23) (cwV 0 hts (gV w_methodLink_L_106 w_instanceMethod_X5_needed w_selects_X5_needed w_initialized_X5 w_code_X5_needed) rfl rfl rfl (by decide +kernel) ⟨Nat.le_of_ble_eq_true rfl, Nat.le_of_ble_eq_true rfl⟩) (va_recv hK.1 hP (ci := 5) (q0 := 0) rfl rfl) hP hK [0, 1, 2, 3, 4, 5, 6, 7, 8, 9, 10, 11, 12, 13, 14, 15, 16, 17, 18, 19, 20] rfl rfl hl.1 (Nat.le_of_ble_eq_true rfl) dL_areCountsSo_241 ⟨(show _ ≤ 83 from by omega), (show _ ≤ 498 from by omega)⟩ hS (fun r H locs hw hP hS => ?_)
                              have hw := hw.symm
                              subst hw
                              obtain ⟨j260, hj260, hF⟩ := jn_use hF
                              have hJ260 : ∀ (s260 : Int32) (H : Heap) (locs : List Loc) (ls : Array Slot) (hz_260_s1 : b01 s260), va_P (dC, dI) vwCl (([(cXo x an tr xv), (cH cyO (x 1) (x 2) 2 fl), (cXk cyI x xv), (cH cyO (x 4) (x 5) 6 fs), (cT cyI x (X_text xv)), (cSo an nv), (cG cyI an (S_green nv)), (cV cyI an (S_score nv))] : List va_W).flatten) H → va_D A (([(cXo x an tr xv), (cH cyO (x 1) (x 2) 2 fl), (cXk cyI x xv), (cH cyO (x 4) (x 5) 6 fs), (cT cyI x (X_text xv)), (cSo an nv), (cG cyI an (S_green nv)), (cV cyI an (S_score nv))] : List va_W).flatten) → va_S A s.heap H locs → lv_has ls 7 [(0, .ref (x 0)), (1, .int s79.1), (2, .int s79.2.1), (3, .int s79.2.2.1), (4, .int s146.1)] → j260 s260 = some out → W p l e (headSpec (Cond.code yL_areCountsSo cL_areCountsSo 7 (some .boolean) :: wT) ({ frames := 8, cells := 83, slots := 498, locals := 123 } : Room)).room s m ([.ref (x 0)] : List Value).toArray below meth c H locs (3 + 3 * (18 - (n79 + 1)) + 2 * (13 - (n146 + 1))) (18 + 18 * (18 - (n79 + 1)) + 12 * (13 - (n146 + 1))) (MQ below (va_Qi (fun (r : Int32) (u : XV × SV) => (r, u) = out ∧ b01 r) (fun u t => va_P (dC, dI) vwCl (([(cXo x an tr u.1), (cH cyO (x 1) (x 2) 2 fl), (cXk cyI x u.1), (cH cyO (x 4) (x 5) 6 fs), (cT cyI x (X_text u.1)), (cSo an u.2), (cG cyI an (S_green u.2)), (cV cyI an (S_score u.2))] : List va_W).flatten) t.heap ∧ va_D A (([(cXo x an tr u.1), (cH cyO (x 1) (x 2) 2 fl), (cXk cyI x u.1), (cH cyO (x 4) (x 5) 6 fs), (cT cyI x (X_text u.1)), (cSo an u.2), (cG cyI an (S_green u.2)), (cV cyI an (S_score u.2))] : List va_W).flatten)) A) ([.ref (x 0)] : List Value).toArray s 83 498 A) (F0 m 260 ls [.int s260, .int o19]) := by
                                intro s260 H locs ls hz_260_s1 hP hD hS hl hF
                                have hF := (congrFun hj260 s260).symm.trans hF
                                refine lv_icmp_ne (tgt := 315) hx hb dL_areCountsSo_260 (by decide) (fun c24 => ?_) (fun c24 => ?_)
                                · have hF := itn c24 hF
                                  refine W.widen (k := (3 + 3 * (18 - (n79 + 1)) + 2 * (13 - (n146 + 1)))) (n := (18 + 18 * (18 - (n79 + 1)) + 12 * (13 - (n146 + 1)))) (by omega) (by omega) ?_
                                  exact hJ315 () _ _ _ hP hD hS (lv_sub hl [] rfl) hF
                                · have hF := itp c24 hF
                                  refine lv_aload_n hx hb dL_areCountsSo_263 rfl (lv_at hl 0 rfl) ?_
                                  obtain ⟨o25, h26, hF⟩ := obd hF
                                  refine wcRVd (As := []) (rest := []) (b := (x 0)) ⟨hx, hb, hml, hown, hts⟩ (met_X5_meanPoints l dC dI cyI cyO x tr an fl fs N xv nv  o25 h26) (cwV 0 hts (gV w_methodLink_L_179 w_instanceMethod_X5_meanPoints w_selects_X5_meanPoints w_initialized_X5 w_code_X5_meanPoints) rfl rfl rfl (by decide +kernel) ⟨Nat.le_of_ble_eq_true rfl, Nat.le_of_ble_eq_true rfl⟩) (va_recv hK.1 hP (ci := 5) (q0 := 0) rfl rfl) hP hK [0, 1, 2, 3, 4, 5, 6, 7, 8, 9, 10, 11, 12, 13, 14, 15, 16, 17, 18, 19, 20] rfl rfl hl.1 (Nat.le_of_ble_eq_true rfl) dL_areCountsSo_264 ⟨(show _ ≤ 83 from by omega), (show _ ≤ 498 from by omega)⟩ hS (fun r H locs hw hP hS => ?_)
                                  have hw := hw.symm
                                  subst hw
                                  refine lv_iload_n hx hb dL_areCountsSo_267 rfl (lv_at hl 1 rfl) ?_
                                  obtain ⟨j282, hj282, hF⟩ := jn_use hF
                                  have hJ282 : ∀ (s282 : UInt64) (H : Heap) (locs : List Loc) (ls : Array Slot), va_P (dC, dI) vwCl (([(cXo x an tr xv), (cH cyO (x 1) (x 2) 2 fl), (cXk cyI x xv), (cH cyO (x 4) (x 5) 6 fs), (cT cyI x (X_text xv)), (cSo an nv), (cG cyI an (S_green nv)), (cV cyI an (S_score nv))] : List va_W).flatten) H → va_D A (([(cXo x an tr xv), (cH cyO (x 1) (x 2) 2 fl), (cXk cyI x xv), (cH cyO (x 4) (x 5) 6 fs), (cT cyI x (X_text xv)), (cSo an nv), (cG cyI an (S_green nv)), (cV cyI an (S_score nv))] : List va_W).flatten) → va_S A s.heap H locs → lv_has ls 7 [(0, .ref (x 0)), (4, .int s146.1)] → j282 s282 = some out → W p l e (headSpec (Cond.code yL_areCountsSo cL_areCountsSo 7 (some .boolean) :: wT) ({ frames := 8, cells := 83, slots := 498, locals := 123 } : Room)).room s m ([.ref (x 0)] : List Value).toArray below meth c H locs (3 + 3 * (18 - (n79 + 1)) + 2 * (13 - (n146 + 1))) (18 + 18 * (18 - (n79 + 1)) + 12 * (13 - (n146 + 1))) (MQ below (va_Qi (fun (r : Int32) (u : XV × SV) => (r, u) = out ∧ b01 r) (fun u t => va_P (dC, dI) vwCl (([(cXo x an tr u.1), (cH cyO (x 1) (x 2) 2 fl), (cXk cyI x u.1), (cH cyO (x 4) (x 5) 6 fs), (cT cyI x (X_text u.1)), (cSo an u.2), (cG cyI an (S_green u.2)), (cV cyI an (S_score u.2))] : List va_W).flatten) t.heap ∧ va_D A (([(cXo x an tr u.1), (cH cyO (x 1) (x 2) 2 fl), (cXk cyI x u.1), (cH cyO (x 4) (x 5) 6 fs), (cT cyI x (X_text u.1)), (cSo an u.2), (cG cyI an (S_green u.2)), (cV cyI an (S_score u.2))] : List va_W).flatten)) A) ([.ref (x 0)] : List Value).toArray s 83 498 A) (F0 m 282 ls [.double s282, .double o25]) := by
                                    intro s282 H locs ls hP hD hS hl hF
                                    have hF := (congrFun hj282 s282).symm.trans hF
                                    refine lv_dcmp hx hb dL_areCountsSo_282 ?_
                                    refine lv_if_ne (tgt := 315) hx hb dL_areCountsSo_283 (by decide) (fun c27 => ?_) (fun c27 => ?_)
                                    · have hF := itn c27 hF
                                      refine W.widen (k := (3 + 3 * (18 - (n79 + 1)) + 2 * (13 - (n146 + 1)))) (n := (18 + 18 * (18 - (n79 + 1)) + 12 * (13 - (n146 + 1)))) (by omega) (by omega) ?_
                                      exact hJ315 () _ _ _ hP hD hS (lv_sub hl [] rfl) hF
                                    · have hF := itp c27 hF
                                      refine lv_aload_n hx hb dL_areCountsSo_286 rfl (lv_at hl 0 rfl) ?_
                                      obtain ⟨o28, h29, hF⟩ := obd hF
                                      refine wcRVi (As := []) (rest := []) (b := (x 0)) ⟨hx, hb, hml, hown, hts⟩ (met_X5_streak l dC dI cyI cyO x tr an fl fs N xv nv  o28 h29) (cwV 0 hts (gV w_methodLink_L_173 w_instanceMethod_X5_streak w_selects_X5_streak w_initialized_X5 w_code_X5_streak) rfl rfl rfl (by decide +kernel) ⟨Nat.le_of_ble_eq_true rfl, Nat.le_of_ble_eq_true rfl⟩) (va_recv hK.1 hP (ci := 5) (q0 := 0) rfl rfl) hP hK [0, 1, 2, 3, 4, 5, 6, 7, 8, 9, 10, 11, 12, 13, 14, 15, 16, 17, 18, 19, 20] rfl rfl hl.1 (Nat.le_of_ble_eq_true rfl) dL_areCountsSo_287 ⟨(show _ ≤ 83 from by omega), (show _ ≤ 498 from by omega)⟩ hS (fun r H locs hw hP hS => ?_)
                                      have hw := hw.symm
                                      subst hw
                                      obtain ⟨j298, hj298, hF⟩ := jn_use hF
                                      have hJ298 : ∀ (s298 : Int32) (H : Heap) (locs : List Loc) (ls : Array Slot) (hz_298_s0 : b01 s298), va_P (dC, dI) vwCl (([(cXo x an tr xv), (cH cyO (x 1) (x 2) 2 fl), (cXk cyI x xv), (cH cyO (x 4) (x 5) 6 fs), (cT cyI x (X_text xv)), (cSo an nv), (cG cyI an (S_green nv)), (cV cyI an (S_score nv))] : List va_W).flatten) H → va_D A (([(cXo x an tr xv), (cH cyO (x 1) (x 2) 2 fl), (cXk cyI x xv), (cH cyO (x 4) (x 5) 6 fs), (cT cyI x (X_text xv)), (cSo an nv), (cG cyI an (S_green nv)), (cV cyI an (S_score nv))] : List va_W).flatten) → va_S A s.heap H locs → lv_has ls 7 [(4, .int s146.1)] → j298 s298 = some out → W p l e (headSpec (Cond.code yL_areCountsSo cL_areCountsSo 7 (some .boolean) :: wT) ({ frames := 8, cells := 83, slots := 498, locals := 123 } : Room)).room s m ([.ref (x 0)] : List Value).toArray below meth c H locs (3 + 3 * (18 - (n79 + 1)) + 2 * (13 - (n146 + 1))) (18 + 18 * (18 - (n79 + 1)) + 12 * (13 - (n146 + 1))) (MQ below (va_Qi (fun (r : Int32) (u : XV × SV) => (r, u) = out ∧ b01 r) (fun u t => va_P (dC, dI) vwCl (([(cXo x an tr u.1), (cH cyO (x 1) (x 2) 2 fl), (cXk cyI x u.1), (cH cyO (x 4) (x 5) 6 fs), (cT cyI x (X_text u.1)), (cSo an u.2), (cG cyI an (S_green u.2)), (cV cyI an (S_score u.2))] : List va_W).flatten) t.heap ∧ va_D A (([(cXo x an tr u.1), (cH cyO (x 1) (x 2) 2 fl), (cXk cyI x u.1), (cH cyO (x 4) (x 5) 6 fs), (cT cyI x (X_text u.1)), (cSo an u.2), (cG cyI an (S_green u.2)), (cV cyI an (S_score u.2))] : List va_W).flatten)) A) ([.ref (x 0)] : List Value).toArray s 83 498 A) (F0 m 298 ls [.int s298]) := by
                                        intro s298 H locs ls hz_298_s0 hP hD hS hl hF
                                        have hF := (congrFun hj298 s298).symm.trans hF
                                        refine lv_iload hx hb dL_areCountsSo_298 (lv_at hl 0 rfl) ?_
                                        obtain ⟨j308, hj308, hF⟩ := jn_use hF
                                        have hJ308 : ∀ (s308 : Int32) (H : Heap) (locs : List Loc) (ls : Array Slot) (hz_308_s1 : b01 s308), va_P (dC, dI) vwCl (([(cXo x an tr xv), (cH cyO (x 1) (x 2) 2 fl), (cXk cyI x xv), (cH cyO (x 4) (x 5) 6 fs), (cT cyI x (X_text xv)), (cSo an nv), (cG cyI an (S_green nv)), (cV cyI an (S_score nv))] : List va_W).flatten) H → va_D A (([(cXo x an tr xv), (cH cyO (x 1) (x 2) 2 fl), (cXk cyI x xv), (cH cyO (x 4) (x 5) 6 fs), (cT cyI x (X_text xv)), (cSo an nv), (cG cyI an (S_green nv)), (cV cyI an (S_score nv))] : List va_W).flatten) → va_S A s.heap H locs → lv_has ls 7 [] → j308 s308 = some out → W p l e (headSpec (Cond.code yL_areCountsSo cL_areCountsSo 7 (some .boolean) :: wT) ({ frames := 8, cells := 83, slots := 498, locals := 123 } : Room)).room s m ([.ref (x 0)] : List Value).toArray below meth c H locs (3 + 3 * (18 - (n79 + 1)) + 2 * (13 - (n146 + 1))) (18 + 18 * (18 - (n79 + 1)) + 12 * (13 - (n146 + 1))) (MQ below (va_Qi (fun (r : Int32) (u : XV × SV) => (r, u) = out ∧ b01 r) (fun u t => va_P (dC, dI) vwCl (([(cXo x an tr u.1), (cH cyO (x 1) (x 2) 2 fl), (cXk cyI x u.1), (cH cyO (x 4) (x 5) 6 fs), (cT cyI x (X_text u.1)), (cSo an u.2), (cG cyI an (S_green u.2)), (cV cyI an (S_score u.2))] : List va_W).flatten) t.heap ∧ va_D A (([(cXo x an tr u.1), (cH cyO (x 1) (x 2) 2 fl), (cXk cyI x u.1), (cH cyO (x 4) (x 5) 6 fs), (cT cyI x (X_text u.1)), (cSo an u.2), (cG cyI an (S_green u.2)), (cV cyI an (S_score u.2))] : List va_W).flatten)) A) ([.ref (x 0)] : List Value).toArray s 83 498 A) (F0 m 308 ls [.int s308, .int s298]) := by
                                          intro s308 H locs ls hz_308_s1 hP hD hS hl hF
                                          have hF := (congrFun hj308 s308).symm.trans hF
                                          refine lv_icmp_ne (tgt := 315) hx hb dL_areCountsSo_308 (by decide) (fun c30 => ?_) (fun c30 => ?_)
                                          · have hF := itn c30 hF
                                            refine W.widen (k := (3 + 3 * (18 - (n79 + 1)) + 2 * (13 - (n146 + 1)))) (n := (18 + 18 * (18 - (n79 + 1)) + 12 * (13 - (n146 + 1)))) (by omega) (by omega) ?_
                                            exact hJ315 () _ _ _ hP hD hS (lv_sub hl [] rfl) hF
                                          · have hF := itp c30 hF
                                            refine lv_iconst (v := 1) hx hb dL_areCountsSo_311 (by decide) ?_
                                            refine lv_goto (tgt := 316) hx hb dL_areCountsSo_312 (by decide) ?_
                                            refine W.widen (k := (3 + 3 * (18 - (n79 + 1)) + 2 * (13 - (n146 + 1)))) (n := (18 + 18 * (18 - (n79 + 1)) + 12 * (13 - (n146 + 1)))) (by omega) (by omega) ?_
                                            exact hJ316 (1 : Int32) _ _ _ b01_1 hP hD hS (lv_sub hl [] rfl) hF
                                        refine lv_if_eq (tgt := 307) hx hb dL_areCountsSo_300 (by decide) (fun c31 => ?_) (fun c31 => ?_)
                                        · have hF := itp c31 hF
                                          refine lv_iconst (v := 0) hx hb dL_areCountsSo_307 (by decide) ?_
                                          refine W.widen (k := (3 + 3 * (18 - (n79 + 1)) + 2 * (13 - (n146 + 1)))) (n := (18 + 18 * (18 - (n79 + 1)) + 12 * (13 - (n146 + 1)))) (by omega) (by omega) ?_
                                          exact hJ308 (0 : Int32) _ _ _ b01_0 hP hD hS (lv_sub hl [] rfl) hF
                                        · have hF := itn c31 hF
                                          refine lv_iconst (v := 1) hx hb dL_areCountsSo_303 (by decide) ?_
                                          refine lv_goto (tgt := 308) hx hb dL_areCountsSo_304 (by decide) ?_
                                          refine W.widen (k := (3 + 3 * (18 - (n79 + 1)) + 2 * (13 - (n146 + 1)))) (n := (18 + 18 * (18 - (n79 + 1)) + 12 * (13 - (n146 + 1)))) (by omega) (by omega) ?_
                                          exact hJ308 (1 : Int32) _ _ _ b01_1 hP hD hS (lv_sub hl [] rfl) hF
                                      refine lv_if_le (tgt := 297) hx hb dL_areCountsSo_290 (by decide) (fun c32 => ?_) (fun c32 => ?_)
                                      · have hF := itp c32 hF
                                        refine lv_iconst (v := 0) hx hb dL_areCountsSo_297 (by decide) ?_
                                        refine W.widen (k := (3 + 3 * (18 - (n79 + 1)) + 2 * (13 - (n146 + 1)))) (n := (18 + 18 * (18 - (n79 + 1)) + 12 * (13 - (n146 + 1)))) (by omega) (by omega) ?_
                                        exact hJ298 (0 : Int32) _ _ _ b01_0 hP hD hS (lv_sub hl [1] rfl) hF
                                      · have hF := itn c32 hF
                                        refine lv_iconst (v := 1) hx hb dL_areCountsSo_293 (by decide) ?_
                                        refine lv_goto (tgt := 298) hx hb dL_areCountsSo_294 (by decide) ?_
                                        refine W.widen (k := (3 + 3 * (18 - (n79 + 1)) + 2 * (13 - (n146 + 1)))) (n := (18 + 18 * (18 - (n79 + 1)) + 12 * (13 - (n146 + 1)))) (by omega) (by omega) ?_
                                        exact hJ298 (1 : Int32) _ _ _ b01_1 hP hD hS (lv_sub hl [1] rfl) hF
                                  refine lv_if_ne (tgt := 275) hx hb dL_areCountsSo_268 (by decide) (fun c33 => ?_) (fun c33 => ?_)
                                  · have hF := itn c33 hF
                                    refine lv_iload_n hx hb dL_areCountsSo_275 rfl (lv_at hl 2 rfl) ?_
                                    refine lv_iload_n hx hb dL_areCountsSo_276 rfl (lv_at hl 3 rfl) ?_
                                    refine lv_iadd hx hb dL_areCountsSo_277 ?_
                                    refine lv_i2d hx hb dL_areCountsSo_278 ?_
                                    refine lv_iload_n hx hb dL_areCountsSo_279 rfl (lv_at hl 1 rfl) ?_
                                    refine lv_i2d hx hb dL_areCountsSo_280 ?_
                                    obtain ⟨hg34, hF⟩ := gd_use hF
                                    refine lv_ddiv hx hb dL_areCountsSo_281 hg34 ?_
                                    refine W.widen (k := (3 + 3 * (18 - (n79 + 1)) + 2 * (13 - (n146 + 1)))) (n := (18 + 18 * (18 - (n79 + 1)) + 12 * (13 - (n146 + 1)))) (by omega) (by omega) ?_
                                    exact hJ282 (FP.ddiv (FP.i2d (s79.2.1 + s79.2.2.1)) (FP.i2d s79.1)) _ _ _ hP hD hS (lv_sub hl [0, 4] rfl) hF
                                  · have hF := itp c33 hF
                                    refine lv_dconst0 hx hb dL_areCountsSo_271 ?_
                                    refine lv_goto (tgt := 282) hx hb dL_areCountsSo_272 (by decide) ?_
                                    refine W.widen (k := (3 + 3 * (18 - (n79 + 1)) + 2 * (13 - (n146 + 1)))) (n := (18 + 18 * (18 - (n79 + 1)) + 12 * (13 - (n146 + 1)))) (by omega) (by omega) ?_
                                    exact hJ282 (0 : UInt64) _ _ _ hP hD hS (lv_sub hl [0, 4] rfl) hF
                              obtain ⟨j255, hj255, hF⟩ := jn_use hF
                              have hJ255 : ∀ (s255 : Unit) (H : Heap) (locs : List Loc) (ls : Array Slot), va_P (dC, dI) vwCl (([(cXo x an tr xv), (cH cyO (x 1) (x 2) 2 fl), (cXk cyI x xv), (cH cyO (x 4) (x 5) 6 fs), (cT cyI x (X_text xv)), (cSo an nv), (cG cyI an (S_green nv)), (cV cyI an (S_score nv))] : List va_W).flatten) H → va_D A (([(cXo x an tr xv), (cH cyO (x 1) (x 2) 2 fl), (cXk cyI x xv), (cH cyO (x 4) (x 5) 6 fs), (cT cyI x (X_text xv)), (cSo an nv), (cG cyI an (S_green nv)), (cV cyI an (S_score nv))] : List va_W).flatten) → va_S A s.heap H locs → lv_has ls 7 [(0, .ref (x 0)), (1, .int s79.1), (2, .int s79.2.1), (3, .int s79.2.2.1), (4, .int s146.1)] → j255 s255 = some out → W p l e (headSpec (Cond.code yL_areCountsSo cL_areCountsSo 7 (some .boolean) :: wT) ({ frames := 8, cells := 83, slots := 498, locals := 123 } : Room)).room s m ([.ref (x 0)] : List Value).toArray below meth c H locs (3 + 3 * (18 - (n79 + 1)) + 2 * (13 - (n146 + 1))) (18 + 18 * (18 - (n79 + 1)) + 12 * (13 - (n146 + 1))) (MQ below (va_Qi (fun (r : Int32) (u : XV × SV) => (r, u) = out ∧ b01 r) (fun u t => va_P (dC, dI) vwCl (([(cXo x an tr u.1), (cH cyO (x 1) (x 2) 2 fl), (cXk cyI x u.1), (cH cyO (x 4) (x 5) 6 fs), (cT cyI x (X_text u.1)), (cSo an u.2), (cG cyI an (S_green u.2)), (cV cyI an (S_score u.2))] : List va_W).flatten) t.heap ∧ va_D A (([(cXo x an tr u.1), (cH cyO (x 1) (x 2) 2 fl), (cXk cyI x u.1), (cH cyO (x 4) (x 5) 6 fs), (cT cyI x (X_text u.1)), (cSo an u.2), (cG cyI an (S_green u.2)), (cV cyI an (S_score u.2))] : List va_W).flatten)) A) ([.ref (x 0)] : List Value).toArray s 83 498 A) (F0 m 255 ls [.int o19]) := by
                                intro s255 H locs ls hP hD hS hl hF
                                have hF := (congrFun hj255 s255).symm.trans hF
                                refine lv_iconst (v := 1) hx hb dL_areCountsSo_255 (by decide) ?_
                                refine lv_goto (tgt := 260) hx hb dL_areCountsSo_256 (by decide) ?_
                                refine W.widen (k := (3 + 3 * (18 - (n79 + 1)) + 2 * (13 - (n146 + 1)))) (n := (18 + 18 * (18 - (n79 + 1)) + 12 * (13 - (n146 + 1)))) (by omega) (by omega) ?_
                                exact hJ260 (1 : Int32) _ _ _ b01_1 hP hD hS (lv_sub hl [0, 1, 2, 3, 4] rfl) hF
                              refine lv_icmp_ge (tgt := 255) hx hb dL_areCountsSo_244 (by decide) (fun c35 => ?_) (fun c35 => ?_)
                              · have hF := itp c35 hF
                                refine W.widen (k := (3 + 3 * (18 - (n79 + 1)) + 2 * (13 - (n146 + 1)))) (n := (18 + 18 * (18 - (n79 + 1)) + 12 * (13 - (n146 + 1)))) (by omega) (by omega) ?_
                                exact hJ255 () _ _ _ hP hD hS (lv_sub hl [0, 1, 2, 3, 4] rfl) hF
                              · have hF := itn c35 hF
                                refine lv_iload_n hx hb dL_areCountsSo_247 rfl (lv_at hl 3 rfl) ?_
                                refine lv_aload_n hx hb dL_areCountsSo_248 rfl (lv_at hl 0 rfl) ?_
                                obtain ⟨o36, h37, hF⟩ := obd hF
                                refine wcRVi (As := []) (rest := [.int s79.2.2.1, .int o19]) (b := (x 0)) ⟨hx, hb, hml, hown, hts⟩ (met_X5_needed l dC dI cyI cyO x tr an fl fs N xv nv  o36 h37) (cwV 0 hts (gV w_methodLink_L_106 w_instanceMethod_X5_needed w_selects_X5_needed w_initialized_X5 w_code_X5_needed) rfl rfl rfl (by decide +kernel) ⟨Nat.le_of_ble_eq_true rfl, Nat.le_of_ble_eq_true rfl⟩) (va_recv hK.1 hP (ci := 5) (q0 := 0) rfl rfl) hP hK [0, 1, 2, 3, 4, 5, 6, 7, 8, 9, 10, 11, 12, 13, 14, 15, 16, 17, 18, 19, 20] rfl rfl hl.1 (Nat.le_of_ble_eq_true rfl) dL_areCountsSo_249 ⟨(show _ ≤ 83 from by omega), (show _ ≤ 498 from by omega)⟩ hS (fun r H locs hw hP hS => ?_)
                                have hw := hw.symm
                                subst hw
                                refine lv_icmp_lt (tgt := 259) hx hb dL_areCountsSo_252 (by decide) (fun c38 => ?_) (fun c38 => ?_)
                                · have hF := itp c38 hF
                                  refine lv_iconst (v := 0) hx hb dL_areCountsSo_259 (by decide) ?_
                                  refine W.widen (k := (3 + 3 * (18 - (n79 + 1)) + 2 * (13 - (n146 + 1)))) (n := (18 + 18 * (18 - (n79 + 1)) + 12 * (13 - (n146 + 1)))) (by omega) (by omega) ?_
                                  exact hJ260 (0 : Int32) _ _ _ b01_0 hP hD hS (lv_sub hl [0, 1, 2, 3, 4] rfl) hF
                                · have hF := itn c38 hF
                                  refine W.widen (k := (3 + 3 * (18 - (n79 + 1)) + 2 * (13 - (n146 + 1)))) (n := (18 + 18 * (18 - (n79 + 1)) + 12 * (13 - (n146 + 1)))) (by omega) (by omega) ?_
                                  exact hJ255 () _ _ _ hP hD hS (lv_sub hl [0, 1, 2, 3, 4] rfl) hF
                · have hF := itn c8 hF
                  refine lv_aload_n hx hb dL_areCountsSo_155 rfl (lv_at hl 0 rfl) ?_
                  refine lv_iload hx hb dL_areCountsSo_156 (lv_at hl 6 rfl) ?_
                  obtain ⟨o39, h40, hF⟩ := obd hF
                  refine wxRVi (As := [.int s146.2.2]) (rest := []) (b := (x 0)) ⟨hx, hb, hml, hown, hts⟩ (met_X5_pointsOfEnd l z0 hst dC dI cyI cyO x tr an fl fs N xv nv s146.2.2 o39 h40) (cwV 1 hts (gV w_methodLink_L_176 w_instanceMethod_X5_pointsOfEnd w_selects_X5_pointsOfEnd w_initialized_X5 w_code_X5_pointsOfEnd) rfl rfl rfl (by decide +kernel) ⟨Nat.le_of_ble_eq_true rfl, Nat.le_of_ble_eq_true rfl⟩) (va_recv hK.1 hP (ci := 5) (q0 := 0) rfl rfl) hP hK hZ hAz [0, 1, 2, 3, 4, 5, 6, 7, 8, 9, 10, 11, 12, 13, 14, 15, 16, 17, 18, 19, 20] rfl rfl hl.1 (Nat.le_of_ble_eq_true rfl) dL_areCountsSo_158 ⟨(show _ ≤ 83 from by omega), (show _ ≤ 498 from by omega)⟩ hS (fun k ce q9 H locs hw hP hS h9 hv9 hc9 => ?_) (fun ro39 H locs hw hP hS => ?_)
                  · have hw := hw.symm
                    subst hw
                    have hF := exc_l hF
                    cases hF
                  · skip
                    have hw := hw.symm
                    subst hw
                    have hF := exc_r hF
                    refine lv_istore (lv' := [(4, .int ro39), (0, .ref (x 0)), (1, .int s79.1), (2, .int s79.2.1), (3, .int s79.2.2.1), (5, .int s146.2.1), (6, .int s146.2.2)]) hx hb dL_areCountsSo_161 hl (by decide) rfl (fun ls hl => ?_)
                    refine lv_iload hx hb dL_areCountsSo_163 (lv_at hl 5 rfl) ?_
                    obtain ⟨j196, hj196, hF⟩ := jn_use hF
                    have hJ196 : ∀ (s196 : Int32) (H : Heap) (locs : List Loc) (ls : Array Slot) (hz_196_s0 : b01 s196), va_P (dC, dI) vwCl (([(cXo x an tr xv), (cH cyO (x 1) (x 2) 2 fl), (cXk cyI x xv), (cH cyO (x 4) (x 5) 6 fs), (cT cyI x (X_text xv)), (cSo an nv), (cG cyI an (S_green nv)), (cV cyI an (S_score nv))] : List va_W).flatten) H → va_D A (([(cXo x an tr xv), (cH cyO (x 1) (x 2) 2 fl), (cXk cyI x xv), (cH cyO (x 4) (x 5) 6 fs), (cT cyI x (X_text xv)), (cSo an nv), (cG cyI an (S_green nv)), (cV cyI an (S_score nv))] : List va_W).flatten) → va_S A s.heap H locs → lv_has ls 7 [(0, .ref (x 0)), (1, .int s79.1), (2, .int s79.2.1), (3, .int s79.2.2.1), (4, .int ro39), (6, .int s146.2.2)] → j196 s196 = some out → W p l e (headSpec (Cond.code yL_areCountsSo cL_areCountsSo 7 (some .boolean) :: wT) ({ frames := 8, cells := 83, slots := 498, locals := 123 } : Room)).room s m ([.ref (x 0)] : List Value).toArray below meth c H locs (3 + 3 * (18 - (n79 + 1)) + 2 * (13 - (n146 + 1))) (18 + 18 * (18 - (n79 + 1)) + 12 * (13 - (n146 + 1))) (MQ below (va_Qi (fun (r : Int32) (u : XV × SV) => (r, u) = out ∧ b01 r) (fun u t => va_P (dC, dI) vwCl (([(cXo x an tr u.1), (cH cyO (x 1) (x 2) 2 fl), (cXk cyI x u.1), (cH cyO (x 4) (x 5) 6 fs), (cT cyI x (X_text u.1)), (cSo an u.2), (cG cyI an (S_green u.2)), (cV cyI an (S_score u.2))] : List va_W).flatten) t.heap ∧ va_D A (([(cXo x an tr u.1), (cH cyO (x 1) (x 2) 2 fl), (cXk cyI x u.1), (cH cyO (x 4) (x 5) 6 fs), (cT cyI x (X_text u.1)), (cSo an u.2), (cG cyI an (S_green u.2)), (cV cyI an (S_score u.2))] : List va_W).flatten)) A) ([.ref (x 0)] : List Value).toArray s 83 498 A) (F0 m 196 ls [.int s196]) := by
                      intro s196 H locs ls hz_196_s0 hP hD hS hl hF
                      have hF := (congrFun hj196 s196).symm.trans hF
                      refine lv_istore (lv' := [(5, .int s196), (0, .ref (x 0)), (1, .int s79.1), (2, .int s79.2.1), (3, .int s79.2.2.1), (4, .int ro39), (6, .int s146.2.2)]) hx hb dL_areCountsSo_196 hl (by decide) rfl (fun ls hl => ?_)
                      refine lv_iinc (v := (s146.2.2 + (1 : Int32))) (lv' := [(6, .int (s146.2.2 + (1 : Int32))), (5, .int s196), (0, .ref (x 0)), (1, .int s79.1), (2, .int s79.2.1), (3, .int s79.2.2.1), (4, .int ro39)]) hx hb dL_areCountsSo_198 hl (k := 6) rfl rfl (by decide) rfl (fun ls hl => ?_)
                      refine lv_goto (tgt := 146) hx hb dL_areCountsSo_201 (by decide) ?_
                      refine W.widen (k := (1 + 3 * (18 - (n79 + 1)) + 2 * (13 - (n146)))) (n := (6 + 18 * (18 - (n79 + 1)) + 12 * (13 - (n146)))) (by omega) (by omega) ?_
                      exact ih146 (by omega) (ro39, s196, (s146.2.2 + (1 : Int32))) _ _ _ hz_196_s0 hP hD hS (lv_sub hl [2, 3, 4, 5, 6, 1, 0] rfl) hF
                    obtain ⟨j195, hj195, hF⟩ := jn_use hF
                    have hJ195 : ∀ (s195 : Unit) (H : Heap) (locs : List Loc) (ls : Array Slot), va_P (dC, dI) vwCl (([(cXo x an tr xv), (cH cyO (x 1) (x 2) 2 fl), (cXk cyI x xv), (cH cyO (x 4) (x 5) 6 fs), (cT cyI x (X_text xv)), (cSo an nv), (cG cyI an (S_green nv)), (cV cyI an (S_score nv))] : List va_W).flatten) H → va_D A (([(cXo x an tr xv), (cH cyO (x 1) (x 2) 2 fl), (cXk cyI x xv), (cH cyO (x 4) (x 5) 6 fs), (cT cyI x (X_text xv)), (cSo an nv), (cG cyI an (S_green nv)), (cV cyI an (S_score nv))] : List va_W).flatten) → va_S A s.heap H locs → lv_has ls 7 [(0, .ref (x 0)), (1, .int s79.1), (2, .int s79.2.1), (3, .int s79.2.2.1), (4, .int ro39), (6, .int s146.2.2)] → j195 s195 = some out → W p l e (headSpec (Cond.code yL_areCountsSo cL_areCountsSo 7 (some .boolean) :: wT) ({ frames := 8, cells := 83, slots := 498, locals := 123 } : Room)).room s m ([.ref (x 0)] : List Value).toArray below meth c H locs (3 + 3 * (18 - (n79 + 1)) + 2 * (13 - (n146 + 1))) (18 + 18 * (18 - (n79 + 1)) + 12 * (13 - (n146 + 1))) (MQ below (va_Qi (fun (r : Int32) (u : XV × SV) => (r, u) = out ∧ b01 r) (fun u t => va_P (dC, dI) vwCl (([(cXo x an tr u.1), (cH cyO (x 1) (x 2) 2 fl), (cXk cyI x u.1), (cH cyO (x 4) (x 5) 6 fs), (cT cyI x (X_text u.1)), (cSo an u.2), (cG cyI an (S_green u.2)), (cV cyI an (S_score u.2))] : List va_W).flatten) t.heap ∧ va_D A (([(cXo x an tr u.1), (cH cyO (x 1) (x 2) 2 fl), (cXk cyI x u.1), (cH cyO (x 4) (x 5) 6 fs), (cT cyI x (X_text u.1)), (cSo an u.2), (cG cyI an (S_green u.2)), (cV cyI an (S_score u.2))] : List va_W).flatten)) A) ([.ref (x 0)] : List Value).toArray s 83 498 A) (F0 m 195 ls []) := by
                      intro s195 H locs ls hP hD hS hl hF
                      have hF := (congrFun hj195 s195).symm.trans hF
                      refine lv_iconst (v := 0) hx hb dL_areCountsSo_195 (by decide) ?_
                      refine W.widen (k := (3 + 3 * (18 - (n79 + 1)) + 2 * (13 - (n146 + 1)))) (n := (18 + 18 * (18 - (n79 + 1)) + 12 * (13 - (n146 + 1)))) (by omega) (by omega) ?_
                      exact hJ196 (0 : Int32) _ _ _ b01_0 hP hD hS (lv_sub hl [0, 1, 2, 3, 4, 5] rfl) hF
                    refine lv_if_eq (tgt := 195) hx hb dL_areCountsSo_165 (by decide) (fun c41 => ?_) (fun c41 => ?_)
                    · have hF := itp c41 hF
                      refine W.widen (k := (3 + 3 * (18 - (n79 + 1)) + 2 * (13 - (n146 + 1)))) (n := (18 + 18 * (18 - (n79 + 1)) + 12 * (13 - (n146 + 1)))) (by omega) (by omega) ?_
                      exact hJ195 () _ _ _ hP hD hS (lv_sub hl [1, 2, 3, 4, 0, 6] rfl) hF
                    · have hF := itn c41 hF
                      refine lv_iload hx hb dL_areCountsSo_168 (lv_at hl 0 rfl) ?_
                      refine lv_bipush (v := -8) hx hb dL_areCountsSo_170 (by decide) ?_
                      refine lv_icmp_lt (tgt := 195) hx hb dL_areCountsSo_172 (by decide) (fun c42 => ?_) (fun c42 => ?_)
                      · have hF := itp c42 hF
                        refine W.widen (k := (3 + 3 * (18 - (n79 + 1)) + 2 * (13 - (n146 + 1)))) (n := (18 + 18 * (18 - (n79 + 1)) + 12 * (13 - (n146 + 1)))) (by omega) (by omega) ?_
                        exact hJ195 () _ _ _ hP hD hS (lv_sub hl [1, 2, 3, 4, 0, 6] rfl) hF
                      · have hF := itn c42 hF
                        refine lv_iload hx hb dL_areCountsSo_175 (lv_at hl 0 rfl) ?_
                        refine lv_bipush (v := 8) hx hb dL_areCountsSo_177 (by decide) ?_
                        refine lv_icmp_gt (tgt := 195) hx hb dL_areCountsSo_179 (by decide) (fun c43 => ?_) (fun c43 => ?_)
                        · have hF := itp c43 hF
                          refine W.widen (k := (3 + 3 * (18 - (n79 + 1)) + 2 * (13 - (n146 + 1)))) (n := (18 + 18 * (18 - (n79 + 1)) + 12 * (13 - (n146 + 1)))) (by omega) (by omega) ?_
                          exact hJ195 () _ _ _ hP hD hS (lv_sub hl [1, 2, 3, 4, 0, 6] rfl) hF
                        · have hF := itn c43 hF
                          refine lv_aload_n hx hb dL_areCountsSo_182 rfl (lv_at hl 1 rfl) ?_
                          refine lv_iload hx hb dL_areCountsSo_183 (lv_at hl 0 rfl) ?_
                          obtain ⟨o44, h45, hF⟩ := obd hF
                          refine wxRVi (As := [.int ro39]) (rest := []) (b := (x 0)) ⟨hx, hb, hml, hown, hts⟩ (met_X5_endsWith l z0 hst dC dI cyI cyO x tr an fl fs N xv nv ro39 o44 h45) (cwV 1 hts (gV w_methodLink_L_170 w_instanceMethod_X5_endsWith w_selects_X5_endsWith w_initialized_X5 w_code_X5_endsWith) rfl rfl rfl (by decide +kernel) ⟨Nat.le_of_ble_eq_true rfl, Nat.le_of_ble_eq_true rfl⟩) (va_recv hK.1 hP (ci := 5) (q0 := 0) rfl rfl) hP hK hZ hAz [0, 1, 2, 3, 4, 5, 6, 7, 8, 9, 10, 11, 12, 13, 14, 15, 16, 17, 18, 19, 20] rfl rfl hl.1 (Nat.le_of_ble_eq_true rfl) dL_areCountsSo_185 ⟨(show _ ≤ 83 from by omega), (show _ ≤ 498 from by omega)⟩ hS (fun k ce q9 H locs hw hP hS h9 hv9 hc9 => ?_) (fun ro44 H locs hw hP hS => ?_)
                          · have hw := hw.symm
                            subst hw
                            have hF := exc_l hF
                            cases hF
                          · skip
                            have hw := hw.symm
                            subst hw
                            have hF := exc_r hF
                            refine lv_if_le (tgt := 195) hx hb dL_areCountsSo_188 (by decide) (fun c46 => ?_) (fun c46 => ?_)
                            · have hF := itp c46 hF
                              refine W.widen (k := (3 + 3 * (18 - (n79 + 1)) + 2 * (13 - (n146 + 1)))) (n := (18 + 18 * (18 - (n79 + 1)) + 12 * (13 - (n146 + 1)))) (by omega) (by omega) ?_
                              exact hJ195 () _ _ _ hP hD hS (lv_sub hl [1, 2, 3, 4, 0, 6] rfl) hF
                            · have hF := itn c46 hF
                              refine lv_iconst (v := 1) hx hb dL_areCountsSo_191 (by decide) ?_
                              refine lv_goto (tgt := 196) hx hb dL_areCountsSo_192 (by decide) ?_
                              refine W.widen (k := (3 + 3 * (18 - (n79 + 1)) + 2 * (13 - (n146 + 1)))) (n := (18 + 18 * (18 - (n79 + 1)) + 12 * (13 - (n146 + 1)))) (by omega) (by omega) ?_
                              exact hJ196 (1 : Int32) _ _ _ b01_1 hP hD hS (lv_sub hl [1, 2, 3, 4, 0, 6] rfl) hF
            refine W.widen (k := (1 + 3 * (18 - (n79 + 1)) + 2 * (13 - (13)))) (n := (6 + 18 * (18 - (n79 + 1)) + 12 * (13 - (13)))) (by omega) (by omega) ?_
            exact hL146 13 (Nat.le_refl _) ((0 : Int32), s73, (0 : Int32)) _ _ _ hz_73_s0 hP hD hS (lv_sub hl [1, 2, 3, 4, 5, 6, 0] rfl) hF
          · have hF := itn c5 hF
            refine lv_iload_n hx hb dL_areCountsSo_86 rfl (lv_at hl 1 rfl) ?_
            refine lv_aload_n hx hb dL_areCountsSo_87 rfl (lv_at hl 0 rfl) ?_
            refine lv_iload hx hb dL_areCountsSo_88 (lv_at hl 6 rfl) ?_
            obtain ⟨o47, h48, hF⟩ := obd hF
            refine wxRVi (As := [.int s79.2.2.2]) (rest := [.int s79.1]) (b := (x 0)) ⟨hx, hb, hml, hown, hts⟩ (met_X5_endsWith l z0 hst dC dI cyI cyO x tr an fl fs N xv nv s79.2.2.2 o47 h48) (cwV 1 hts (gV w_methodLink_L_170 w_instanceMethod_X5_endsWith w_selects_X5_endsWith w_initialized_X5 w_code_X5_endsWith) rfl rfl rfl (by decide +kernel) ⟨Nat.le_of_ble_eq_true rfl, Nat.le_of_ble_eq_true rfl⟩) (va_recv hK.1 hP (ci := 5) (q0 := 0) rfl rfl) hP hK hZ hAz [0, 1, 2, 3, 4, 5, 6, 7, 8, 9, 10, 11, 12, 13, 14, 15, 16, 17, 18, 19, 20] rfl rfl hl.1 (Nat.le_of_ble_eq_true rfl) dL_areCountsSo_90 ⟨(show _ ≤ 83 from by omega), (show _ ≤ 498 from by omega)⟩ hS (fun k ce q9 H locs hw hP hS h9 hv9 hc9 => ?_) (fun ro47 H locs hw hP hS => ?_)
            · have hw := hw.symm
              subst hw
              have hF := exc_l hF
              cases hF
            · skip
              have hw := hw.symm
              subst hw
              have hF := exc_r hF
              refine lv_iadd hx hb dL_areCountsSo_93 ?_
              refine lv_istore_n (lv' := [(1, .int (s79.1 + ro47)), (0, .ref (x 0)), (2, .int s79.2.1), (3, .int s79.2.2.1), (4, .int (0 : Int32)), (5, .int s73), (6, .int s79.2.2.2)]) hx hb dL_areCountsSo_94 rfl hl (by decide) rfl (fun ls hl => ?_)
              refine lv_iload_n hx hb dL_areCountsSo_95 rfl (lv_at hl 2 rfl) ?_
              refine lv_iload hx hb dL_areCountsSo_96 (lv_at hl 6 rfl) ?_
              obtain ⟨j114, hj114, hF⟩ := jn_use hF
              have hJ114 : ∀ (s114 : Int32) (H : Heap) (locs : List Loc) (ls : Array Slot), va_P (dC, dI) vwCl (([(cXo x an tr xv), (cH cyO (x 1) (x 2) 2 fl), (cXk cyI x xv), (cH cyO (x 4) (x 5) 6 fs), (cT cyI x (X_text xv)), (cSo an nv), (cG cyI an (S_green nv)), (cV cyI an (S_score nv))] : List va_W).flatten) H → va_D A (([(cXo x an tr xv), (cH cyO (x 1) (x 2) 2 fl), (cXk cyI x xv), (cH cyO (x 4) (x 5) 6 fs), (cT cyI x (X_text xv)), (cSo an nv), (cG cyI an (S_green nv)), (cV cyI an (S_score nv))] : List va_W).flatten) → va_S A s.heap H locs → lv_has ls 7 [(0, .ref (x 0)), (1, .int (s79.1 + ro47)), (3, .int s79.2.2.1), (4, .int (0 : Int32)), (5, .int s73), (6, .int s79.2.2.2)] → j114 s114 = some out → W p l e (headSpec (Cond.code yL_areCountsSo cL_areCountsSo 7 (some .boolean) :: wT) ({ frames := 8, cells := 83, slots := 498, locals := 123 } : Room)).room s m ([.ref (x 0)] : List Value).toArray below meth c H locs (3 + 3 * (18 - (n79 + 1))) (18 + 18 * (18 - (n79 + 1))) (MQ below (va_Qi (fun (r : Int32) (u : XV × SV) => (r, u) = out ∧ b01 r) (fun u t => va_P (dC, dI) vwCl (([(cXo x an tr u.1), (cH cyO (x 1) (x 2) 2 fl), (cXk cyI x u.1), (cH cyO (x 4) (x 5) 6 fs), (cT cyI x (X_text u.1)), (cSo an u.2), (cG cyI an (S_green u.2)), (cV cyI an (S_score u.2))] : List va_W).flatten) t.heap ∧ va_D A (([(cXo x an tr u.1), (cH cyO (x 1) (x 2) 2 fl), (cXk cyI x u.1), (cH cyO (x 4) (x 5) 6 fs), (cT cyI x (X_text u.1)), (cSo an u.2), (cG cyI an (S_green u.2)), (cV cyI an (S_score u.2))] : List va_W).flatten)) A) ([.ref (x 0)] : List Value).toArray s 83 498 A) (F0 m 114 ls [.int s114, .int s79.2.1]) := by
                intro s114 H locs ls hP hD hS hl hF
                have hF := (congrFun hj114 s114).symm.trans hF
                refine lv_iadd hx hb dL_areCountsSo_114 ?_
                refine lv_istore_n (lv' := [(2, .int (s79.2.1 + s114)), (0, .ref (x 0)), (1, .int (s79.1 + ro47)), (3, .int s79.2.2.1), (4, .int (0 : Int32)), (5, .int s73), (6, .int s79.2.2.2)]) hx hb dL_areCountsSo_115 rfl hl (by decide) rfl (fun ls hl => ?_)
                refine lv_iload_n hx hb dL_areCountsSo_116 rfl (lv_at hl 3 rfl) ?_
                refine lv_iload hx hb dL_areCountsSo_117 (lv_at hl 6 rfl) ?_
                obtain ⟨j135, hj135, hF⟩ := jn_use hF
                have hJ135 : ∀ (s135 : Int32) (H : Heap) (locs : List Loc) (ls : Array Slot), va_P (dC, dI) vwCl (([(cXo x an tr xv), (cH cyO (x 1) (x 2) 2 fl), (cXk cyI x xv), (cH cyO (x 4) (x 5) 6 fs), (cT cyI x (X_text xv)), (cSo an nv), (cG cyI an (S_green nv)), (cV cyI an (S_score nv))] : List va_W).flatten) H → va_D A (([(cXo x an tr xv), (cH cyO (x 1) (x 2) 2 fl), (cXk cyI x xv), (cH cyO (x 4) (x 5) 6 fs), (cT cyI x (X_text xv)), (cSo an nv), (cG cyI an (S_green nv)), (cV cyI an (S_score nv))] : List va_W).flatten) → va_S A s.heap H locs → lv_has ls 7 [(0, .ref (x 0)), (1, .int (s79.1 + ro47)), (2, .int (s79.2.1 + s114)), (4, .int (0 : Int32)), (5, .int s73), (6, .int s79.2.2.2)] → j135 s135 = some out → W p l e (headSpec (Cond.code yL_areCountsSo cL_areCountsSo 7 (some .boolean) :: wT) ({ frames := 8, cells := 83, slots := 498, locals := 123 } : Room)).room s m ([.ref (x 0)] : List Value).toArray below meth c H locs (4 + 3 * (18 - (n79 + 1))) (24 + 18 * (18 - (n79 + 1))) (MQ below (va_Qi (fun (r : Int32) (u : XV × SV) => (r, u) = out ∧ b01 r) (fun u t => va_P (dC, dI) vwCl (([(cXo x an tr u.1), (cH cyO (x 1) (x 2) 2 fl), (cXk cyI x u.1), (cH cyO (x 4) (x 5) 6 fs), (cT cyI x (X_text u.1)), (cSo an u.2), (cG cyI an (S_green u.2)), (cV cyI an (S_score u.2))] : List va_W).flatten) t.heap ∧ va_D A (([(cXo x an tr u.1), (cH cyO (x 1) (x 2) 2 fl), (cXk cyI x u.1), (cH cyO (x 4) (x 5) 6 fs), (cT cyI x (X_text u.1)), (cSo an u.2), (cG cyI an (S_green u.2)), (cV cyI an (S_score u.2))] : List va_W).flatten)) A) ([.ref (x 0)] : List Value).toArray s 83 498 A) (F0 m 135 ls [.int s135, .int s79.2.2.1]) := by
                  intro s135 H locs ls hP hD hS hl hF
                  have hF := (congrFun hj135 s135).symm.trans hF
                  refine lv_isub hx hb dL_areCountsSo_135 ?_
                  refine lv_istore_n (lv' := [(3, .int (s79.2.2.1 - s135)), (0, .ref (x 0)), (1, .int (s79.1 + ro47)), (2, .int (s79.2.1 + s114)), (4, .int (0 : Int32)), (5, .int s73), (6, .int s79.2.2.2)]) hx hb dL_areCountsSo_136 rfl hl (by decide) rfl (fun ls hl => ?_)
                  refine lv_iinc (v := (s79.2.2.2 + (1 : Int32))) (lv' := [(6, .int (s79.2.2.2 + (1 : Int32))), (3, .int (s79.2.2.1 - s135)), (0, .ref (x 0)), (1, .int (s79.1 + ro47)), (2, .int (s79.2.1 + s114)), (4, .int (0 : Int32)), (5, .int s73)]) hx hb dL_areCountsSo_137 hl (k := 6) rfl rfl (by decide) rfl (fun ls hl => ?_)
                  refine lv_goto (tgt := 79) hx hb dL_areCountsSo_140 (by decide) ?_
                  refine W.widen (k := (1 + 3 * (18 - (n79)))) (n := (6 + 18 * (18 - (n79)))) (by omega) (by omega) ?_
                  exact ih79 (by omega) ((s79.1 + ro47), (s79.2.1 + s114), (s79.2.2.1 - s135), (s79.2.2.2 + (1 : Int32))) _ _ _ hP hD hS (lv_sub hl [2, 3, 4, 1, 5, 6, 0] rfl) hF
                refine lv_if_ge (tgt := 134) hx hb dL_areCountsSo_119 (by decide) (fun c49 => ?_) (fun c49 => ?_)
                · have hF := itp c49 hF
                  refine lv_iconst (v := 0) hx hb dL_areCountsSo_134 (by decide) ?_
                  refine W.widen (k := (4 + 3 * (18 - (n79 + 1)))) (n := (24 + 18 * (18 - (n79 + 1)))) (by omega) (by omega) ?_
                  exact hJ135 (0 : Int32) _ _ _ hP hD hS (lv_sub hl [1, 2, 0, 4, 5, 6] rfl) hF
                · have hF := itn c49 hF
                  refine lv_iload hx hb dL_areCountsSo_122 (lv_at hl 6 rfl) ?_
                  refine lv_aload_n hx hb dL_areCountsSo_124 rfl (lv_at hl 1 rfl) ?_
                  refine lv_iload hx hb dL_areCountsSo_125 (lv_at hl 6 rfl) ?_
                  obtain ⟨o50, h51, hF⟩ := obd hF
                  refine wxRVi (As := [.int s79.2.2.2]) (rest := [.int s79.2.2.2, .int s79.2.2.1]) (b := (x 0)) ⟨hx, hb, hml, hown, hts⟩ (met_X5_endsWith l z0 hst dC dI cyI cyO x tr an fl fs N xv nv s79.2.2.2 o50 h51) (cwV 1 hts (gV w_methodLink_L_170 w_instanceMethod_X5_endsWith w_selects_X5_endsWith w_initialized_X5 w_code_X5_endsWith) rfl rfl rfl (by decide +kernel) ⟨Nat.le_of_ble_eq_true rfl, Nat.le_of_ble_eq_true rfl⟩) (va_recv hK.1 hP (ci := 5) (q0 := 0) rfl rfl) hP hK hZ hAz [0, 1, 2, 3, 4, 5, 6, 7, 8, 9, 10, 11, 12, 13, 14, 15, 16, 17, 18, 19, 20] rfl rfl hl.1 (Nat.le_of_ble_eq_true rfl) dL_areCountsSo_127 ⟨(show _ ≤ 83 from by omega), (show _ ≤ 498 from by omega)⟩ hS (fun k ce q9 H locs hw hP hS h9 hv9 hc9 => ?_) (fun ro50 H locs hw hP hS => ?_)
                  · have hw := hw.symm
                    subst hw
                    have hF := exc_l hF
                    cases hF
                  · skip
                    have hw := hw.symm
                    subst hw
                    have hF := exc_r hF
                    refine lv_imul hx hb dL_areCountsSo_130 ?_
                    refine lv_goto (tgt := 135) hx hb dL_areCountsSo_131 (by decide) ?_
                    refine W.widen (k := (4 + 3 * (18 - (n79 + 1)))) (n := (24 + 18 * (18 - (n79 + 1)))) (by omega) (by omega) ?_
                    exact hJ135 (s79.2.2.2 * ro50) _ _ _ hP hD hS (lv_sub hl [1, 2, 0, 4, 5, 6] rfl) hF
              refine lv_if_le (tgt := 113) hx hb dL_areCountsSo_98 (by decide) (fun c52 => ?_) (fun c52 => ?_)
              · have hF := itp c52 hF
                refine lv_iconst (v := 0) hx hb dL_areCountsSo_113 (by decide) ?_
                refine W.widen (k := (3 + 3 * (18 - (n79 + 1)))) (n := (18 + 18 * (18 - (n79 + 1)))) (by omega) (by omega) ?_
                exact hJ114 (0 : Int32) _ _ _ hP hD hS (lv_sub hl [1, 0, 3, 4, 5, 6] rfl) hF
              · have hF := itn c52 hF
                refine lv_iload hx hb dL_areCountsSo_101 (lv_at hl 6 rfl) ?_
                refine lv_aload_n hx hb dL_areCountsSo_103 rfl (lv_at hl 1 rfl) ?_
                refine lv_iload hx hb dL_areCountsSo_104 (lv_at hl 6 rfl) ?_
                obtain ⟨o53, h54, hF⟩ := obd hF
                refine wxRVi (As := [.int s79.2.2.2]) (rest := [.int s79.2.2.2, .int s79.2.1]) (b := (x 0)) ⟨hx, hb, hml, hown, hts⟩ (met_X5_endsWith l z0 hst dC dI cyI cyO x tr an fl fs N xv nv s79.2.2.2 o53 h54) (cwV 1 hts (gV w_methodLink_L_170 w_instanceMethod_X5_endsWith w_selects_X5_endsWith w_initialized_X5 w_code_X5_endsWith) rfl rfl rfl (by decide +kernel) ⟨Nat.le_of_ble_eq_true rfl, Nat.le_of_ble_eq_true rfl⟩) (va_recv hK.1 hP (ci := 5) (q0 := 0) rfl rfl) hP hK hZ hAz [0, 1, 2, 3, 4, 5, 6, 7, 8, 9, 10, 11, 12, 13, 14, 15, 16, 17, 18, 19, 20] rfl rfl hl.1 (Nat.le_of_ble_eq_true rfl) dL_areCountsSo_106 ⟨(show _ ≤ 83 from by omega), (show _ ≤ 498 from by omega)⟩ hS (fun k ce q9 H locs hw hP hS h9 hv9 hc9 => ?_) (fun ro53 H locs hw hP hS => ?_)
                · have hw := hw.symm
                  subst hw
                  have hF := exc_l hF
                  cases hF
                · skip
                  have hw := hw.symm
                  subst hw
                  have hF := exc_r hF
                  refine lv_imul hx hb dL_areCountsSo_109 ?_
                  refine lv_goto (tgt := 114) hx hb dL_areCountsSo_110 (by decide) ?_
                  refine W.widen (k := (3 + 3 * (18 - (n79 + 1)))) (n := (18 + 18 * (18 - (n79 + 1)))) (by omega) (by omega) ?_
                  exact hJ114 (s79.2.2.2 * ro53) _ _ _ hP hD hS (lv_sub hl [1, 0, 3, 4, 5, 6] rfl) hF
      refine W.widen (k := (1 + 3 * (18 - (18)))) (n := (6 + 18 * (18 - (18)))) (by omega) (by omega) ?_
      exact hL79 18 (Nat.le_refl _) ((0 : Int32), (0 : Int32), (0 : Int32), (-8 : Int32)) _ _ _ hP hD hS (lv_sub hl [2, 3, 4, 5, 6, 1, 0] rfl) hF
    obtain ⟨j72, hj72, hF⟩ := jn_use hF
    have hJ72 : ∀ (s72 : Unit) (H : Heap) (locs : List Loc) (ls : Array Slot), va_P (dC, dI) vwCl (([(cXo x an tr xv), (cH cyO (x 1) (x 2) 2 fl), (cXk cyI x xv), (cH cyO (x 4) (x 5) 6 fs), (cT cyI x (X_text xv)), (cSo an nv), (cG cyI an (S_green nv)), (cV cyI an (S_score nv))] : List va_W).flatten) H → va_D A (([(cXo x an tr xv), (cH cyO (x 1) (x 2) 2 fl), (cXk cyI x xv), (cH cyO (x 4) (x 5) 6 fs), (cT cyI x (X_text xv)), (cSo an nv), (cG cyI an (S_green nv)), (cV cyI an (S_score nv))] : List va_W).flatten) → va_S A s.heap H locs → lv_has ls 7 [(0, .ref (x 0)), (1, .int (0 : Int32)), (2, .int (0 : Int32)), (3, .int (0 : Int32)), (4, .int (0 : Int32))] → j72 s72 = some out → W p l e (headSpec (Cond.code yL_areCountsSo cL_areCountsSo 7 (some .boolean) :: wT) ({ frames := 8, cells := 83, slots := 498, locals := 123 } : Room)).room s m ([.ref (x 0)] : List Value).toArray below meth c H locs 1 6 (MQ below (va_Qi (fun (r : Int32) (u : XV × SV) => (r, u) = out ∧ b01 r) (fun u t => va_P (dC, dI) vwCl (([(cXo x an tr u.1), (cH cyO (x 1) (x 2) 2 fl), (cXk cyI x u.1), (cH cyO (x 4) (x 5) 6 fs), (cT cyI x (X_text u.1)), (cSo an u.2), (cG cyI an (S_green u.2)), (cV cyI an (S_score u.2))] : List va_W).flatten) t.heap ∧ va_D A (([(cXo x an tr u.1), (cH cyO (x 1) (x 2) 2 fl), (cXk cyI x u.1), (cH cyO (x 4) (x 5) 6 fs), (cT cyI x (X_text u.1)), (cSo an u.2), (cG cyI an (S_green u.2)), (cV cyI an (S_score u.2))] : List va_W).flatten)) A) ([.ref (x 0)] : List Value).toArray s 83 498 A) (F0 m 72 ls []) := by
      intro s72 H locs ls hP hD hS hl hF
      have hF := (congrFun hj72 s72).symm.trans hF
      refine lv_iconst (v := 0) hx hb dL_areCountsSo_72 (by decide) ?_
      refine W.widen (k := 1) (n := 6) (by omega) (by omega) ?_
      exact hJ73 (0 : Int32) _ _ _ b01_0 hP hD hS (lv_sub hl [0, 1, 2, 3, 4] rfl) hF
    refine lv_icmp_gt (tgt := 72) hx hb dL_areCountsSo_18 (by decide) (fun c55 => ?_) (fun c55 => ?_)
    · have hF := itp c55 hF
      refine W.widen (k := 1) (n := 6) (by omega) (by omega) ?_
      exact hJ72 () _ _ _ hP hD hS (lv_sub hl [4, 3, 2, 1, 0] rfl) hF
    · have hF := itn c55 hF
      refine lv_aload_n hx hb dL_areCountsSo_21 rfl (lv_at hl 4 rfl) ?_
      obtain ⟨o56, h57, hF⟩ := obd hF
      refine wcRVi (As := []) (rest := []) (b := (x 0)) ⟨hx, hb, hml, hown, hts⟩ (met_X5_touchers l dC dI cyI cyO x tr an fl fs N xv nv  o56 h57) (cwV 0 hts (gV w_methodLink_L_112 w_instanceMethod_X5_touchers w_selects_X5_touchers w_initialized_X5 w_code_X5_touchers) rfl rfl rfl (by decide +kernel) ⟨Nat.le_of_ble_eq_true rfl, Nat.le_of_ble_eq_true rfl⟩) (va_recv hK.1 hP (ci := 5) (q0 := 0) rfl rfl) hP hK [0, 1, 2, 3, 4, 5, 6, 7, 8, 9, 10, 11, 12, 13, 14, 15, 16, 17, 18, 19, 20] rfl rfl hl.1 (Nat.le_of_ble_eq_true rfl) dL_areCountsSo_22 ⟨(show _ ≤ 83 from by omega), (show _ ≤ 498 from by omega)⟩ hS (fun r H locs hw hP hS => ?_)
      have hw := hw.symm
      subst hw
      refine lv_aload_n hx hb dL_areCountsSo_25 rfl (lv_at hl 4 rfl) ?_
      obtain ⟨o58, h59, hF⟩ := obd hF
      refine wcRVi (As := []) (rest := [.int o56]) (b := (x 0)) ⟨hx, hb, hml, hown, hts⟩ (met_X5_played l dC dI cyI cyO x tr an fl fs N xv nv  o58 h59) (cwV 0 hts (gV w_methodLink_L_109 w_instanceMethod_X5_played w_selects_X5_played w_initialized_X5 w_code_X5_played) rfl rfl rfl (by decide +kernel) ⟨Nat.le_of_ble_eq_true rfl, Nat.le_of_ble_eq_true rfl⟩) (va_recv hK.1 hP (ci := 5) (q0 := 0) rfl rfl) hP hK [0, 1, 2, 3, 4, 5, 6, 7, 8, 9, 10, 11, 12, 13, 14, 15, 16, 17, 18, 19, 20] rfl rfl hl.1 (Nat.le_of_ble_eq_true rfl) dL_areCountsSo_26 ⟨(show _ ≤ 83 from by omega), (show _ ≤ 498 from by omega)⟩ hS (fun r H locs hw hP hS => ?_)
      have hw := hw.symm
      subst hw
      refine lv_icmp_gt (tgt := 72) hx hb dL_areCountsSo_29 (by decide) (fun c60 => ?_) (fun c60 => ?_)
      · have hF := itp c60 hF
        refine W.widen (k := 1) (n := 6) (by omega) (by omega) ?_
        exact hJ72 () _ _ _ hP hD hS (lv_sub hl [4, 3, 2, 1, 0] rfl) hF
      · have hF := itn c60 hF
        refine lv_aload_n hx hb dL_areCountsSo_32 rfl (lv_at hl 4 rfl) ?_
        obtain ⟨o61, h62, hF⟩ := obd hF
        refine wcRVi (As := []) (rest := []) (b := (x 0)) ⟨hx, hb, hml, hown, hts⟩ (met_X5_streak l dC dI cyI cyO x tr an fl fs N xv nv  o61 h62) (cwV 0 hts (gV w_methodLink_L_173 w_instanceMethod_X5_streak w_selects_X5_streak w_initialized_X5 w_code_X5_streak) rfl rfl rfl (by decide +kernel) ⟨Nat.le_of_ble_eq_true rfl, Nat.le_of_ble_eq_true rfl⟩) (va_recv hK.1 hP (ci := 5) (q0 := 0) rfl rfl) hP hK [0, 1, 2, 3, 4, 5, 6, 7, 8, 9, 10, 11, 12, 13, 14, 15, 16, 17, 18, 19, 20] rfl rfl hl.1 (Nat.le_of_ble_eq_true rfl) dL_areCountsSo_33 ⟨(show _ ≤ 83 from by omega), (show _ ≤ 498 from by omega)⟩ hS (fun r H locs hw hP hS => ?_)
        have hw := hw.symm
        subst hw
        refine lv_aload_n hx hb dL_areCountsSo_36 rfl (lv_at hl 4 rfl) ?_
        obtain ⟨o63, h64, hF⟩ := obd hF
        refine wcRVi (As := []) (rest := [.int o61]) (b := (x 0)) ⟨hx, hb, hml, hown, hts⟩ (met_X5_keptEnds l dC dI cyI cyO x tr an fl fs N xv nv  o63 h64) (cwV 0 hts (gV w_methodLink_L_121 w_instanceMethod_X5_keptEnds w_selects_X5_keptEnds w_initialized_X5 w_code_X5_keptEnds) rfl rfl rfl (by decide +kernel) ⟨Nat.le_of_ble_eq_true rfl, Nat.le_of_ble_eq_true rfl⟩) (va_recv hK.1 hP (ci := 5) (q0 := 0) rfl rfl) hP hK [0, 1, 2, 3, 4, 5, 6, 7, 8, 9, 10, 11, 12, 13, 14, 15, 16, 17, 18, 19, 20] rfl rfl hl.1 (Nat.le_of_ble_eq_true rfl) dL_areCountsSo_37 ⟨(show _ ≤ 83 from by omega), (show _ ≤ 498 from by omega)⟩ hS (fun r H locs hw hP hS => ?_)
        have hw := hw.symm
        subst hw
        refine lv_icmp_gt (tgt := 72) hx hb dL_areCountsSo_40 (by decide) (fun c65 => ?_) (fun c65 => ?_)
        · have hF := itp c65 hF
          refine W.widen (k := 1) (n := 6) (by omega) (by omega) ?_
          exact hJ72 () _ _ _ hP hD hS (lv_sub hl [4, 3, 2, 1, 0] rfl) hF
        · have hF := itn c65 hF
          refine lv_aload_n hx hb dL_areCountsSo_43 rfl (lv_at hl 4 rfl) ?_
          obtain ⟨o66, h67, hF⟩ := obd hF
          refine wcRVi (As := []) (rest := []) (b := (x 0)) ⟨hx, hb, hml, hown, hts⟩ (met_X5_keptEnds l dC dI cyI cyO x tr an fl fs N xv nv  o66 h67) (cwV 0 hts (gV w_methodLink_L_121 w_instanceMethod_X5_keptEnds w_selects_X5_keptEnds w_initialized_X5 w_code_X5_keptEnds) rfl rfl rfl (by decide +kernel) ⟨Nat.le_of_ble_eq_true rfl, Nat.le_of_ble_eq_true rfl⟩) (va_recv hK.1 hP (ci := 5) (q0 := 0) rfl rfl) hP hK [0, 1, 2, 3, 4, 5, 6, 7, 8, 9, 10, 11, 12, 13, 14, 15, 16, 17, 18, 19, 20] rfl rfl hl.1 (Nat.le_of_ble_eq_true rfl) dL_areCountsSo_44 ⟨(show _ ≤ 83 from by omega), (show _ ≤ 498 from by omega)⟩ hS (fun r H locs hw hP hS => ?_)
          have hw := hw.symm
          subst hw
          refine lv_aload_n hx hb dL_areCountsSo_47 rfl (lv_at hl 4 rfl) ?_
          obtain ⟨o68, h69, hF⟩ := obd hF
          refine wcRVi (As := []) (rest := [.int o66]) (b := (x 0)) ⟨hx, hb, hml, hown, hts⟩ (met_X5_ends l dC dI cyI cyO x tr an fl fs N xv nv  o68 h69) (cwV 0 hts (gV w_methodLink_L_103 w_instanceMethod_X5_ends w_selects_X5_ends w_initialized_X5 w_code_X5_ends) rfl rfl rfl (by decide +kernel) ⟨Nat.le_of_ble_eq_true rfl, Nat.le_of_ble_eq_true rfl⟩) (va_recv hK.1 hP (ci := 5) (q0 := 0) rfl rfl) hP hK [0, 1, 2, 3, 4, 5, 6, 7, 8, 9, 10, 11, 12, 13, 14, 15, 16, 17, 18, 19, 20] rfl rfl hl.1 (Nat.le_of_ble_eq_true rfl) dL_areCountsSo_48 ⟨(show _ ≤ 83 from by omega), (show _ ≤ 498 from by omega)⟩ hS (fun r H locs hw hP hS => ?_)
          have hw := hw.symm
          subst hw
          refine lv_bipush (v := 12) hx hb dL_areCountsSo_51 (by decide) ?_
          obtain ⟨j65, hj65, hF⟩ := jn_use hF
          have hJ65 : ∀ (s65 : Int32) (H : Heap) (locs : List Loc) (ls : Array Slot), va_P (dC, dI) vwCl (([(cXo x an tr xv), (cH cyO (x 1) (x 2) 2 fl), (cXk cyI x xv), (cH cyO (x 4) (x 5) 6 fs), (cT cyI x (X_text xv)), (cSo an nv), (cG cyI an (S_green nv)), (cV cyI an (S_score nv))] : List va_W).flatten) H → va_D A (([(cXo x an tr xv), (cH cyO (x 1) (x 2) 2 fl), (cXk cyI x xv), (cH cyO (x 4) (x 5) 6 fs), (cT cyI x (X_text xv)), (cSo an nv), (cG cyI an (S_green nv)), (cV cyI an (S_score nv))] : List va_W).flatten) → va_S A s.heap H locs → lv_has ls 7 [(0, .ref (x 0)), (1, .int (0 : Int32)), (2, .int (0 : Int32)), (3, .int (0 : Int32)), (4, .int (0 : Int32))] → j65 s65 = some out → W p l e (headSpec (Cond.code yL_areCountsSo cL_areCountsSo 7 (some .boolean) :: wT) ({ frames := 8, cells := 83, slots := 498, locals := 123 } : Room)).room s m ([.ref (x 0)] : List Value).toArray below meth c H locs 1 6 (MQ below (va_Qi (fun (r : Int32) (u : XV × SV) => (r, u) = out ∧ b01 r) (fun u t => va_P (dC, dI) vwCl (([(cXo x an tr u.1), (cH cyO (x 1) (x 2) 2 fl), (cXk cyI x u.1), (cH cyO (x 4) (x 5) 6 fs), (cT cyI x (X_text u.1)), (cSo an u.2), (cG cyI an (S_green u.2)), (cV cyI an (S_score u.2))] : List va_W).flatten) t.heap ∧ va_D A (([(cXo x an tr u.1), (cH cyO (x 1) (x 2) 2 fl), (cXk cyI x u.1), (cH cyO (x 4) (x 5) 6 fs), (cT cyI x (X_text u.1)), (cSo an u.2), (cG cyI an (S_green u.2)), (cV cyI an (S_score u.2))] : List va_W).flatten)) A) ([.ref (x 0)] : List Value).toArray s 83 498 A) (F0 m 65 ls [.int s65, .int o66]) := by
            intro s65 H locs ls hP hD hS hl hF
            have hF := (congrFun hj65 s65).symm.trans hF
            refine lv_icmp_ne (tgt := 72) hx hb dL_areCountsSo_65 (by decide) (fun c70 => ?_) (fun c70 => ?_)
            · have hF := itn c70 hF
              refine W.widen (k := 1) (n := 6) (by omega) (by omega) ?_
              exact hJ72 () _ _ _ hP hD hS (lv_sub hl [0, 1, 2, 3, 4] rfl) hF
            · have hF := itp c70 hF
              refine lv_iconst (v := 1) hx hb dL_areCountsSo_68 (by decide) ?_
              refine lv_goto (tgt := 73) hx hb dL_areCountsSo_69 (by decide) ?_
              refine W.widen (k := 1) (n := 6) (by omega) (by omega) ?_
              exact hJ73 (1 : Int32) _ _ _ b01_1 hP hD hS (lv_sub hl [0, 1, 2, 3, 4] rfl) hF
          refine lv_icmp_ge (tgt := 63) hx hb dL_areCountsSo_53 (by decide) (fun c71 => ?_) (fun c71 => ?_)
          · have hF := itp c71 hF
            refine lv_bipush (v := 12) hx hb dL_areCountsSo_63 (by decide) ?_
            refine W.widen (k := 1) (n := 6) (by omega) (by omega) ?_
            exact hJ65 (12 : Int32) _ _ _ hP hD hS (lv_sub hl [4, 3, 2, 1, 0] rfl) hF
          · have hF := itn c71 hF
            refine lv_aload_n hx hb dL_areCountsSo_56 rfl (lv_at hl 4 rfl) ?_
            obtain ⟨o72, h73, hF⟩ := obd hF
            refine wcRVi (As := []) (rest := [.int o66]) (b := (x 0)) ⟨hx, hb, hml, hown, hts⟩ (met_X5_ends l dC dI cyI cyO x tr an fl fs N xv nv  o72 h73) (cwV 0 hts (gV w_methodLink_L_103 w_instanceMethod_X5_ends w_selects_X5_ends w_initialized_X5 w_code_X5_ends) rfl rfl rfl (by decide +kernel) ⟨Nat.le_of_ble_eq_true rfl, Nat.le_of_ble_eq_true rfl⟩) (va_recv hK.1 hP (ci := 5) (q0 := 0) rfl rfl) hP hK [0, 1, 2, 3, 4, 5, 6, 7, 8, 9, 10, 11, 12, 13, 14, 15, 16, 17, 18, 19, 20] rfl rfl hl.1 (Nat.le_of_ble_eq_true rfl) dL_areCountsSo_57 ⟨(show _ ≤ 83 from by omega), (show _ ≤ 498 from by omega)⟩ hS (fun r H locs hw hP hS => ?_)
            have hw := hw.symm
            subst hw
            refine lv_goto (tgt := 65) hx hb dL_areCountsSo_60 (by decide) ?_
            refine W.widen (k := 1) (n := 6) (by omega) (by omega) ?_
            exact hJ65 o72 _ _ _ hP hD hS (lv_sub hl [4, 3, 2, 1, 0] rfl) hF
