/-! written by program from the bytecode: what each method computes, and its contract -/

theorem dL_areAlike_0 : decode cL_areAlike 0 = .ok (.aload_n 0, 1) := by decide +kernel
theorem dL_areAlike_1 : decode cL_areAlike 1 = .ok (.invokevirtual 74, 3) := by decide +kernel
theorem dL_areAlike_4 : decode cL_areAlike 4 = .ok (.aload_n 1, 1) := by decide +kernel
theorem dL_areAlike_5 : decode cL_areAlike 5 = .ok (.invokevirtual 74, 3) := by decide +kernel
theorem dL_areAlike_8 : decode cL_areAlike 8 = .ok (.if_icmp .ne 169, 3) := by decide +kernel
theorem dL_areAlike_11 : decode cL_areAlike 11 = .ok (.aload_n 0, 1) := by decide +kernel
theorem dL_areAlike_12 : decode cL_areAlike 12 = .ok (.iconst 5, 1) := by decide +kernel
theorem dL_areAlike_13 : decode cL_areAlike 13 = .ok (.iconst 0, 1) := by decide +kernel
theorem dL_areAlike_14 : decode cL_areAlike 14 = .ok (.invokestatic 93, 3) := by decide +kernel
theorem dL_areAlike_17 : decode cL_areAlike 17 = .ok (.aload_n 1, 1) := by decide +kernel
theorem dL_areAlike_18 : decode cL_areAlike 18 = .ok (.iconst 5, 1) := by decide +kernel
theorem dL_areAlike_19 : decode cL_areAlike 19 = .ok (.iconst 0, 1) := by decide +kernel
theorem dL_areAlike_20 : decode cL_areAlike 20 = .ok (.invokestatic 93, 3) := by decide +kernel
theorem dL_areAlike_23 : decode cL_areAlike 23 = .ok (.if_icmp .ne 154, 3) := by decide +kernel
theorem dL_areAlike_26 : decode cL_areAlike 26 = .ok (.aload_n 0, 1) := by decide +kernel
theorem dL_areAlike_27 : decode cL_areAlike 27 = .ok (.invokevirtual 77, 3) := by decide +kernel
theorem dL_areAlike_30 : decode cL_areAlike 30 = .ok (.aload_n 1, 1) := by decide +kernel
theorem dL_areAlike_31 : decode cL_areAlike 31 = .ok (.invokevirtual 77, 3) := by decide +kernel
theorem dL_areAlike_34 : decode cL_areAlike 34 = .ok (.if_icmp .ne 143, 3) := by decide +kernel
theorem dL_areAlike_37 : decode cL_areAlike 37 = .ok (.aload_n 0, 1) := by decide +kernel
theorem dL_areAlike_38 : decode cL_areAlike 38 = .ok (.invokevirtual 80, 3) := by decide +kernel
theorem dL_areAlike_41 : decode cL_areAlike 41 = .ok (.aload_n 1, 1) := by decide +kernel
theorem dL_areAlike_42 : decode cL_areAlike 42 = .ok (.invokevirtual 80, 3) := by decide +kernel
theorem dL_areAlike_45 : decode cL_areAlike 45 = .ok (.if_icmp .ne 132, 3) := by decide +kernel
theorem dL_areAlike_48 : decode cL_areAlike 48 = .ok (.aload_n 0, 1) := by decide +kernel
theorem dL_areAlike_49 : decode cL_areAlike 49 = .ok (.invokevirtual 97, 3) := by decide +kernel
theorem dL_areAlike_52 : decode cL_areAlike 52 = .ok (.aload_n 1, 1) := by decide +kernel
theorem dL_areAlike_53 : decode cL_areAlike 53 = .ok (.invokevirtual 97, 3) := by decide +kernel
theorem dL_areAlike_56 : decode cL_areAlike 56 = .ok (.if_icmp .ne 121, 3) := by decide +kernel
theorem dL_areAlike_59 : decode cL_areAlike 59 = .ok (.aload_n 0, 1) := by decide +kernel
theorem dL_areAlike_60 : decode cL_areAlike 60 = .ok (.invokevirtual 100, 3) := by decide +kernel
theorem dL_areAlike_63 : decode cL_areAlike 63 = .ok (.aload_n 1, 1) := by decide +kernel
theorem dL_areAlike_64 : decode cL_areAlike 64 = .ok (.invokevirtual 100, 3) := by decide +kernel
theorem dL_areAlike_67 : decode cL_areAlike 67 = .ok (.if_icmp .ne 110, 3) := by decide +kernel
theorem dL_areAlike_70 : decode cL_areAlike 70 = .ok (.aload_n 0, 1) := by decide +kernel
theorem dL_areAlike_71 : decode cL_areAlike 71 = .ok (.invokevirtual 103, 3) := by decide +kernel
theorem dL_areAlike_74 : decode cL_areAlike 74 = .ok (.aload_n 1, 1) := by decide +kernel
theorem dL_areAlike_75 : decode cL_areAlike 75 = .ok (.invokevirtual 103, 3) := by decide +kernel
theorem dL_areAlike_78 : decode cL_areAlike 78 = .ok (.if_icmp .ne 99, 3) := by decide +kernel
theorem dL_areAlike_81 : decode cL_areAlike 81 = .ok (.aload_n 0, 1) := by decide +kernel
theorem dL_areAlike_82 : decode cL_areAlike 82 = .ok (.invokevirtual 106, 3) := by decide +kernel
theorem dL_areAlike_85 : decode cL_areAlike 85 = .ok (.aload_n 1, 1) := by decide +kernel
theorem dL_areAlike_86 : decode cL_areAlike 86 = .ok (.invokevirtual 106, 3) := by decide +kernel
theorem dL_areAlike_89 : decode cL_areAlike 89 = .ok (.if_icmp .ne 88, 3) := by decide +kernel
theorem dL_areAlike_92 : decode cL_areAlike 92 = .ok (.aload_n 0, 1) := by decide +kernel
theorem dL_areAlike_93 : decode cL_areAlike 93 = .ok (.invokevirtual 109, 3) := by decide +kernel
theorem dL_areAlike_96 : decode cL_areAlike 96 = .ok (.aload_n 1, 1) := by decide +kernel
theorem dL_areAlike_97 : decode cL_areAlike 97 = .ok (.invokevirtual 109, 3) := by decide +kernel
theorem dL_areAlike_100 : decode cL_areAlike 100 = .ok (.if_icmp .ne 77, 3) := by decide +kernel
theorem dL_areAlike_103 : decode cL_areAlike 103 = .ok (.aload_n 0, 1) := by decide +kernel
theorem dL_areAlike_104 : decode cL_areAlike 104 = .ok (.invokevirtual 112, 3) := by decide +kernel
theorem dL_areAlike_107 : decode cL_areAlike 107 = .ok (.aload_n 1, 1) := by decide +kernel
theorem dL_areAlike_108 : decode cL_areAlike 108 = .ok (.invokevirtual 112, 3) := by decide +kernel
theorem dL_areAlike_111 : decode cL_areAlike 111 = .ok (.if_icmp .ne 66, 3) := by decide +kernel
theorem dL_areAlike_114 : decode cL_areAlike 114 = .ok (.aload_n 0, 1) := by decide +kernel
theorem dL_areAlike_115 : decode cL_areAlike 115 = .ok (.invokevirtual 115, 3) := by decide +kernel
theorem dL_areAlike_118 : decode cL_areAlike 118 = .ok (.aload_n 1, 1) := by decide +kernel
theorem dL_areAlike_119 : decode cL_areAlike 119 = .ok (.invokevirtual 115, 3) := by decide +kernel
theorem dL_areAlike_122 : decode cL_areAlike 122 = .ok (.if_icmp .ne 55, 3) := by decide +kernel
theorem dL_areAlike_125 : decode cL_areAlike 125 = .ok (.aload_n 0, 1) := by decide +kernel
theorem dL_areAlike_126 : decode cL_areAlike 126 = .ok (.iconst 0, 1) := by decide +kernel
theorem dL_areAlike_127 : decode cL_areAlike 127 = .ok (.invokevirtual 118, 3) := by decide +kernel
theorem dL_areAlike_130 : decode cL_areAlike 130 = .ok (.aload_n 1, 1) := by decide +kernel
theorem dL_areAlike_131 : decode cL_areAlike 131 = .ok (.iconst 0, 1) := by decide +kernel
theorem dL_areAlike_132 : decode cL_areAlike 132 = .ok (.invokevirtual 118, 3) := by decide +kernel
theorem dL_areAlike_135 : decode cL_areAlike 135 = .ok (.if_icmp .ne 42, 3) := by decide +kernel
theorem dL_areAlike_138 : decode cL_areAlike 138 = .ok (.aload_n 0, 1) := by decide +kernel
theorem dL_areAlike_139 : decode cL_areAlike 139 = .ok (.iconst 1, 1) := by decide +kernel
theorem dL_areAlike_140 : decode cL_areAlike 140 = .ok (.invokevirtual 118, 3) := by decide +kernel
theorem dL_areAlike_143 : decode cL_areAlike 143 = .ok (.aload_n 1, 1) := by decide +kernel
theorem dL_areAlike_144 : decode cL_areAlike 144 = .ok (.iconst 1, 1) := by decide +kernel
theorem dL_areAlike_145 : decode cL_areAlike 145 = .ok (.invokevirtual 118, 3) := by decide +kernel
theorem dL_areAlike_148 : decode cL_areAlike 148 = .ok (.if_icmp .ne 29, 3) := by decide +kernel
theorem dL_areAlike_151 : decode cL_areAlike 151 = .ok (.aload_n 0, 1) := by decide +kernel
theorem dL_areAlike_152 : decode cL_areAlike 152 = .ok (.invokevirtual 121, 3) := by decide +kernel
theorem dL_areAlike_155 : decode cL_areAlike 155 = .ok (.aload_n 1, 1) := by decide +kernel
theorem dL_areAlike_156 : decode cL_areAlike 156 = .ok (.invokevirtual 121, 3) := by decide +kernel
theorem dL_areAlike_159 : decode cL_areAlike 159 = .ok (.if_icmp .ne 18, 3) := by decide +kernel
theorem dL_areAlike_162 : decode cL_areAlike 162 = .ok (.aload_n 0, 1) := by decide +kernel
theorem dL_areAlike_163 : decode cL_areAlike 163 = .ok (.invokevirtual 124, 3) := by decide +kernel
theorem dL_areAlike_166 : decode cL_areAlike 166 = .ok (.aload_n 1, 1) := by decide +kernel
theorem dL_areAlike_167 : decode cL_areAlike 167 = .ok (.invokevirtual 124, 3) := by decide +kernel
theorem dL_areAlike_170 : decode cL_areAlike 170 = .ok (.if_icmp .ne 7, 3) := by decide +kernel
theorem dL_areAlike_173 : decode cL_areAlike 173 = .ok (.iconst 1, 1) := by decide +kernel
theorem dL_areAlike_174 : decode cL_areAlike 174 = .ok (.goto 4, 3) := by decide +kernel
theorem dL_areAlike_177 : decode cL_areAlike 177 = .ok (.iconst 0, 1) := by decide +kernel
theorem dL_areAlike_178 : decode cL_areAlike 178 = .ok (.istore_n 2, 1) := by decide +kernel
theorem dL_areAlike_179 : decode cL_areAlike 179 = .ok (.iconst 0, 1) := by decide +kernel
theorem dL_areAlike_180 : decode cL_areAlike 180 = .ok (.istore_n 3, 1) := by decide +kernel
theorem dL_areAlike_181 : decode cL_areAlike 181 = .ok (.iload_n 3, 1) := by decide +kernel
theorem dL_areAlike_182 : decode cL_areAlike 182 = .ok (.aload_n 0, 1) := by decide +kernel
theorem dL_areAlike_183 : decode cL_areAlike 183 = .ok (.invokevirtual 77, 3) := by decide +kernel
theorem dL_areAlike_186 : decode cL_areAlike 186 = .ok (.if_icmp .ge 82, 3) := by decide +kernel
theorem dL_areAlike_189 : decode cL_areAlike 189 = .ok (.iload_n 2, 1) := by decide +kernel
theorem dL_areAlike_190 : decode cL_areAlike 190 = .ok (.ifCond .eq 78, 3) := by decide +kernel
theorem dL_areAlike_193 : decode cL_areAlike 193 = .ok (.aload_n 0, 1) := by decide +kernel
theorem dL_areAlike_194 : decode cL_areAlike 194 = .ok (.iload_n 3, 1) := by decide +kernel
theorem dL_areAlike_195 : decode cL_areAlike 195 = .ok (.invokevirtual 127, 3) := by decide +kernel
theorem dL_areAlike_198 : decode cL_areAlike 198 = .ok (.aload_n 1, 1) := by decide +kernel
theorem dL_areAlike_199 : decode cL_areAlike 199 = .ok (.iload_n 3, 1) := by decide +kernel
theorem dL_areAlike_200 : decode cL_areAlike 200 = .ok (.invokevirtual 127, 3) := by decide +kernel
theorem dL_areAlike_203 : decode cL_areAlike 203 = .ok (.if_icmp .ne 57, 3) := by decide +kernel
theorem dL_areAlike_206 : decode cL_areAlike 206 = .ok (.aload_n 0, 1) := by decide +kernel
theorem dL_areAlike_207 : decode cL_areAlike 207 = .ok (.iload_n 3, 1) := by decide +kernel
theorem dL_areAlike_208 : decode cL_areAlike 208 = .ok (.invokevirtual 130, 3) := by decide +kernel
theorem dL_areAlike_211 : decode cL_areAlike 211 = .ok (.aload_n 1, 1) := by decide +kernel
theorem dL_areAlike_212 : decode cL_areAlike 212 = .ok (.iload_n 3, 1) := by decide +kernel
theorem dL_areAlike_213 : decode cL_areAlike 213 = .ok (.invokevirtual 130, 3) := by decide +kernel
theorem dL_areAlike_216 : decode cL_areAlike 216 = .ok (.if_icmp .ne 44, 3) := by decide +kernel
theorem dL_areAlike_219 : decode cL_areAlike 219 = .ok (.aload_n 0, 1) := by decide +kernel
theorem dL_areAlike_220 : decode cL_areAlike 220 = .ok (.iconst 0, 1) := by decide +kernel
theorem dL_areAlike_221 : decode cL_areAlike 221 = .ok (.iload_n 3, 1) := by decide +kernel
theorem dL_areAlike_222 : decode cL_areAlike 222 = .ok (.invokestatic 93, 3) := by decide +kernel
theorem dL_areAlike_225 : decode cL_areAlike 225 = .ok (.aload_n 1, 1) := by decide +kernel
theorem dL_areAlike_226 : decode cL_areAlike 226 = .ok (.iconst 0, 1) := by decide +kernel
theorem dL_areAlike_227 : decode cL_areAlike 227 = .ok (.iload_n 3, 1) := by decide +kernel
theorem dL_areAlike_228 : decode cL_areAlike 228 = .ok (.invokestatic 93, 3) := by decide +kernel
theorem dL_areAlike_231 : decode cL_areAlike 231 = .ok (.if_icmp .ne 29, 3) := by decide +kernel
theorem dL_areAlike_234 : decode cL_areAlike 234 = .ok (.aload_n 0, 1) := by decide +kernel
theorem dL_areAlike_235 : decode cL_areAlike 235 = .ok (.iload_n 3, 1) := by decide +kernel
theorem dL_areAlike_236 : decode cL_areAlike 236 = .ok (.invokevirtual 127, 3) := by decide +kernel
theorem dL_areAlike_239 : decode cL_areAlike 239 = .ok (.iconst 2, 1) := by decide +kernel
theorem dL_areAlike_240 : decode cL_areAlike 240 = .ok (.if_icmp .eq 16, 3) := by decide +kernel
theorem dL_areAlike_243 : decode cL_areAlike 243 = .ok (.aload_n 0, 1) := by decide +kernel
theorem dL_areAlike_244 : decode cL_areAlike 244 = .ok (.iload_n 3, 1) := by decide +kernel
theorem dL_areAlike_245 : decode cL_areAlike 245 = .ok (.invokevirtual 134, 3) := by decide +kernel
theorem dL_areAlike_248 : decode cL_areAlike 248 = .ok (.aload_n 1, 1) := by decide +kernel
theorem dL_areAlike_249 : decode cL_areAlike 249 = .ok (.iload_n 3, 1) := by decide +kernel
theorem dL_areAlike_250 : decode cL_areAlike 250 = .ok (.invokevirtual 134, 3) := by decide +kernel
theorem dL_areAlike_253 : decode cL_areAlike 253 = .ok (.if_icmp .ne 7, 3) := by decide +kernel
theorem dL_areAlike_256 : decode cL_areAlike 256 = .ok (.iconst 1, 1) := by decide +kernel
theorem dL_areAlike_257 : decode cL_areAlike 257 = .ok (.goto 4, 3) := by decide +kernel
theorem dL_areAlike_260 : decode cL_areAlike 260 = .ok (.iconst 0, 1) := by decide +kernel
theorem dL_areAlike_261 : decode cL_areAlike 261 = .ok (.istore_n 2, 1) := by decide +kernel
theorem dL_areAlike_262 : decode cL_areAlike 262 = .ok (.iinc 3 1, 3) := by decide +kernel
theorem dL_areAlike_265 : decode cL_areAlike 265 = .ok (.goto (-84), 3) := by decide +kernel
theorem dL_areAlike_268 : decode cL_areAlike 268 = .ok (.iload_n 2, 1) := by decide +kernel
theorem dL_areAlike_269 : decode cL_areAlike 269 = .ok (.ireturn, 1) := by decide +kernel
def f_L_areAlike (N : Nat) (xv : XV) (nv : SV) (yxv : XV) (ynv : SV) : Option (Int32 × (XV × SV × XV × SV)) :=
  (f_X5_isJackThere N xv nv).bind (fun o1 => (f_X5_isJackThere N yxv ynv).bind (fun o4 => jn (fun (s178 : Int32 × XV × SV × XV × SV) => lpN (fun (s181 : Int32 × Int32 × XV × SV × XV × SV) (k181 : (Int32 × Int32 × XV × SV × XV × SV) → Option (Int32 × (XV × SV × XV × SV))) => (f_X5_bowls N s181.2.2.1 s181.2.2.2.1).bind (fun o7 => jn (fun (s268 : Unit) => some (s181.1, (s181.2.2.1, s181.2.2.2.1, s181.2.2.2.2.1, s181.2.2.2.2.2))) (fun (j268 : (Unit) → Option (Int32 × (XV × SV × XV × SV))) => (if o7 ≤ s181.2.1 then j268 () else (if s181.1 = 0 then j268 () else (f_X5_stateOf N s181.2.2.1 s181.2.2.2.1 s181.2.1).bind (fun o11 => exc o11 (fun k => none) (fun (ro11 : Int32) => (f_X5_stateOf N s181.2.2.2.2.1 s181.2.2.2.2.2 s181.2.1).bind (fun o13 => exc o13 (fun k => none) (fun (ro13 : Int32) => jn (fun (s261 : Int32 × XV × SV × XV × SV) => k181 (s261.1, (s181.2.1 + (1 : Int32)), s261.2.1, s261.2.2.1, s261.2.2.2.1, s261.2.2.2.2)) (fun (j261 : (Int32 × XV × SV × XV × SV) → Option (Int32 × (XV × SV × XV × SV))) => jn (fun (s260 : XV × SV × XV × SV) => j261 ((0 : Int32), s260.1, s260.2.1, s260.2.2.1, s260.2.2.2)) (fun (j260 : (XV × SV × XV × SV) → Option (Int32 × (XV × SV × XV × SV))) => (if ro11 = ro13 then (f_X5_isToucher N s181.2.2.1 s181.2.2.2.1 s181.2.1).bind (fun o16 => exc o16 (fun k => none) (fun (ro16 : Int32) => (f_X5_isToucher N s181.2.2.2.2.1 s181.2.2.2.2.2 s181.2.1).bind (fun o19 => exc o19 (fun k => none) (fun (ro19 : Int32) => (if ro16 = ro19 then (f_L_looks N s181.2.2.1 s181.2.2.2.1 (0 : Int32) s181.2.1).bind (fun o23 => (f_L_looks N s181.2.2.2.2.1 s181.2.2.2.2.2 (0 : Int32) s181.2.1).bind (fun o25 => (if o23.1 = o25.1 then (f_X5_stateOf N o23.2.1 o23.2.2 s181.2.1).bind (fun o28 => exc o28 (fun k => none) (fun (ro28 : Int32) => jn (fun (s256 : Unit) => j261 ((1 : Int32), o23.2.1, o23.2.2, o25.2.1, o25.2.2)) (fun (j256 : (Unit) → Option (Int32 × (XV × SV × XV × SV))) => (if ro28 = (2 : Int32) then j256 () else (f_X5_columnOf N o23.2.1 o23.2.2 s181.2.1).bind (fun o31 => exc o31 (fun k => none) (fun (ro31 : Int32) => (f_X5_columnOf N o25.2.1 o25.2.2 s181.2.1).bind (fun o33 => exc o33 (fun k => none) (fun (ro33 : Int32) => (if ro31 = ro33 then j256 () else j260 (o23.2.1, o23.2.2, o25.2.1, o25.2.2)))))))))) else j260 (o23.2.1, o23.2.2, o25.2.1, o25.2.2)))) else j260 (s181.2.2.1, s181.2.2.2.1, s181.2.2.2.2.1, s181.2.2.2.2.2)))))) else j260 (s181.2.2.1, s181.2.2.2.1, s181.2.2.2.2.1, s181.2.2.2.2.2))))))))))))) 10 (s178.1, (0 : Int32), s178.2.1, s178.2.2.1, s178.2.2.2.1, s178.2.2.2.2)) (fun (j178 : (Int32 × XV × SV × XV × SV) → Option (Int32 × (XV × SV × XV × SV))) => jn (fun (s177 : XV × SV × XV × SV) => j178 ((0 : Int32), s177.1, s177.2.1, s177.2.2.1, s177.2.2.2)) (fun (j177 : (XV × SV × XV × SV) → Option (Int32 × (XV × SV × XV × SV))) => (if o1 = o4 then (f_L_looks N xv nv (5 : Int32) (0 : Int32)).bind (fun o37 => (f_L_looks N yxv ynv (5 : Int32) (0 : Int32)).bind (fun o39 => (if o37.1 = o39.1 then (f_X5_bowls N o37.2.1 o37.2.2).bind (fun o42 => (f_X5_bowls N o39.2.1 o39.2.2).bind (fun o44 => (if o42 = o44 then (f_X5_bowlsOfSide N o37.2.1 o37.2.2).bind (fun o47 => (f_X5_bowlsOfSide N o39.2.1 o39.2.2).bind (fun o49 => (if o47 = o49 then (f_X5_wind N o37.2.1 o37.2.2).bind (fun o52 => (f_X5_wind N o39.2.1 o39.2.2).bind (fun o54 => (if o52 = o54 then (f_X5_first N o37.2.1 o37.2.2).bind (fun o57 => (f_X5_first N o39.2.1 o39.2.2).bind (fun o59 => (if o57 = o59 then (f_X5_ends N o37.2.1 o37.2.2).bind (fun o62 => (f_X5_ends N o39.2.1 o39.2.2).bind (fun o64 => (if o62 = o64 then (f_X5_needed N o37.2.1 o37.2.2).bind (fun o67 => (f_X5_needed N o39.2.1 o39.2.2).bind (fun o69 => (if o67 = o69 then (f_X5_played N o37.2.1 o37.2.2).bind (fun o72 => (f_X5_played N o39.2.1 o39.2.2).bind (fun o74 => (if o72 = o74 then (f_X5_touchers N o37.2.1 o37.2.2).bind (fun o77 => (f_X5_touchers N o39.2.1 o39.2.2).bind (fun o79 => (if o77 = o79 then (f_X5_putBack N o37.2.1 o37.2.2).bind (fun o82 => (f_X5_putBack N o39.2.1 o39.2.2).bind (fun o84 => (if o82 = o84 then (f_X5_pointsOf N o37.2.1 o37.2.2 (0 : Int32)).bind (fun o87 => exc o87 (fun k => none) (fun (ro87 : Int32) => (f_X5_pointsOf N o39.2.1 o39.2.2 (0 : Int32)).bind (fun o89 => exc o89 (fun k => none) (fun (ro89 : Int32) => (if ro87 = ro89 then (f_X5_pointsOf N o37.2.1 o37.2.2 (1 : Int32)).bind (fun o92 => exc o92 (fun k => none) (fun (ro92 : Int32) => (f_X5_pointsOf N o39.2.1 o39.2.2 (1 : Int32)).bind (fun o94 => exc o94 (fun k => none) (fun (ro94 : Int32) => (if ro92 = ro94 then (f_X5_keptEnds N o37.2.1 o37.2.2).bind (fun o97 => (f_X5_keptEnds N o39.2.1 o39.2.2).bind (fun o99 => (if o97 = o99 then (f_X5_pointsByOrder N o37.2.1 o37.2.2).bind (fun o102 => (f_X5_pointsByOrder N o39.2.1 o39.2.2).bind (fun o104 => (if o102.1 = o104.1 then j178 ((1 : Int32), o102.2.1, o102.2.2, o104.2.1, o104.2.2) else j177 (o102.2.1, o102.2.2, o104.2.1, o104.2.2)))) else j177 (o37.2.1, o37.2.2, o39.2.1, o39.2.2)))) else j177 (o37.2.1, o37.2.2, o39.2.1, o39.2.2)))))) else j177 (o37.2.1, o37.2.2, o39.2.1, o39.2.2)))))) else j177 (o37.2.1, o37.2.2, o39.2.1, o39.2.2)))) else j177 (o37.2.1, o37.2.2, o39.2.1, o39.2.2)))) else j177 (o37.2.1, o37.2.2, o39.2.1, o39.2.2)))) else j177 (o37.2.1, o37.2.2, o39.2.1, o39.2.2)))) else j177 (o37.2.1, o37.2.2, o39.2.1, o39.2.2)))) else j177 (o37.2.1, o37.2.2, o39.2.1, o39.2.2)))) else j177 (o37.2.1, o37.2.2, o39.2.1, o39.2.2)))) else j177 (o37.2.1, o37.2.2, o39.2.1, o39.2.2)))) else j177 (o37.2.1, o37.2.2, o39.2.1, o39.2.2)))) else j177 (o37.2.1, o37.2.2, o39.2.1, o39.2.2)))) else j177 (xv, nv, yxv, ynv))))))
set_option maxHeartbeats 4000000 in
set_option maxRecDepth 100000 in
theorem met_L_areAlike (l : Launch) (z0 : Nat) (hst : l.stackTraces = false) (dC : Nat → ClassId) (dI : Nat → Nat → Nat) (cyI cyO : ClassId) (x : Nat → Nat) (tr : Nat → Nat) (an : Nat → Nat) (yx : Nat → Nat) (ytr : Nat → Nat) (yan : Nat → Nat) (fl fs yfl yfs : Nat → Option Nat) (sz : Nat) (N : Nat) (xv : XV) (nv : SV) (yxv : XV) (ynv : SV) (out : Int32 × (XV × SV × XV × SV)) (hF : f_L_areAlike N xv nv yxv ynv = some out) : Met l yL_areAlike (Cond.code yL_areAlike cL_areAlike 4 (some .boolean) :: wT) ({ frames := 9, cells := 292, slots := 1752, locals := 147 } : Room) (wWrX z0 dC dI cyI cyO [.ref (x 0), .ref (yx 0)] (([(cXo x an tr xv), (cH cyO (x 1) (x 2) 2 fl), (cXk cyI x xv), (cH cyO (x 4) (x 5) 6 fs), (cT cyI x (X_text xv)), (cSo an nv), (cG cyI an (S_green nv)), (cV cyI an (S_score nv)), (cXo yx yan ytr yxv), (cH cyO (yx 1) (yx 2) 2 yfl), (cXk cyI yx yxv), (cH cyO (yx 4) (yx 5) 6 yfs), (cT cyI yx (X_text yxv)), (cS cyI yan ynv)] : List va_W).flatten) sz) (va_Qi (fun (r : Int32) (u : XV × SV × XV × SV) => (r, u) = out ∧ b01 r) (fun u t => va_P (dC, dI) vwCl (([(cXo x an tr u.1), (cH cyO (x 1) (x 2) 2 fl), (cXk cyI x u.1), (cH cyO (x 4) (x 5) 6 fs), (cT cyI x (X_text u.1)), (cSo an u.2.1), (cG cyI an (S_green u.2.1)), (cV cyI an (S_score u.2.1)), (cXo yx yan ytr u.2.2.1), (cH cyO (yx 1) (yx 2) 2 yfl), (cXk cyI yx u.2.2.1), (cH cyO (yx 4) (yx 5) 6 yfs), (cT cyI yx (X_text u.2.2.1)), (cS cyI yan u.2.2.2)] : List va_W).flatten) t.heap ∧ va_D (va_A (([(cXo x an tr xv), (cH cyO (x 1) (x 2) 2 fl), (cXk cyI x xv), (cH cyO (x 4) (x 5) 6 fs), (cT cyI x (X_text xv)), (cSo an nv), (cG cyI an (S_green nv)), (cV cyI an (S_score nv)), (cXo yx yan ytr yxv), (cH cyO (yx 1) (yx 2) 2 yfl), (cXk cyI yx yxv), (cH cyO (yx 4) (yx 5) 6 yfs), (cT cyI yx (X_text yxv)), (cS cyI yan ynv)] : List va_W).flatten) sz) (([(cXo x an tr u.1), (cH cyO (x 1) (x 2) 2 fl), (cXk cyI x u.1), (cH cyO (x 4) (x 5) 6 fs), (cT cyI x (X_text u.1)), (cSo an u.2.1), (cG cyI an (S_green u.2.1)), (cV cyI an (S_score u.2.1)), (cXo yx yan ytr u.2.2.1), (cH cyO (yx 1) (yx 2) 2 yfl), (cXk cyI yx u.2.2.1), (cH cyO (yx 4) (yx 5) 6 yfs), (cT cyI yx (X_text u.2.2.1)), (cS cyI yan u.2.2.2)] : List va_W).flatten)) (va_A (([(cXo x an tr xv), (cH cyO (x 1) (x 2) 2 fl), (cXk cyI x xv), (cH cyO (x 4) (x 5) 6 fs), (cT cyI x (X_text xv)), (cSo an nv), (cG cyI an (S_green nv)), (cV cyI an (S_score nv)), (cXo yx yan ytr yxv), (cH cyO (yx 1) (yx 2) 2 yfl), (cXk cyI yx yxv), (cH cyO (yx 4) (yx 5) 6 yfs), (cT cyI yx (X_text yxv)), (cS cyI yan ynv)] : List va_W).flatten) sz)) 292 1752 (va_A (([(cXo x an tr xv), (cH cyO (x 1) (x 2) 2 fl), (cXk cyI x xv), (cH cyO (x 4) (x 5) 6 fs), (cT cyI x (X_text xv)), (cSo an nv), (cG cyI an (S_green nv)), (cV cyI an (S_score nv)), (cXo yx yan ytr yxv), (cH cyO (yx 1) (yx 2) 2 yfl), (cXk cyI yx yxv), (cH cyO (yx 4) (yx 5) 6 yfs), (cT cyI yx (X_text yxv)), (cS cyI yan ynv)] : List va_W).flatten) sz) := by
  refine Met.ofW (cc := cL_areAlike) (maxL := 4) (ret := (some .boolean)) (by decide) rfl ?_
  intro p e s m args below meth c s₁ B hml hv
  obtain ⟨rfl, hsz, hP, hK, hD0, hz0, hZ⟩ := hv
  have hx := B.exec
  have hb := B.bytes
  have hr := B.returns
  have hts0 := atoms_spec (ws := (Cond.code yL_areAlike cL_areAlike 4 (some .boolean) :: wT)) B.pre
  have hts := fun w h => hts0 w (List.mem_cons_of_mem _ h)
  clear hts0
  have hown : s.vm.findClass RL = some m.cls := findClass_of_methodNamed B.named
  have hlocks := B.notSynchronized
  subst hsz
  have hD := hD0.self (sz := s.heap.size)
  have hAz := wA_ge hD0 hz0
  generalize hAe : va_A (([(cXo x an tr xv), (cH cyO (x 1) (x 2) 2 fl), (cXk cyI x xv), (cH cyO (x 4) (x 5) 6 fs), (cT cyI x (X_text xv)), (cSo an nv), (cG cyI an (S_green nv)), (cV cyI an (S_score nv)), (cXo yx yan ytr yxv), (cH cyO (yx 1) (yx 2) 2 yfl), (cXk cyI yx yxv), (cH cyO (yx 4) (yx 5) 6 yfs), (cT cyI yx (X_text yxv)), (cS cyI yan ynv)] : List va_W).flatten) s.heap.size = A at hD hAz ⊢
  have hA : ∀ q : Nat, s.heap.size ≤ q → A q := fun q h => by rw [← hAe]; exact Or.inr h
  clear hD0
  have hS : va_S A s.heap s.heap [] := va_S.rf
  have hl := lv_entry [.ref (x 0), .ref (yx 0)] (n := 4) (Nat.le_of_ble_eq_true rfl)
  rw [lg_entry_eq]
  generalize (lg_sl [.ref (x 0), .ref (yx 0)] ++ List.replicate (4 - (lg_sl [.ref (x 0), .ref (yx 0)]).length) Slot.unset).toArray = ls at hl ⊢
  have hl : lv_has ls 4 [(0, .ref (x 0)), (1, .ref (yx 0))] := hl
  unfold f_L_areAlike at hF
  refine lv_aload_n hx hb dL_areAlike_0 rfl (lv_at hl 0 rfl) ?_
  obtain ⟨o1, h2, hF⟩ := obd hF
  refine wcRVi (As := []) (rest := []) (b := (x 0)) ⟨hx, hb, hml, hown, hts⟩ (met_X5_isJackThere l dC dI cyI cyO x tr an fl fs N xv nv  o1 h2) (cwV 0 hts (gV w_methodLink_L_74 w_instanceMethod_X5_isJackThere w_selects_X5_isJackThere w_initialized_X5 w_code_X5_isJackThere) rfl rfl rfl (by decide +kernel) ⟨Nat.le_of_ble_eq_true rfl, Nat.le_of_ble_eq_true rfl⟩) (va_recv hK.1 hP (ci := 5) (q0 := 0) rfl rfl) hP hK [0, 1, 2, 3, 4, 5, 6, 7, 8, 9, 10, 11, 12, 13, 14, 15, 16, 17, 18, 19, 20] rfl rfl hl.1 (Nat.le_of_ble_eq_true rfl) dL_areAlike_1 ⟨(show _ ≤ 292 from by omega), (show _ ≤ 1752 from by omega)⟩ hS (fun r H locs hw hP hS => ?_)
  obtain ⟨hw, hz3⟩ := hw
  have hw := hw.symm
  subst hw
  refine lv_aload_n hx hb dL_areAlike_4 rfl (lv_at hl 1 rfl) ?_
  obtain ⟨o4, h5, hF⟩ := obd hF
  refine wcRVi (As := []) (rest := [.int o1]) (b := (yx 0)) ⟨hx, hb, hml, hown, hts⟩ (met_X5_isJackThere l dC dI cyI cyO yx ytr yan yfl yfs N yxv ynv  o4 h5) (cwV 0 hts (gV w_methodLink_L_74 w_instanceMethod_X5_isJackThere w_selects_X5_isJackThere w_initialized_X5 w_code_X5_isJackThere) rfl rfl rfl (by decide +kernel) ⟨Nat.le_of_ble_eq_true rfl, Nat.le_of_ble_eq_true rfl⟩) (va_recv hK.1 hP (ci := 5) (q0 := 21) rfl rfl) hP hK [21, 22, 23, 24, 25, 26, 27, 28, 29, 30, 31, 32, 33, 34, 35, 36, 37, 38, 39, 40, 41] rfl rfl hl.1 (Nat.le_of_ble_eq_true rfl) dL_areAlike_5 ⟨(show _ ≤ 292 from by omega), (show _ ≤ 1752 from by omega)⟩ hS (fun r H locs hw hP hS => ?_)
  obtain ⟨hw, hz6⟩ := hw
  have hw := hw.symm
  subst hw
  obtain ⟨j178, hj178, hF⟩ := jn_use hF
  have hJ178 : ∀ (s178 : Int32 × XV × SV × XV × SV) (H : Heap) (locs : List Loc) (ls : Array Slot) (hz_178_s0 : b01 s178.1), va_P (dC, dI) vwCl (([(cXo x an tr s178.2.1), (cH cyO (x 1) (x 2) 2 fl), (cXk cyI x s178.2.1), (cH cyO (x 4) (x 5) 6 fs), (cT cyI x (X_text s178.2.1)), (cSo an s178.2.2.1), (cG cyI an (S_green s178.2.2.1)), (cV cyI an (S_score s178.2.2.1)), (cXo yx yan ytr s178.2.2.2.1), (cH cyO (yx 1) (yx 2) 2 yfl), (cXk cyI yx s178.2.2.2.1), (cH cyO (yx 4) (yx 5) 6 yfs), (cT cyI yx (X_text s178.2.2.2.1)), (cS cyI yan s178.2.2.2.2)] : List va_W).flatten) H → va_D A (([(cXo x an tr s178.2.1), (cH cyO (x 1) (x 2) 2 fl), (cXk cyI x s178.2.1), (cH cyO (x 4) (x 5) 6 fs), (cT cyI x (X_text s178.2.1)), (cSo an s178.2.2.1), (cG cyI an (S_green s178.2.2.1)), (cV cyI an (S_score s178.2.2.1)), (cXo yx yan ytr s178.2.2.2.1), (cH cyO (yx 1) (yx 2) 2 yfl), (cXk cyI yx s178.2.2.2.1), (cH cyO (yx 4) (yx 5) 6 yfs), (cT cyI yx (X_text s178.2.2.2.1)), (cS cyI yan s178.2.2.2.2)] : List va_W).flatten) → va_S A s.heap H locs → lv_has ls 4 [(0, .ref (x 0)), (1, .ref (yx 0))] → j178 s178 = some out → W p l e (headSpec (Cond.code yL_areAlike cL_areAlike 4 (some .boolean) :: wT) ({ frames := 9, cells := 292, slots := 1752, locals := 147 } : Room)).room s m ([.ref (x 0), .ref (yx 0)] : List Value).toArray below meth c H locs 22 132 (MQ below (va_Qi (fun (r : Int32) (u : XV × SV × XV × SV) => (r, u) = out ∧ b01 r) (fun u t => va_P (dC, dI) vwCl (([(cXo x an tr u.1), (cH cyO (x 1) (x 2) 2 fl), (cXk cyI x u.1), (cH cyO (x 4) (x 5) 6 fs), (cT cyI x (X_text u.1)), (cSo an u.2.1), (cG cyI an (S_green u.2.1)), (cV cyI an (S_score u.2.1)), (cXo yx yan ytr u.2.2.1), (cH cyO (yx 1) (yx 2) 2 yfl), (cXk cyI yx u.2.2.1), (cH cyO (yx 4) (yx 5) 6 yfs), (cT cyI yx (X_text u.2.2.1)), (cS cyI yan u.2.2.2)] : List va_W).flatten) t.heap ∧ va_D A (([(cXo x an tr u.1), (cH cyO (x 1) (x 2) 2 fl), (cXk cyI x u.1), (cH cyO (x 4) (x 5) 6 fs), (cT cyI x (X_text u.1)), (cSo an u.2.1), (cG cyI an (S_green u.2.1)), (cV cyI an (S_score u.2.1)), (cXo yx yan ytr u.2.2.1), (cH cyO (yx 1) (yx 2) 2 yfl), (cXk cyI yx u.2.2.1), (cH cyO (yx 4) (yx 5) 6 yfs), (cT cyI yx (X_text u.2.2.1)), (cS cyI yan u.2.2.2)] : List va_W).flatten)) A) ([.ref (x 0), .ref (yx 0)] : List Value).toArray s 292 1752 A) (F0 m 178 ls [.int s178.1]) := by
    intro s178 H locs ls hz_178_s0 hP hD hS hl hF
    have hF := (congrFun hj178 s178).symm.trans hF
    refine lv_istore_n (lv' := [(2, .int s178.1), (0, .ref (x 0)), (1, .ref (yx 0))]) hx hb dL_areAlike_178 rfl hl (by decide) rfl (fun ls hl => ?_)
    refine lv_iconst (v := 0) hx hb dL_areAlike_179 (by decide) ?_
    refine lv_istore_n (lv' := [(3, .int (0 : Int32)), (2, .int s178.1), (0, .ref (x 0)), (1, .ref (yx 0))]) hx hb dL_areAlike_180 rfl hl (by decide) rfl (fun ls hl => ?_)
    obtain ⟨st181, hst181, hF⟩ := lpN_use hF
    have hL181 : ∀ (n181 : Nat) (hn181 : n181 ≤ 10) (s181 : Int32 × Int32 × XV × SV × XV × SV) (H : Heap) (locs : List Loc) (ls : Array Slot) (hz_181_2 : b01 s181.1), va_P (dC, dI) vwCl (([(cXo x an tr s181.2.2.1), (cH cyO (x 1) (x 2) 2 fl), (cXk cyI x s181.2.2.1), (cH cyO (x 4) (x 5) 6 fs), (cT cyI x (X_text s181.2.2.1)), (cSo an s181.2.2.2.1), (cG cyI an (S_green s181.2.2.2.1)), (cV cyI an (S_score s181.2.2.2.1)), (cXo yx yan ytr s181.2.2.2.2.1), (cH cyO (yx 1) (yx 2) 2 yfl), (cXk cyI yx s181.2.2.2.2.1), (cH cyO (yx 4) (yx 5) 6 yfs), (cT cyI yx (X_text s181.2.2.2.2.1)), (cS cyI yan s181.2.2.2.2.2)] : List va_W).flatten) H → va_D A (([(cXo x an tr s181.2.2.1), (cH cyO (x 1) (x 2) 2 fl), (cXk cyI x s181.2.2.1), (cH cyO (x 4) (x 5) 6 fs), (cT cyI x (X_text s181.2.2.1)), (cSo an s181.2.2.2.1), (cG cyI an (S_green s181.2.2.2.1)), (cV cyI an (S_score s181.2.2.2.1)), (cXo yx yan ytr s181.2.2.2.2.1), (cH cyO (yx 1) (yx 2) 2 yfl), (cXk cyI yx s181.2.2.2.2.1), (cH cyO (yx 4) (yx 5) 6 yfs), (cT cyI yx (X_text s181.2.2.2.2.1)), (cS cyI yan s181.2.2.2.2.2)] : List va_W).flatten) → va_S A s.heap H locs → lv_has ls 4 [(0, .ref (x 0)), (1, .ref (yx 0)), (2, .int s181.1), (3, .int s181.2.1)] → lpN st181 n181 s181 = some out → W p l e (headSpec (Cond.code yL_areAlike cL_areAlike 4 (some .boolean) :: wT) ({ frames := 9, cells := 292, slots := 1752, locals := 147 } : Room)).room s m ([.ref (x 0), .ref (yx 0)] : List Value).toArray below meth c H locs (22 + 27 * (10 - (n181))) (132 + 162 * (10 - (n181))) (MQ below (va_Qi (fun (r : Int32) (u : XV × SV × XV × SV) => (r, u) = out ∧ b01 r) (fun u t => va_P (dC, dI) vwCl (([(cXo x an tr u.1), (cH cyO (x 1) (x 2) 2 fl), (cXk cyI x u.1), (cH cyO (x 4) (x 5) 6 fs), (cT cyI x (X_text u.1)), (cSo an u.2.1), (cG cyI an (S_green u.2.1)), (cV cyI an (S_score u.2.1)), (cXo yx yan ytr u.2.2.1), (cH cyO (yx 1) (yx 2) 2 yfl), (cXk cyI yx u.2.2.1), (cH cyO (yx 4) (yx 5) 6 yfs), (cT cyI yx (X_text u.2.2.1)), (cS cyI yan u.2.2.2)] : List va_W).flatten) t.heap ∧ va_D A (([(cXo x an tr u.1), (cH cyO (x 1) (x 2) 2 fl), (cXk cyI x u.1), (cH cyO (x 4) (x 5) 6 fs), (cT cyI x (X_text u.1)), (cSo an u.2.1), (cG cyI an (S_green u.2.1)), (cV cyI an (S_score u.2.1)), (cXo yx yan ytr u.2.2.1), (cH cyO (yx 1) (yx 2) 2 yfl), (cXk cyI yx u.2.2.1), (cH cyO (yx 4) (yx 5) 6 yfs), (cT cyI yx (X_text u.2.2.1)), (cS cyI yan u.2.2.2)] : List va_W).flatten)) A) ([.ref (x 0), .ref (yx 0)] : List Value).toArray s 292 1752 A) (F0 m 181 ls []) := by
      intro n181
      induction n181 with
      | zero => intro hn181 s181 H locs ls hz_181_2 hP hD hS hl hF; exact lpN_0 hF
      | succ n181 ih181 =>
        intro hn181 s181 H locs ls hz_181_2 hP hD hS hl hF
        have hF := (congrFun (congrFun hst181 s181) (lpN st181 n181)).symm.trans (lpN_s hF)
        refine lv_iload_n hx hb dL_areAlike_181 rfl (lv_at hl 3 rfl) ?_
        refine lv_aload_n hx hb dL_areAlike_182 rfl (lv_at hl 0 rfl) ?_
        obtain ⟨o7, h8, hF⟩ := obd hF
        refine wcRVi (As := []) (rest := [.int s181.2.1]) (b := (x 0)) ⟨hx, hb, hml, hown, hts⟩ (met_X5_bowls l dC dI cyI cyO x tr an fl fs N s181.2.2.1 s181.2.2.2.1  o7 h8) (cwV 0 hts (gV w_methodLink_L_77 w_instanceMethod_X5_bowls w_selects_X5_bowls w_initialized_X5 w_code_X5_bowls) rfl rfl rfl (by decide +kernel) ⟨Nat.le_of_ble_eq_true rfl, Nat.le_of_ble_eq_true rfl⟩) (va_recv hK.1 hP (ci := 5) (q0 := 0) rfl rfl) hP hK [0, 1, 2, 3, 4, 5, 6, 7, 8, 9, 10, 11, 12, 13, 14, 15, 16, 17, 18, 19, 20] rfl rfl hl.1 (Nat.le_of_ble_eq_true rfl) dL_areAlike_183 ⟨(show _ ≤ 292 from by omega), (show _ ≤ 1752 from by omega)⟩ hS (fun r H locs hw hP hS => ?_)
        have hw := hw.symm
        subst hw
        obtain ⟨j268, hj268, hF⟩ := jn_use hF
        have hJ268 : ∀ (s268 : Unit) (H : Heap) (locs : List Loc) (ls : Array Slot), va_P (dC, dI) vwCl (([(cXo x an tr s181.2.2.1), (cH cyO (x 1) (x 2) 2 fl), (cXk cyI x s181.2.2.1), (cH cyO (x 4) (x 5) 6 fs), (cT cyI x (X_text s181.2.2.1)), (cSo an s181.2.2.2.1), (cG cyI an (S_green s181.2.2.2.1)), (cV cyI an (S_score s181.2.2.2.1)), (cXo yx yan ytr s181.2.2.2.2.1), (cH cyO (yx 1) (yx 2) 2 yfl), (cXk cyI yx s181.2.2.2.2.1), (cH cyO (yx 4) (yx 5) 6 yfs), (cT cyI yx (X_text s181.2.2.2.2.1)), (cS cyI yan s181.2.2.2.2.2)] : List va_W).flatten) H → va_D A (([(cXo x an tr s181.2.2.1), (cH cyO (x 1) (x 2) 2 fl), (cXk cyI x s181.2.2.1), (cH cyO (x 4) (x 5) 6 fs), (cT cyI x (X_text s181.2.2.1)), (cSo an s181.2.2.2.1), (cG cyI an (S_green s181.2.2.2.1)), (cV cyI an (S_score s181.2.2.2.1)), (cXo yx yan ytr s181.2.2.2.2.1), (cH cyO (yx 1) (yx 2) 2 yfl), (cXk cyI yx s181.2.2.2.2.1), (cH cyO (yx 4) (yx 5) 6 yfs), (cT cyI yx (X_text s181.2.2.2.2.1)), (cS cyI yan s181.2.2.2.2.2)] : List va_W).flatten) → va_S A s.heap H locs → lv_has ls 4 [(2, .int s181.1)] → j268 s268 = some out → W p l e (headSpec (Cond.code yL_areAlike cL_areAlike 4 (some .boolean) :: wT) ({ frames := 9, cells := 292, slots := 1752, locals := 147 } : Room)).room s m ([.ref (x 0), .ref (yx 0)] : List Value).toArray below meth c H locs (22 + 27 * (10 - (n181 + 1))) (132 + 162 * (10 - (n181 + 1))) (MQ below (va_Qi (fun (r : Int32) (u : XV × SV × XV × SV) => (r, u) = out ∧ b01 r) (fun u t => va_P (dC, dI) vwCl (([(cXo x an tr u.1), (cH cyO (x 1) (x 2) 2 fl), (cXk cyI x u.1), (cH cyO (x 4) (x 5) 6 fs), (cT cyI x (X_text u.1)), (cSo an u.2.1), (cG cyI an (S_green u.2.1)), (cV cyI an (S_score u.2.1)), (cXo yx yan ytr u.2.2.1), (cH cyO (yx 1) (yx 2) 2 yfl), (cXk cyI yx u.2.2.1), (cH cyO (yx 4) (yx 5) 6 yfs), (cT cyI yx (X_text u.2.2.1)), (cS cyI yan u.2.2.2)] : List va_W).flatten) t.heap ∧ va_D A (([(cXo x an tr u.1), (cH cyO (x 1) (x 2) 2 fl), (cXk cyI x u.1), (cH cyO (x 4) (x 5) 6 fs), (cT cyI x (X_text u.1)), (cSo an u.2.1), (cG cyI an (S_green u.2.1)), (cV cyI an (S_score u.2.1)), (cXo yx yan ytr u.2.2.1), (cH cyO (yx 1) (yx 2) 2 yfl), (cXk cyI yx u.2.2.1), (cH cyO (yx 4) (yx 5) 6 yfs), (cT cyI yx (X_text u.2.2.1)), (cS cyI yan u.2.2.2)] : List va_W).flatten)) A) ([.ref (x 0), .ref (yx 0)] : List Value).toArray s 292 1752 A) (F0 m 268 ls []) := by
          intro s268 H locs ls hP hD hS hl hF
          have hF := (congrFun hj268 s268).symm.trans hF
          refine lv_iload_n hx hb dL_areAlike_268 rfl (lv_at hl 0 rfl) ?_
          refine W.widen (k := 292) (n := 1752) (by omega) (by omega) ?_
          exact W.zret (ty := .boolean) (v := s181.1) hx hb hr (b01_n hz_181_2) (fun t ht hW => ⟨⟨_, (s181.2.2.1, s181.2.2.2.1, s181.2.2.2.2.1, s181.2.2.2.2.2), rfl, ⟨Option.some.inj hF, hz_181_2⟩, by rw [ht]; exact hP, hD⟩, hS.F ht⟩) hS.2.2 dL_areAlike_269
        refine lv_icmp_ge (tgt := 268) hx hb dL_areAlike_186 (by decide) (fun c9 => ?_) (fun c9 => ?_)
        · have hF := itp c9 hF
          refine W.widen (k := (22 + 27 * (10 - (n181 + 1)))) (n := (132 + 162 * (10 - (n181 + 1)))) (by omega) (by omega) ?_
          exact hJ268 () _ _ _ hP hD hS (lv_sub hl [2] rfl) hF
        · have hF := itn c9 hF
          refine lv_iload_n hx hb dL_areAlike_189 rfl (lv_at hl 2 rfl) ?_
          refine lv_if_eq (tgt := 268) hx hb dL_areAlike_190 (by decide) (fun c10 => ?_) (fun c10 => ?_)
          · have hF := itp c10 hF
            refine W.widen (k := (22 + 27 * (10 - (n181 + 1)))) (n := (132 + 162 * (10 - (n181 + 1)))) (by omega) (by omega) ?_
            exact hJ268 () _ _ _ hP hD hS (lv_sub hl [2] rfl) hF
          · have hF := itn c10 hF
            refine lv_aload_n hx hb dL_areAlike_193 rfl (lv_at hl 0 rfl) ?_
            refine lv_iload_n hx hb dL_areAlike_194 rfl (lv_at hl 3 rfl) ?_
            obtain ⟨o11, h12, hF⟩ := obd hF
            refine wxRVi (As := [.int s181.2.1]) (rest := []) (b := (x 0)) ⟨hx, hb, hml, hown, hts⟩ (met_X5_stateOf l z0 hst dC dI cyI cyO x tr an fl fs N s181.2.2.1 s181.2.2.2.1 s181.2.1 o11 h12) (cwV 1 hts (gV w_methodLink_L_127 w_instanceMethod_X5_stateOf w_selects_X5_stateOf w_initialized_X5 w_code_X5_stateOf) rfl rfl rfl (by decide +kernel) ⟨Nat.le_of_ble_eq_true rfl, Nat.le_of_ble_eq_true rfl⟩) (va_recv hK.1 hP (ci := 5) (q0 := 0) rfl rfl) hP hK hZ hAz [0, 1, 2, 3, 4, 5, 6, 7, 8, 9, 10, 11, 12, 13, 14, 15, 16, 17, 18, 19, 20] rfl rfl hl.1 (Nat.le_of_ble_eq_true rfl) dL_areAlike_195 ⟨(show _ ≤ 292 from by omega), (show _ ≤ 1752 from by omega)⟩ hS (fun k ce q9 H locs hw hP hS h9 hv9 hc9 => ?_) (fun ro11 H locs hw hP hS => ?_)
            · have hw := hw.symm
              subst hw
              have hF := exc_l hF
              cases hF
            · skip
              have hw := hw.symm
              subst hw
              have hF := exc_r hF
              refine lv_aload_n hx hb dL_areAlike_198 rfl (lv_at hl 1 rfl) ?_
              refine lv_iload_n hx hb dL_areAlike_199 rfl (lv_at hl 3 rfl) ?_
              obtain ⟨o13, h14, hF⟩ := obd hF
              refine wxRVi (As := [.int s181.2.1]) (rest := [.int ro11]) (b := (yx 0)) ⟨hx, hb, hml, hown, hts⟩ (met_X5_stateOf l z0 hst dC dI cyI cyO yx ytr yan yfl yfs N s181.2.2.2.2.1 s181.2.2.2.2.2 s181.2.1 o13 h14) (cwV 1 hts (gV w_methodLink_L_127 w_instanceMethod_X5_stateOf w_selects_X5_stateOf w_initialized_X5 w_code_X5_stateOf) rfl rfl rfl (by decide +kernel) ⟨Nat.le_of_ble_eq_true rfl, Nat.le_of_ble_eq_true rfl⟩) (va_recv hK.1 hP (ci := 5) (q0 := 21) rfl rfl) hP hK hZ hAz [21, 22, 23, 24, 25, 26, 27, 28, 29, 30, 31, 32, 33, 34, 35, 36, 37, 38, 39, 40, 41] rfl rfl hl.1 (Nat.le_of_ble_eq_true rfl) dL_areAlike_200 ⟨(show _ ≤ 292 from by omega), (show _ ≤ 1752 from by omega)⟩ hS (fun k ce q9 H locs hw hP hS h9 hv9 hc9 => ?_) (fun ro13 H locs hw hP hS => ?_)
              · have hw := hw.symm
                subst hw
                have hF := exc_l hF
                cases hF
              · skip
                have hw := hw.symm
                subst hw
                have hF := exc_r hF
                obtain ⟨j261, hj261, hF⟩ := jn_use hF
                have hJ261 : ∀ (s261 : Int32 × XV × SV × XV × SV) (H : Heap) (locs : List Loc) (ls : Array Slot) (hz_261_s0 : b01 s261.1), va_P (dC, dI) vwCl (([(cXo x an tr s261.2.1), (cH cyO (x 1) (x 2) 2 fl), (cXk cyI x s261.2.1), (cH cyO (x 4) (x 5) 6 fs), (cT cyI x (X_text s261.2.1)), (cSo an s261.2.2.1), (cG cyI an (S_green s261.2.2.1)), (cV cyI an (S_score s261.2.2.1)), (cXo yx yan ytr s261.2.2.2.1), (cH cyO (yx 1) (yx 2) 2 yfl), (cXk cyI yx s261.2.2.2.1), (cH cyO (yx 4) (yx 5) 6 yfs), (cT cyI yx (X_text s261.2.2.2.1)), (cS cyI yan s261.2.2.2.2)] : List va_W).flatten) H → va_D A (([(cXo x an tr s261.2.1), (cH cyO (x 1) (x 2) 2 fl), (cXk cyI x s261.2.1), (cH cyO (x 4) (x 5) 6 fs), (cT cyI x (X_text s261.2.1)), (cSo an s261.2.2.1), (cG cyI an (S_green s261.2.2.1)), (cV cyI an (S_score s261.2.2.1)), (cXo yx yan ytr s261.2.2.2.1), (cH cyO (yx 1) (yx 2) 2 yfl), (cXk cyI yx s261.2.2.2.1), (cH cyO (yx 4) (yx 5) 6 yfs), (cT cyI yx (X_text s261.2.2.2.1)), (cS cyI yan s261.2.2.2.2)] : List va_W).flatten) → va_S A s.heap H locs → lv_has ls 4 [(0, .ref (x 0)), (1, .ref (yx 0)), (3, .int s181.2.1)] → j261 s261 = some out → W p l e (headSpec (Cond.code yL_areAlike cL_areAlike 4 (some .boolean) :: wT) ({ frames := 9, cells := 292, slots := 1752, locals := 147 } : Room)).room s m ([.ref (x 0), .ref (yx 0)] : List Value).toArray below meth c H locs (49 + 27 * (10 - (n181 + 1))) (294 + 162 * (10 - (n181 + 1))) (MQ below (va_Qi (fun (r : Int32) (u : XV × SV × XV × SV) => (r, u) = out ∧ b01 r) (fun u t => va_P (dC, dI) vwCl (([(cXo x an tr u.1), (cH cyO (x 1) (x 2) 2 fl), (cXk cyI x u.1), (cH cyO (x 4) (x 5) 6 fs), (cT cyI x (X_text u.1)), (cSo an u.2.1), (cG cyI an (S_green u.2.1)), (cV cyI an (S_score u.2.1)), (cXo yx yan ytr u.2.2.1), (cH cyO (yx 1) (yx 2) 2 yfl), (cXk cyI yx u.2.2.1), (cH cyO (yx 4) (yx 5) 6 yfs), (cT cyI yx (X_text u.2.2.1)), (cS cyI yan u.2.2.2)] : List va_W).flatten) t.heap ∧ va_D A (([(cXo x an tr u.1), (cH cyO (x 1) (x 2) 2 fl), (cXk cyI x u.1), (cH cyO (x 4) (x 5) 6 fs), (cT cyI x (X_text u.1)), (cSo an u.2.1), (cG cyI an (S_green u.2.1)), (cV cyI an (S_score u.2.1)), (cXo yx yan ytr u.2.2.1), (cH cyO (yx 1) (yx 2) 2 yfl), (cXk cyI yx u.2.2.1), (cH cyO (yx 4) (yx 5) 6 yfs), (cT cyI yx (X_text u.2.2.1)), (cS cyI yan u.2.2.2)] : List va_W).flatten)) A) ([.ref (x 0), .ref (yx 0)] : List Value).toArray s 292 1752 A) (F0 m 261 ls [.int s261.1]) := by
                  intro s261 H locs ls hz_261_s0 hP hD hS hl hF
                  have hF := (congrFun hj261 s261).symm.trans hF
                  refine lv_istore_n (lv' := [(2, .int s261.1), (0, .ref (x 0)), (1, .ref (yx 0)), (3, .int s181.2.1)]) hx hb dL_areAlike_261 rfl hl (by decide) rfl (fun ls hl => ?_)
                  refine lv_iinc (v := (s181.2.1 + (1 : Int32))) (lv' := [(3, .int (s181.2.1 + (1 : Int32))), (2, .int s261.1), (0, .ref (x 0)), (1, .ref (yx 0))]) hx hb dL_areAlike_262 hl (k := 3) rfl rfl (by decide) rfl (fun ls hl => ?_)
                  refine lv_goto (tgt := 181) hx hb dL_areAlike_265 (by decide) ?_
                  refine W.widen (k := (22 + 27 * (10 - (n181)))) (n := (132 + 162 * (10 - (n181)))) (by omega) (by omega) ?_
                  exact ih181 (by omega) (s261.1, (s181.2.1 + (1 : Int32)), s261.2.1, s261.2.2.1, s261.2.2.2.1, s261.2.2.2.2) _ _ _ hz_261_s0 hP hD hS (lv_sub hl [2, 3, 1, 0] rfl) hF
                obtain ⟨j260, hj260, hF⟩ := jn_use hF
                have hJ260 : ∀ (s260 : XV × SV × XV × SV) (H : Heap) (locs : List Loc) (ls : Array Slot), va_P (dC, dI) vwCl (([(cXo x an tr s260.1), (cH cyO (x 1) (x 2) 2 fl), (cXk cyI x s260.1), (cH cyO (x 4) (x 5) 6 fs), (cT cyI x (X_text s260.1)), (cSo an s260.2.1), (cG cyI an (S_green s260.2.1)), (cV cyI an (S_score s260.2.1)), (cXo yx yan ytr s260.2.2.1), (cH cyO (yx 1) (yx 2) 2 yfl), (cXk cyI yx s260.2.2.1), (cH cyO (yx 4) (yx 5) 6 yfs), (cT cyI yx (X_text s260.2.2.1)), (cS cyI yan s260.2.2.2)] : List va_W).flatten) H → va_D A (([(cXo x an tr s260.1), (cH cyO (x 1) (x 2) 2 fl), (cXk cyI x s260.1), (cH cyO (x 4) (x 5) 6 fs), (cT cyI x (X_text s260.1)), (cSo an s260.2.1), (cG cyI an (S_green s260.2.1)), (cV cyI an (S_score s260.2.1)), (cXo yx yan ytr s260.2.2.1), (cH cyO (yx 1) (yx 2) 2 yfl), (cXk cyI yx s260.2.2.1), (cH cyO (yx 4) (yx 5) 6 yfs), (cT cyI yx (X_text s260.2.2.1)), (cS cyI yan s260.2.2.2)] : List va_W).flatten) → va_S A s.heap H locs → lv_has ls 4 [(0, .ref (x 0)), (1, .ref (yx 0)), (3, .int s181.2.1)] → j260 s260 = some out → W p l e (headSpec (Cond.code yL_areAlike cL_areAlike 4 (some .boolean) :: wT) ({ frames := 9, cells := 292, slots := 1752, locals := 147 } : Room)).room s m ([.ref (x 0), .ref (yx 0)] : List Value).toArray below meth c H locs (49 + 27 * (10 - (n181 + 1))) (294 + 162 * (10 - (n181 + 1))) (MQ below (va_Qi (fun (r : Int32) (u : XV × SV × XV × SV) => (r, u) = out ∧ b01 r) (fun u t => va_P (dC, dI) vwCl (([(cXo x an tr u.1), (cH cyO (x 1) (x 2) 2 fl), (cXk cyI x u.1), (cH cyO (x 4) (x 5) 6 fs), (cT cyI x (X_text u.1)), (cSo an u.2.1), (cG cyI an (S_green u.2.1)), (cV cyI an (S_score u.2.1)), (cXo yx yan ytr u.2.2.1), (cH cyO (yx 1) (yx 2) 2 yfl), (cXk cyI yx u.2.2.1), (cH cyO (yx 4) (yx 5) 6 yfs), (cT cyI yx (X_text u.2.2.1)), (cS cyI yan u.2.2.2)] : List va_W).flatten) t.heap ∧ va_D A (([(cXo x an tr u.1), (cH cyO (x 1) (x 2) 2 fl), (cXk cyI x u.1), (cH cyO (x 4) (x 5) 6 fs), (cT cyI x (X_text u.1)), (cSo an u.2.1), (cG cyI an (S_green u.2.1)), (cV cyI an (S_score u.2.1)), (cXo yx yan ytr u.2.2.1), (cH cyO (yx 1) (yx 2) 2 yfl), (cXk cyI yx u.2.2.1), (cH cyO (yx 4) (yx 5) 6 yfs), (cT cyI yx (X_text u.2.2.1)), (cS cyI yan u.2.2.2)] : List va_W).flatten)) A) ([.ref (x 0), .ref (yx 0)] : List Value).toArray s 292 1752 A) (F0 m 260 ls []) := by
                  intro s260 H locs ls hP hD hS hl hF
                  have hF := (congrFun hj260 s260).symm.trans hF
                  refine lv_iconst (v := 0) hx hb dL_areAlike_260 (by decide) ?_
                  refine W.widen (k := (49 + 27 * (10 - (n181 + 1)))) (n := (294 + 162 * (10 - (n181 + 1)))) (by omega) (by omega) ?_
                  exact hJ261 ((0 : Int32), s260.1, s260.2.1, s260.2.2.1, s260.2.2.2) _ _ _ b01_0 hP hD hS (lv_sub hl [0, 1, 2] rfl) hF
                refine lv_icmp_ne (tgt := 260) hx hb dL_areAlike_203 (by decide) (fun c15 => ?_) (fun c15 => ?_)
                · have hF := itn c15 hF
                  refine W.widen (k := (49 + 27 * (10 - (n181 + 1)))) (n := (294 + 162 * (10 - (n181 + 1)))) (by omega) (by omega) ?_
                  exact hJ260 (s181.2.2.1, s181.2.2.2.1, s181.2.2.2.2.1, s181.2.2.2.2.2) _ _ _ hP hD hS (lv_sub hl [0, 1, 3] rfl) hF
                · have hF := itp c15 hF
                  refine lv_aload_n hx hb dL_areAlike_206 rfl (lv_at hl 0 rfl) ?_
                  refine lv_iload_n hx hb dL_areAlike_207 rfl (lv_at hl 3 rfl) ?_
                  obtain ⟨o16, h17, hF⟩ := obd hF
                  refine wxRVi (As := [.int s181.2.1]) (rest := []) (b := (x 0)) ⟨hx, hb, hml, hown, hts⟩ (met_X5_isToucher l z0 hst dC dI cyI cyO x tr an fl fs N s181.2.2.1 s181.2.2.2.1 s181.2.1 o16 h17) (cwV 1 hts (gV w_methodLink_L_130 w_instanceMethod_X5_isToucher w_selects_X5_isToucher w_initialized_X5 w_code_X5_isToucher) rfl rfl rfl (by decide +kernel) ⟨Nat.le_of_ble_eq_true rfl, Nat.le_of_ble_eq_true rfl⟩) (va_recv hK.1 hP (ci := 5) (q0 := 0) rfl rfl) hP hK hZ hAz [0, 1, 2, 3, 4, 5, 6, 7, 8, 9, 10, 11, 12, 13, 14, 15, 16, 17, 18, 19, 20] rfl rfl hl.1 (Nat.le_of_ble_eq_true rfl) dL_areAlike_208 ⟨(show _ ≤ 292 from by omega), (show _ ≤ 1752 from by omega)⟩ hS (fun k ce q9 H locs hw hP hS h9 hv9 hc9 => ?_) (fun ro16 H locs hw hP hS => ?_)
                  · have hw := hw.symm
                    subst hw
                    have hF := exc_l hF
                    cases hF
                  · skip
                    obtain ⟨hw, hz18⟩ := hw
                    have hw := hw.symm
                    subst hw
                    have hF := exc_r hF
                    refine lv_aload_n hx hb dL_areAlike_211 rfl (lv_at hl 1 rfl) ?_
                    refine lv_iload_n hx hb dL_areAlike_212 rfl (lv_at hl 3 rfl) ?_
                    obtain ⟨o19, h20, hF⟩ := obd hF
                    refine wxRVi (As := [.int s181.2.1]) (rest := [.int ro16]) (b := (yx 0)) ⟨hx, hb, hml, hown, hts⟩ (met_X5_isToucher l z0 hst dC dI cyI cyO yx ytr yan yfl yfs N s181.2.2.2.2.1 s181.2.2.2.2.2 s181.2.1 o19 h20) (cwV 1 hts (gV w_methodLink_L_130 w_instanceMethod_X5_isToucher w_selects_X5_isToucher w_initialized_X5 w_code_X5_isToucher) rfl rfl rfl (by decide +kernel) ⟨Nat.le_of_ble_eq_true rfl, Nat.le_of_ble_eq_true rfl⟩) (va_recv hK.1 hP (ci := 5) (q0 := 21) rfl rfl) hP hK hZ hAz [21, 22, 23, 24, 25, 26, 27, 28, 29, 30, 31, 32, 33, 34, 35, 36, 37, 38, 39, 40, 41] rfl rfl hl.1 (Nat.le_of_ble_eq_true rfl) dL_areAlike_213 ⟨(show _ ≤ 292 from by omega), (show _ ≤ 1752 from by omega)⟩ hS (fun k ce q9 H locs hw hP hS h9 hv9 hc9 => ?_) (fun ro19 H locs hw hP hS => ?_)
                    · have hw := hw.symm
                      subst hw
                      have hF := exc_l hF
                      cases hF
                    · skip
                      obtain ⟨hw, hz21⟩ := hw
                      have hw := hw.symm
                      subst hw
                      have hF := exc_r hF
                      refine lv_icmp_ne (tgt := 260) hx hb dL_areAlike_216 (by decide) (fun c22 => ?_) (fun c22 => ?_)
                      · have hF := itn c22 hF
                        refine W.widen (k := (49 + 27 * (10 - (n181 + 1)))) (n := (294 + 162 * (10 - (n181 + 1)))) (by omega) (by omega) ?_
                        exact hJ260 (s181.2.2.1, s181.2.2.2.1, s181.2.2.2.2.1, s181.2.2.2.2.2) _ _ _ hP hD hS (lv_sub hl [0, 1, 3] rfl) hF
                      · have hF := itp c22 hF
                        refine lv_aload_n hx hb dL_areAlike_219 rfl (lv_at hl 0 rfl) ?_
                        refine lv_iconst (v := 0) hx hb dL_areAlike_220 (by decide) ?_
                        refine lv_iload_n hx hb dL_areAlike_221 rfl (lv_at hl 3 rfl) ?_
                        obtain ⟨o23, h24, hF⟩ := obd hF
                        refine wcLi (As := [.ref (x 0), .int (0 : Int32), .int s181.2.1]) (rest := []) (wr := ([(cXo yx yan ytr s181.2.2.2.2.1), (cH cyO (yx 1) (yx 2) 2 yfl), (cXk cyI yx s181.2.2.2.2.1), (cH cyO (yx 4) (yx 5) 6 yfs), (cT cyI yx (X_text s181.2.2.2.2.1)), (cS cyI yan s181.2.2.2.2.2)] : List va_W).flatten) ⟨hx, hb, hml, hown, hts⟩ (met_L_looks l z0 hst dC dI cyI cyO x tr an fl fs _ N s181.2.2.1 s181.2.2.2.1 (0 : Int32) s181.2.1 o23 h24) (vx_cwSW 3 hts (gS w_methodLink_L_93 w_static_L_looks w_initialized_L w_codeW_L_looks) rfl rfl rfl (by decide +kernel) ⟨Nat.le_of_ble_eq_true rfl, Nat.le_of_ble_eq_true rfl⟩) hP hD hK hZ hAz hz0 (seg_perm (n := 14) (R := [(cXo yx yan ytr s181.2.2.2.2.1), (cH cyO (yx 1) (yx 2) 2 yfl), (cXk cyI yx s181.2.2.2.2.1), (cH cyO (yx 4) (yx 5) 6 yfs), (cT cyI yx (X_text s181.2.2.2.2.1)), (cS cyI yan s181.2.2.2.2.2)]) (C := [(cXo x an tr s181.2.2.1), (cH cyO (x 1) (x 2) 2 fl), (cXk cyI x s181.2.2.1), (cH cyO (x 4) (x 5) 6 fs), (cT cyI x (X_text s181.2.2.1)), (cSo an s181.2.2.2.1), (cG cyI an (S_green s181.2.2.2.1)), (cV cyI an (S_score s181.2.2.2.1))]) [8, 9, 10, 11, 12, 13] [0, 1, 2, 3, 4, 5, 6, 7] rfl rfl rfl (by decide) rfl) rfl hl.1 (Nat.le_of_ble_eq_true rfl) dL_areAlike_222 ⟨(show _ ≤ 292 from by omega), (show _ ≤ 1752 from by omega)⟩ hS hA (fun r u H locs hw hP hD hS => ?_)
                        obtain rfl : r = o23.1 := congrArg Prod.fst hw
                        obtain rfl : u = o23.2 := congrArg Prod.snd hw
                        clear hw
                        have hq := seg_permS (segs := [(cXo x an tr o23.2.1), (cH cyO (x 1) (x 2) 2 fl), (cXk cyI x o23.2.1), (cH cyO (x 4) (x 5) 6 fs), (cT cyI x (X_text o23.2.1)), (cSo an o23.2.2), (cG cyI an (S_green o23.2.2)), (cV cyI an (S_score o23.2.2)), (cXo yx yan ytr s181.2.2.2.2.1), (cH cyO (yx 1) (yx 2) 2 yfl), (cXk cyI yx s181.2.2.2.2.1), (cH cyO (yx 4) (yx 5) 6 yfs), (cT cyI yx (X_text s181.2.2.2.2.1)), (cS cyI yan s181.2.2.2.2.2)]) (R := [(cXo yx yan ytr s181.2.2.2.2.1), (cH cyO (yx 1) (yx 2) 2 yfl), (cXk cyI yx s181.2.2.2.2.1), (cH cyO (yx 4) (yx 5) 6 yfs), (cT cyI yx (X_text s181.2.2.2.2.1)), (cS cyI yan s181.2.2.2.2.2)]) (C := [(cXo x an tr o23.2.1), (cH cyO (x 1) (x 2) 2 fl), (cXk cyI x o23.2.1), (cH cyO (x 4) (x 5) 6 fs), (cT cyI x (X_text o23.2.1)), (cSo an o23.2.2), (cG cyI an (S_green o23.2.2)), (cV cyI an (S_score o23.2.2))]) (n := 14) [8, 9, 10, 11, 12, 13] [0, 1, 2, 3, 4, 5, 6, 7] rfl rfl rfl (by decide)
                        have hP : va_P (dC, dI) vwCl (([(cXo x an tr o23.2.1), (cH cyO (x 1) (x 2) 2 fl), (cXk cyI x o23.2.1), (cH cyO (x 4) (x 5) 6 fs), (cT cyI x (X_text o23.2.1)), (cSo an o23.2.2), (cG cyI an (S_green o23.2.2)), (cV cyI an (S_score o23.2.2)), (cXo yx yan ytr s181.2.2.2.2.1), (cH cyO (yx 1) (yx 2) 2 yfl), (cXk cyI yx s181.2.2.2.2.1), (cH cyO (yx 4) (yx 5) 6 yfs), (cT cyI yx (X_text s181.2.2.2.2.1)), (cS cyI yan s181.2.2.2.2.2)] : List va_W).flatten) H := hP.perm hq
                        have hD : va_D A (([(cXo x an tr o23.2.1), (cH cyO (x 1) (x 2) 2 fl), (cXk cyI x o23.2.1), (cH cyO (x 4) (x 5) 6 fs), (cT cyI x (X_text o23.2.1)), (cSo an o23.2.2), (cG cyI an (S_green o23.2.2)), (cV cyI an (S_score o23.2.2)), (cXo yx yan ytr s181.2.2.2.2.1), (cH cyO (yx 1) (yx 2) 2 yfl), (cXk cyI yx s181.2.2.2.2.1), (cH cyO (yx 4) (yx 5) 6 yfs), (cT cyI yx (X_text s181.2.2.2.2.1)), (cS cyI yan s181.2.2.2.2.2)] : List va_W).flatten) := hD.perm hq
                        clear hq
                        refine lv_aload_n hx hb dL_areAlike_225 rfl (lv_at hl 1 rfl) ?_
                        refine lv_iconst (v := 0) hx hb dL_areAlike_226 (by decide) ?_
                        refine lv_iload_n hx hb dL_areAlike_227 rfl (lv_at hl 3 rfl) ?_
                        obtain ⟨o25, h26, hF⟩ := obd hF
                        refine wcLi (As := [.ref (yx 0), .int (0 : Int32), .int s181.2.1]) (rest := [.int o23.1]) (wr := ([(cXo x an tr o23.2.1), (cH cyO (x 1) (x 2) 2 fl), (cXk cyI x o23.2.1), (cH cyO (x 4) (x 5) 6 fs), (cT cyI x (X_text o23.2.1)), (cSo an o23.2.2), (cG cyI an (S_green o23.2.2)), (cV cyI an (S_score o23.2.2))] : List va_W).flatten) ⟨hx, hb, hml, hown, hts⟩ (met_L_looks l z0 hst dC dI cyI cyO yx ytr yan yfl yfs _ N s181.2.2.2.2.1 s181.2.2.2.2.2 (0 : Int32) s181.2.1 o25 h26) (vx_cwSW 3 hts (gS w_methodLink_L_93 w_static_L_looks w_initialized_L w_codeW_L_looks) rfl rfl rfl (by decide +kernel) ⟨Nat.le_of_ble_eq_true rfl, Nat.le_of_ble_eq_true rfl⟩) hP hD hK hZ hAz hz0 (seg_perm (n := 14) (R := [(cXo x an tr o23.2.1), (cH cyO (x 1) (x 2) 2 fl), (cXk cyI x o23.2.1), (cH cyO (x 4) (x 5) 6 fs), (cT cyI x (X_text o23.2.1)), (cSo an o23.2.2), (cG cyI an (S_green o23.2.2)), (cV cyI an (S_score o23.2.2))]) (C := [(cXo yx yan ytr s181.2.2.2.2.1), (cH cyO (yx 1) (yx 2) 2 yfl), (cXk cyI yx s181.2.2.2.2.1), (cH cyO (yx 4) (yx 5) 6 yfs), (cT cyI yx (X_text s181.2.2.2.2.1)), (cS cyI yan s181.2.2.2.2.2)]) [0, 1, 2, 3, 4, 5, 6, 7] [8, 9, 10, 11, 12, 13] rfl rfl rfl (by decide) rfl) rfl hl.1 (Nat.le_of_ble_eq_true rfl) dL_areAlike_228 ⟨(show _ ≤ 292 from by omega), (show _ ≤ 1752 from by omega)⟩ hS hA (fun r u H locs hw hP hD hS => ?_)
                        obtain rfl : r = o25.1 := congrArg Prod.fst hw
                        obtain rfl : u = o25.2 := congrArg Prod.snd hw
                        clear hw
                        have hq := seg_permS (segs := [(cXo x an tr o23.2.1), (cH cyO (x 1) (x 2) 2 fl), (cXk cyI x o23.2.1), (cH cyO (x 4) (x 5) 6 fs), (cT cyI x (X_text o23.2.1)), (cSo an o23.2.2), (cG cyI an (S_green o23.2.2)), (cV cyI an (S_score o23.2.2)), (cXo yx yan ytr o25.2.1), (cH cyO (yx 1) (yx 2) 2 yfl), (cXk cyI yx o25.2.1), (cH cyO (yx 4) (yx 5) 6 yfs), (cT cyI yx (X_text o25.2.1)), (cS cyI yan o25.2.2)]) (R := [(cXo x an tr o23.2.1), (cH cyO (x 1) (x 2) 2 fl), (cXk cyI x o23.2.1), (cH cyO (x 4) (x 5) 6 fs), (cT cyI x (X_text o23.2.1)), (cSo an o23.2.2), (cG cyI an (S_green o23.2.2)), (cV cyI an (S_score o23.2.2))]) (C := [(cXo yx yan ytr o25.2.1), (cH cyO (yx 1) (yx 2) 2 yfl), (cXk cyI yx o25.2.1), (cH cyO (yx 4) (yx 5) 6 yfs), (cT cyI yx (X_text o25.2.1)), (cS cyI yan o25.2.2)]) (n := 14) [0, 1, 2, 3, 4, 5, 6, 7] [8, 9, 10, 11, 12, 13] rfl rfl rfl (by decide)
                        have hP : va_P (dC, dI) vwCl (([(cXo x an tr o23.2.1), (cH cyO (x 1) (x 2) 2 fl), (cXk cyI x o23.2.1), (cH cyO (x 4) (x 5) 6 fs), (cT cyI x (X_text o23.2.1)), (cSo an o23.2.2), (cG cyI an (S_green o23.2.2)), (cV cyI an (S_score o23.2.2)), (cXo yx yan ytr o25.2.1), (cH cyO (yx 1) (yx 2) 2 yfl), (cXk cyI yx o25.2.1), (cH cyO (yx 4) (yx 5) 6 yfs), (cT cyI yx (X_text o25.2.1)), (cS cyI yan o25.2.2)] : List va_W).flatten) H := hP.perm hq
                        have hD : va_D A (([(cXo x an tr o23.2.1), (cH cyO (x 1) (x 2) 2 fl), (cXk cyI x o23.2.1), (cH cyO (x 4) (x 5) 6 fs), (cT cyI x (X_text o23.2.1)), (cSo an o23.2.2), (cG cyI an (S_green o23.2.2)), (cV cyI an (S_score o23.2.2)), (cXo yx yan ytr o25.2.1), (cH cyO (yx 1) (yx 2) 2 yfl), (cXk cyI yx o25.2.1), (cH cyO (yx 4) (yx 5) 6 yfs), (cT cyI yx (X_text o25.2.1)), (cS cyI yan o25.2.2)] : List va_W).flatten) := hD.perm hq
                        clear hq
                        refine lv_icmp_ne (tgt := 260) hx hb dL_areAlike_231 (by decide) (fun c27 => ?_) (fun c27 => ?_)
                        · have hF := itn c27 hF
                          refine W.widen (k := (49 + 27 * (10 - (n181 + 1)))) (n := (294 + 162 * (10 - (n181 + 1)))) (by omega) (by omega) ?_
                          exact hJ260 (o23.2.1, o23.2.2, o25.2.1, o25.2.2) _ _ _ hP hD hS (lv_sub hl [0, 1, 3] rfl) hF
                        · have hF := itp c27 hF
                          refine lv_aload_n hx hb dL_areAlike_234 rfl (lv_at hl 0 rfl) ?_
                          refine lv_iload_n hx hb dL_areAlike_235 rfl (lv_at hl 3 rfl) ?_
                          obtain ⟨o28, h29, hF⟩ := obd hF
                          refine wxRVi (As := [.int s181.2.1]) (rest := []) (b := (x 0)) ⟨hx, hb, hml, hown, hts⟩ (met_X5_stateOf l z0 hst dC dI cyI cyO x tr an fl fs N o23.2.1 o23.2.2 s181.2.1 o28 h29) (cwV 1 hts (gV w_methodLink_L_127 w_instanceMethod_X5_stateOf w_selects_X5_stateOf w_initialized_X5 w_code_X5_stateOf) rfl rfl rfl (by decide +kernel) ⟨Nat.le_of_ble_eq_true rfl, Nat.le_of_ble_eq_true rfl⟩) (va_recv hK.1 hP (ci := 5) (q0 := 0) rfl rfl) hP hK hZ hAz [0, 1, 2, 3, 4, 5, 6, 7, 8, 9, 10, 11, 12, 13, 14, 15, 16, 17, 18, 19, 20] rfl rfl hl.1 (Nat.le_of_ble_eq_true rfl) dL_areAlike_236 ⟨(show _ ≤ 292 from by omega), (show _ ≤ 1752 from by omega)⟩ hS (fun k ce q9 H locs hw hP hS h9 hv9 hc9 => ?_) (fun ro28 H locs hw hP hS => ?_)
                          · have hw := hw.symm
                            subst hw
                            have hF := exc_l hF
                            cases hF
                          · skip
                            have hw := hw.symm
                            subst hw
                            have hF := exc_r hF
                            refine lv_iconst (v := 2) hx hb dL_areAlike_239 (by decide) ?_
                            obtain ⟨j256, hj256, hF⟩ := jn_use hF
                            have hJ256 : ∀ (s256 : Unit) (H : Heap) (locs : List Loc) (ls : Array Slot), va_P (dC, dI) vwCl (([(cXo x an tr o23.2.1), (cH cyO (x 1) (x 2) 2 fl), (cXk cyI x o23.2.1), (cH cyO (x 4) (x 5) 6 fs), (cT cyI x (X_text o23.2.1)), (cSo an o23.2.2), (cG cyI an (S_green o23.2.2)), (cV cyI an (S_score o23.2.2)), (cXo yx yan ytr o25.2.1), (cH cyO (yx 1) (yx 2) 2 yfl), (cXk cyI yx o25.2.1), (cH cyO (yx 4) (yx 5) 6 yfs), (cT cyI yx (X_text o25.2.1)), (cS cyI yan o25.2.2)] : List va_W).flatten) H → va_D A (([(cXo x an tr o23.2.1), (cH cyO (x 1) (x 2) 2 fl), (cXk cyI x o23.2.1), (cH cyO (x 4) (x 5) 6 fs), (cT cyI x (X_text o23.2.1)), (cSo an o23.2.2), (cG cyI an (S_green o23.2.2)), (cV cyI an (S_score o23.2.2)), (cXo yx yan ytr o25.2.1), (cH cyO (yx 1) (yx 2) 2 yfl), (cXk cyI yx o25.2.1), (cH cyO (yx 4) (yx 5) 6 yfs), (cT cyI yx (X_text o25.2.1)), (cS cyI yan o25.2.2)] : List va_W).flatten) → va_S A s.heap H locs → lv_has ls 4 [(0, .ref (x 0)), (1, .ref (yx 0)), (3, .int s181.2.1)] → j256 s256 = some out → W p l e (headSpec (Cond.code yL_areAlike cL_areAlike 4 (some .boolean) :: wT) ({ frames := 9, cells := 292, slots := 1752, locals := 147 } : Room)).room s m ([.ref (x 0), .ref (yx 0)] : List Value).toArray below meth c H locs (49 + 27 * (10 - (n181 + 1))) (294 + 162 * (10 - (n181 + 1))) (MQ below (va_Qi (fun (r : Int32) (u : XV × SV × XV × SV) => (r, u) = out ∧ b01 r) (fun u t => va_P (dC, dI) vwCl (([(cXo x an tr u.1), (cH cyO (x 1) (x 2) 2 fl), (cXk cyI x u.1), (cH cyO (x 4) (x 5) 6 fs), (cT cyI x (X_text u.1)), (cSo an u.2.1), (cG cyI an (S_green u.2.1)), (cV cyI an (S_score u.2.1)), (cXo yx yan ytr u.2.2.1), (cH cyO (yx 1) (yx 2) 2 yfl), (cXk cyI yx u.2.2.1), (cH cyO (yx 4) (yx 5) 6 yfs), (cT cyI yx (X_text u.2.2.1)), (cS cyI yan u.2.2.2)] : List va_W).flatten) t.heap ∧ va_D A (([(cXo x an tr u.1), (cH cyO (x 1) (x 2) 2 fl), (cXk cyI x u.1), (cH cyO (x 4) (x 5) 6 fs), (cT cyI x (X_text u.1)), (cSo an u.2.1), (cG cyI an (S_green u.2.1)), (cV cyI an (S_score u.2.1)), (cXo yx yan ytr u.2.2.1), (cH cyO (yx 1) (yx 2) 2 yfl), (cXk cyI yx u.2.2.1), (cH cyO (yx 4) (yx 5) 6 yfs), (cT cyI yx (X_text u.2.2.1)), (cS cyI yan u.2.2.2)] : List va_W).flatten)) A) ([.ref (x 0), .ref (yx 0)] : List Value).toArray s 292 1752 A) (F0 m 256 ls []) := by
                              intro s256 H locs ls hP hD hS hl hF
                              have hF := (congrFun hj256 s256).symm.trans hF
                              refine lv_iconst (v := 1) hx hb dL_areAlike_256 (by decide) ?_
                              refine lv_goto (tgt := 261) hx hb dL_areAlike_257 (by decide) ?_
                              refine W.widen (k := (49 + 27 * (10 - (n181 + 1)))) (n := (294 + 162 * (10 - (n181 + 1)))) (by omega) (by omega) ?_
                              exact hJ261 ((1 : Int32), o23.2.1, o23.2.2, o25.2.1, o25.2.2) _ _ _ b01_1 hP hD hS (lv_sub hl [0, 1, 2] rfl) hF
                            refine lv_icmp_eq (tgt := 256) hx hb dL_areAlike_240 (by decide) (fun c30 => ?_) (fun c30 => ?_)
                            · have hF := itp c30 hF
                              refine W.widen (k := (49 + 27 * (10 - (n181 + 1)))) (n := (294 + 162 * (10 - (n181 + 1)))) (by omega) (by omega) ?_
                              exact hJ256 () _ _ _ hP hD hS (lv_sub hl [0, 1, 3] rfl) hF
                            · have hF := itn c30 hF
                              refine lv_aload_n hx hb dL_areAlike_243 rfl (lv_at hl 0 rfl) ?_
                              refine lv_iload_n hx hb dL_areAlike_244 rfl (lv_at hl 3 rfl) ?_
                              obtain ⟨o31, h32, hF⟩ := obd hF
                              refine wxRVi (As := [.int s181.2.1]) (rest := []) (b := (x 0)) ⟨hx, hb, hml, hown, hts⟩ (met_X5_columnOf l z0 hst dC dI cyI cyO x tr an fl fs N o23.2.1 o23.2.2 s181.2.1 o31 h32) (cwV 1 hts (gV w_methodLink_L_134 w_instanceMethod_X5_columnOf w_selects_X5_columnOf w_initialized_X5 w_code_X5_columnOf) rfl rfl rfl (by decide +kernel) ⟨Nat.le_of_ble_eq_true rfl, Nat.le_of_ble_eq_true rfl⟩) (va_recv hK.1 hP (ci := 5) (q0 := 0) rfl rfl) hP hK hZ hAz [0, 1, 2, 3, 4, 5, 6, 7, 8, 9, 10, 11, 12, 13, 14, 15, 16, 17, 18, 19, 20] rfl rfl hl.1 (Nat.le_of_ble_eq_true rfl) dL_areAlike_245 ⟨(show _ ≤ 292 from by omega), (show _ ≤ 1752 from by omega)⟩ hS (fun k ce q9 H locs hw hP hS h9 hv9 hc9 => ?_) (fun ro31 H locs hw hP hS => ?_)
                              · have hw := hw.symm
                                subst hw
                                have hF := exc_l hF
                                cases hF
                              · skip
                                have hw := hw.symm
                                subst hw
                                have hF := exc_r hF
                                refine lv_aload_n hx hb dL_areAlike_248 rfl (lv_at hl 1 rfl) ?_
                                refine lv_iload_n hx hb dL_areAlike_249 rfl (lv_at hl 3 rfl) ?_
                                obtain ⟨o33, h34, hF⟩ := obd hF
                                refine wxRVi (As := [.int s181.2.1]) (rest := [.int ro31]) (b := (yx 0)) ⟨hx, hb, hml, hown, hts⟩ (met_X5_columnOf l z0 hst dC dI cyI cyO yx ytr yan yfl yfs N o25.2.1 o25.2.2 s181.2.1 o33 h34) (cwV 1 hts (gV w_methodLink_L_134 w_instanceMethod_X5_columnOf w_selects_X5_columnOf w_initialized_X5 w_code_X5_columnOf) rfl rfl rfl (by decide +kernel) ⟨Nat.le_of_ble_eq_true rfl, Nat.le_of_ble_eq_true rfl⟩) (va_recv hK.1 hP (ci := 5) (q0 := 21) rfl rfl) hP hK hZ hAz [21, 22, 23, 24, 25, 26, 27, 28, 29, 30, 31, 32, 33, 34, 35, 36, 37, 38, 39, 40, 41] rfl rfl hl.1 (Nat.le_of_ble_eq_true rfl) dL_areAlike_250 ⟨(show _ ≤ 292 from by omega), (show _ ≤ 1752 from by omega)⟩ hS (fun k ce q9 H locs hw hP hS h9 hv9 hc9 => ?_) (fun ro33 H locs hw hP hS => ?_)
                                · have hw := hw.symm
                                  subst hw
                                  have hF := exc_l hF
                                  cases hF
                                · skip
                                  have hw := hw.symm
                                  subst hw
                                  have hF := exc_r hF
                                  refine lv_icmp_ne (tgt := 260) hx hb dL_areAlike_253 (by decide) (fun c35 => ?_) (fun c35 => ?_)
                                  · have hF := itn c35 hF
                                    refine W.widen (k := (49 + 27 * (10 - (n181 + 1)))) (n := (294 + 162 * (10 - (n181 + 1)))) (by omega) (by omega) ?_
                                    exact hJ260 (o23.2.1, o23.2.2, o25.2.1, o25.2.2) _ _ _ hP hD hS (lv_sub hl [0, 1, 3] rfl) hF
                                  · have hF := itp c35 hF
                                    refine W.widen (k := (49 + 27 * (10 - (n181 + 1)))) (n := (294 + 162 * (10 - (n181 + 1)))) (by omega) (by omega) ?_
                                    exact hJ256 () _ _ _ hP hD hS (lv_sub hl [0, 1, 3] rfl) hF
    refine W.widen (k := (22 + 27 * (10 - (10)))) (n := (132 + 162 * (10 - (10)))) (by omega) (by omega) ?_
    exact hL181 10 (Nat.le_refl _) (s178.1, (0 : Int32), s178.2.1, s178.2.2.1, s178.2.2.2.1, s178.2.2.2.2) _ _ _ hz_178_s0 hP hD hS (lv_sub hl [2, 3, 1, 0] rfl) hF
  obtain ⟨j177, hj177, hF⟩ := jn_use hF
  have hJ177 : ∀ (s177 : XV × SV × XV × SV) (H : Heap) (locs : List Loc) (ls : Array Slot), va_P (dC, dI) vwCl (([(cXo x an tr s177.1), (cH cyO (x 1) (x 2) 2 fl), (cXk cyI x s177.1), (cH cyO (x 4) (x 5) 6 fs), (cT cyI x (X_text s177.1)), (cSo an s177.2.1), (cG cyI an (S_green s177.2.1)), (cV cyI an (S_score s177.2.1)), (cXo yx yan ytr s177.2.2.1), (cH cyO (yx 1) (yx 2) 2 yfl), (cXk cyI yx s177.2.2.1), (cH cyO (yx 4) (yx 5) 6 yfs), (cT cyI yx (X_text s177.2.2.1)), (cS cyI yan s177.2.2.2)] : List va_W).flatten) H → va_D A (([(cXo x an tr s177.1), (cH cyO (x 1) (x 2) 2 fl), (cXk cyI x s177.1), (cH cyO (x 4) (x 5) 6 fs), (cT cyI x (X_text s177.1)), (cSo an s177.2.1), (cG cyI an (S_green s177.2.1)), (cV cyI an (S_score s177.2.1)), (cXo yx yan ytr s177.2.2.1), (cH cyO (yx 1) (yx 2) 2 yfl), (cXk cyI yx s177.2.2.1), (cH cyO (yx 4) (yx 5) 6 yfs), (cT cyI yx (X_text s177.2.2.1)), (cS cyI yan s177.2.2.2)] : List va_W).flatten) → va_S A s.heap H locs → lv_has ls 4 [(0, .ref (x 0)), (1, .ref (yx 0))] → j177 s177 = some out → W p l e (headSpec (Cond.code yL_areAlike cL_areAlike 4 (some .boolean) :: wT) ({ frames := 9, cells := 292, slots := 1752, locals := 147 } : Room)).room s m ([.ref (x 0), .ref (yx 0)] : List Value).toArray below meth c H locs 22 132 (MQ below (va_Qi (fun (r : Int32) (u : XV × SV × XV × SV) => (r, u) = out ∧ b01 r) (fun u t => va_P (dC, dI) vwCl (([(cXo x an tr u.1), (cH cyO (x 1) (x 2) 2 fl), (cXk cyI x u.1), (cH cyO (x 4) (x 5) 6 fs), (cT cyI x (X_text u.1)), (cSo an u.2.1), (cG cyI an (S_green u.2.1)), (cV cyI an (S_score u.2.1)), (cXo yx yan ytr u.2.2.1), (cH cyO (yx 1) (yx 2) 2 yfl), (cXk cyI yx u.2.2.1), (cH cyO (yx 4) (yx 5) 6 yfs), (cT cyI yx (X_text u.2.2.1)), (cS cyI yan u.2.2.2)] : List va_W).flatten) t.heap ∧ va_D A (([(cXo x an tr u.1), (cH cyO (x 1) (x 2) 2 fl), (cXk cyI x u.1), (cH cyO (x 4) (x 5) 6 fs), (cT cyI x (X_text u.1)), (cSo an u.2.1), (cG cyI an (S_green u.2.1)), (cV cyI an (S_score u.2.1)), (cXo yx yan ytr u.2.2.1), (cH cyO (yx 1) (yx 2) 2 yfl), (cXk cyI yx u.2.2.1), (cH cyO (yx 4) (yx 5) 6 yfs), (cT cyI yx (X_text u.2.2.1)), (cS cyI yan u.2.2.2)] : List va_W).flatten)) A) ([.ref (x 0), .ref (yx 0)] : List Value).toArray s 292 1752 A) (F0 m 177 ls []) := by
    intro s177 H locs ls hP hD hS hl hF
    have hF := (congrFun hj177 s177).symm.trans hF
    refine lv_iconst (v := 0) hx hb dL_areAlike_177 (by decide) ?_
    refine W.widen (k := 22) (n := 132) (by omega) (by omega) ?_
    exact hJ178 ((0 : Int32), s177.1, s177.2.1, s177.2.2.1, s177.2.2.2) _ _ _ b01_0 hP hD hS (lv_sub hl [0, 1] rfl) hF
  refine lv_icmp_ne (tgt := 177) hx hb dL_areAlike_8 (by decide) (fun c36 => ?_) (fun c36 => ?_)
  · have hF := itn c36 hF
    refine W.widen (k := 22) (n := 132) (by omega) (by omega) ?_
    exact hJ177 (xv, nv, yxv, ynv) _ _ _ hP hD hS (lv_sub hl [0, 1] rfl) hF
  · have hF := itp c36 hF
    refine lv_aload_n hx hb dL_areAlike_11 rfl (lv_at hl 0 rfl) ?_
    refine lv_iconst (v := 5) hx hb dL_areAlike_12 (by decide) ?_
    refine lv_iconst (v := 0) hx hb dL_areAlike_13 (by decide) ?_
    obtain ⟨o37, h38, hF⟩ := obd hF
    refine wcLi (As := [.ref (x 0), .int (5 : Int32), .int (0 : Int32)]) (rest := []) (wr := ([(cXo yx yan ytr yxv), (cH cyO (yx 1) (yx 2) 2 yfl), (cXk cyI yx yxv), (cH cyO (yx 4) (yx 5) 6 yfs), (cT cyI yx (X_text yxv)), (cS cyI yan ynv)] : List va_W).flatten) ⟨hx, hb, hml, hown, hts⟩ (met_L_looks l z0 hst dC dI cyI cyO x tr an fl fs _ N xv nv (5 : Int32) (0 : Int32) o37 h38) (vx_cwSW 3 hts (gS w_methodLink_L_93 w_static_L_looks w_initialized_L w_codeW_L_looks) rfl rfl rfl (by decide +kernel) ⟨Nat.le_of_ble_eq_true rfl, Nat.le_of_ble_eq_true rfl⟩) hP hD hK hZ hAz hz0 (seg_perm (n := 14) (R := [(cXo yx yan ytr yxv), (cH cyO (yx 1) (yx 2) 2 yfl), (cXk cyI yx yxv), (cH cyO (yx 4) (yx 5) 6 yfs), (cT cyI yx (X_text yxv)), (cS cyI yan ynv)]) (C := [(cXo x an tr xv), (cH cyO (x 1) (x 2) 2 fl), (cXk cyI x xv), (cH cyO (x 4) (x 5) 6 fs), (cT cyI x (X_text xv)), (cSo an nv), (cG cyI an (S_green nv)), (cV cyI an (S_score nv))]) [8, 9, 10, 11, 12, 13] [0, 1, 2, 3, 4, 5, 6, 7] rfl rfl rfl (by decide) rfl) rfl hl.1 (Nat.le_of_ble_eq_true rfl) dL_areAlike_14 ⟨(show _ ≤ 292 from by omega), (show _ ≤ 1752 from by omega)⟩ hS hA (fun r u H locs hw hP hD hS => ?_)
    obtain rfl : r = o37.1 := congrArg Prod.fst hw
    obtain rfl : u = o37.2 := congrArg Prod.snd hw
    clear hw
    have hq := seg_permS (segs := [(cXo x an tr o37.2.1), (cH cyO (x 1) (x 2) 2 fl), (cXk cyI x o37.2.1), (cH cyO (x 4) (x 5) 6 fs), (cT cyI x (X_text o37.2.1)), (cSo an o37.2.2), (cG cyI an (S_green o37.2.2)), (cV cyI an (S_score o37.2.2)), (cXo yx yan ytr yxv), (cH cyO (yx 1) (yx 2) 2 yfl), (cXk cyI yx yxv), (cH cyO (yx 4) (yx 5) 6 yfs), (cT cyI yx (X_text yxv)), (cS cyI yan ynv)]) (R := [(cXo yx yan ytr yxv), (cH cyO (yx 1) (yx 2) 2 yfl), (cXk cyI yx yxv), (cH cyO (yx 4) (yx 5) 6 yfs), (cT cyI yx (X_text yxv)), (cS cyI yan ynv)]) (C := [(cXo x an tr o37.2.1), (cH cyO (x 1) (x 2) 2 fl), (cXk cyI x o37.2.1), (cH cyO (x 4) (x 5) 6 fs), (cT cyI x (X_text o37.2.1)), (cSo an o37.2.2), (cG cyI an (S_green o37.2.2)), (cV cyI an (S_score o37.2.2))]) (n := 14) [8, 9, 10, 11, 12, 13] [0, 1, 2, 3, 4, 5, 6, 7] rfl rfl rfl (by decide)
    have hP : va_P (dC, dI) vwCl (([(cXo x an tr o37.2.1), (cH cyO (x 1) (x 2) 2 fl), (cXk cyI x o37.2.1), (cH cyO (x 4) (x 5) 6 fs), (cT cyI x (X_text o37.2.1)), (cSo an o37.2.2), (cG cyI an (S_green o37.2.2)), (cV cyI an (S_score o37.2.2)), (cXo yx yan ytr yxv), (cH cyO (yx 1) (yx 2) 2 yfl), (cXk cyI yx yxv), (cH cyO (yx 4) (yx 5) 6 yfs), (cT cyI yx (X_text yxv)), (cS cyI yan ynv)] : List va_W).flatten) H := hP.perm hq
    have hD : va_D A (([(cXo x an tr o37.2.1), (cH cyO (x 1) (x 2) 2 fl), (cXk cyI x o37.2.1), (cH cyO (x 4) (x 5) 6 fs), (cT cyI x (X_text o37.2.1)), (cSo an o37.2.2), (cG cyI an (S_green o37.2.2)), (cV cyI an (S_score o37.2.2)), (cXo yx yan ytr yxv), (cH cyO (yx 1) (yx 2) 2 yfl), (cXk cyI yx yxv), (cH cyO (yx 4) (yx 5) 6 yfs), (cT cyI yx (X_text yxv)), (cS cyI yan ynv)] : List va_W).flatten) := hD.perm hq
    clear hq
    refine lv_aload_n hx hb dL_areAlike_17 rfl (lv_at hl 1 rfl) ?_
    refine lv_iconst (v := 5) hx hb dL_areAlike_18 (by decide) ?_
    refine lv_iconst (v := 0) hx hb dL_areAlike_19 (by decide) ?_
    obtain ⟨o39, h40, hF⟩ := obd hF
    refine wcLi (As := [.ref (yx 0), .int (5 : Int32), .int (0 : Int32)]) (rest := [.int o37.1]) (wr := ([(cXo x an tr o37.2.1), (cH cyO (x 1) (x 2) 2 fl), (cXk cyI x o37.2.1), (cH cyO (x 4) (x 5) 6 fs), (cT cyI x (X_text o37.2.1)), (cSo an o37.2.2), (cG cyI an (S_green o37.2.2)), (cV cyI an (S_score o37.2.2))] : List va_W).flatten) ⟨hx, hb, hml, hown, hts⟩ (met_L_looks l z0 hst dC dI cyI cyO yx ytr yan yfl yfs _ N yxv ynv (5 : Int32) (0 : Int32) o39 h40) (vx_cwSW 3 hts (gS w_methodLink_L_93 w_static_L_looks w_initialized_L w_codeW_L_looks) rfl rfl rfl (by decide +kernel) ⟨Nat.le_of_ble_eq_true rfl, Nat.le_of_ble_eq_true rfl⟩) hP hD hK hZ hAz hz0 (seg_perm (n := 14) (R := [(cXo x an tr o37.2.1), (cH cyO (x 1) (x 2) 2 fl), (cXk cyI x o37.2.1), (cH cyO (x 4) (x 5) 6 fs), (cT cyI x (X_text o37.2.1)), (cSo an o37.2.2), (cG cyI an (S_green o37.2.2)), (cV cyI an (S_score o37.2.2))]) (C := [(cXo yx yan ytr yxv), (cH cyO (yx 1) (yx 2) 2 yfl), (cXk cyI yx yxv), (cH cyO (yx 4) (yx 5) 6 yfs), (cT cyI yx (X_text yxv)), (cS cyI yan ynv)]) [0, 1, 2, 3, 4, 5, 6, 7] [8, 9, 10, 11, 12, 13] rfl rfl rfl (by decide) rfl) rfl hl.1 (Nat.le_of_ble_eq_true rfl) dL_areAlike_20 ⟨(show _ ≤ 292 from by omega), (show _ ≤ 1752 from by omega)⟩ hS hA (fun r u H locs hw hP hD hS => ?_)
    obtain rfl : r = o39.1 := congrArg Prod.fst hw
    obtain rfl : u = o39.2 := congrArg Prod.snd hw
    clear hw
    have hq := seg_permS (segs := [(cXo x an tr o37.2.1), (cH cyO (x 1) (x 2) 2 fl), (cXk cyI x o37.2.1), (cH cyO (x 4) (x 5) 6 fs), (cT cyI x (X_text o37.2.1)), (cSo an o37.2.2), (cG cyI an (S_green o37.2.2)), (cV cyI an (S_score o37.2.2)), (cXo yx yan ytr o39.2.1), (cH cyO (yx 1) (yx 2) 2 yfl), (cXk cyI yx o39.2.1), (cH cyO (yx 4) (yx 5) 6 yfs), (cT cyI yx (X_text o39.2.1)), (cS cyI yan o39.2.2)]) (R := [(cXo x an tr o37.2.1), (cH cyO (x 1) (x 2) 2 fl), (cXk cyI x o37.2.1), (cH cyO (x 4) (x 5) 6 fs), (cT cyI x (X_text o37.2.1)), (cSo an o37.2.2), (cG cyI an (S_green o37.2.2)), (cV cyI an (S_score o37.2.2))]) (C := [(cXo yx yan ytr o39.2.1), (cH cyO (yx 1) (yx 2) 2 yfl), (cXk cyI yx o39.2.1), (cH cyO (yx 4) (yx 5) 6 yfs), (cT cyI yx (X_text o39.2.1)), (cS cyI yan o39.2.2)]) (n := 14) [0, 1, 2, 3, 4, 5, 6, 7] [8, 9, 10, 11, 12, 13] rfl rfl rfl (by decide)
    have hP : va_P (dC, dI) vwCl (([(cXo x an tr o37.2.1), (cH cyO (x 1) (x 2) 2 fl), (cXk cyI x o37.2.1), (cH cyO (x 4) (x 5) 6 fs), (cT cyI x (X_text o37.2.1)), (cSo an o37.2.2), (cG cyI an (S_green o37.2.2)), (cV cyI an (S_score o37.2.2)), (cXo yx yan ytr o39.2.1), (cH cyO (yx 1) (yx 2) 2 yfl), (cXk cyI yx o39.2.1), (cH cyO (yx 4) (yx 5) 6 yfs), (cT cyI yx (X_text o39.2.1)), (cS cyI yan o39.2.2)] : List va_W).flatten) H := hP.perm hq
    have hD : va_D A (([(cXo x an tr o37.2.1), (cH cyO (x 1) (x 2) 2 fl), (cXk cyI x o37.2.1), (cH cyO (x 4) (x 5) 6 fs), (cT cyI x (X_text o37.2.1)), (cSo an o37.2.2), (cG cyI an (S_green o37.2.2)), (cV cyI an (S_score o37.2.2)), (cXo yx yan ytr o39.2.1), (cH cyO (yx 1) (yx 2) 2 yfl), (cXk cyI yx o39.2.1), (cH cyO (yx 4) (yx 5) 6 yfs), (cT cyI yx (X_text o39.2.1)), (cS cyI yan o39.2.2)] : List va_W).flatten) := hD.perm hq
    clear hq
    refine lv_icmp_ne (tgt := 177) hx hb dL_areAlike_23 (by decide) (fun c41 => ?_) (fun c41 => ?_)
    · have hF := itn c41 hF
      refine W.widen (k := 22) (n := 132) (by omega) (by omega) ?_
      exact hJ177 (o37.2.1, o37.2.2, o39.2.1, o39.2.2) _ _ _ hP hD hS (lv_sub hl [0, 1] rfl) hF
    · have hF := itp c41 hF
      refine lv_aload_n hx hb dL_areAlike_26 rfl (lv_at hl 0 rfl) ?_
      obtain ⟨o42, h43, hF⟩ := obd hF
      refine wcRVi (As := []) (rest := []) (b := (x 0)) ⟨hx, hb, hml, hown, hts⟩ (met_X5_bowls l dC dI cyI cyO x tr an fl fs N o37.2.1 o37.2.2  o42 h43) (cwV 0 hts (gV w_methodLink_L_77 w_instanceMethod_X5_bowls w_selects_X5_bowls w_initialized_X5 w_code_X5_bowls) rfl rfl rfl (by decide +kernel) ⟨Nat.le_of_ble_eq_true rfl, Nat.le_of_ble_eq_true rfl⟩) (va_recv hK.1 hP (ci := 5) (q0 := 0) rfl rfl) hP hK [0, 1, 2, 3, 4, 5, 6, 7, 8, 9, 10, 11, 12, 13, 14, 15, 16, 17, 18, 19, 20] rfl rfl hl.1 (Nat.le_of_ble_eq_true rfl) dL_areAlike_27 ⟨(show _ ≤ 292 from by omega), (show _ ≤ 1752 from by omega)⟩ hS (fun r H locs hw hP hS => ?_)
      have hw := hw.symm
      subst hw
      refine lv_aload_n hx hb dL_areAlike_30 rfl (lv_at hl 1 rfl) ?_
      obtain ⟨o44, h45, hF⟩ := obd hF
      refine wcRVi (As := []) (rest := [.int o42]) (b := (yx 0)) ⟨hx, hb, hml, hown, hts⟩ (met_X5_bowls l dC dI cyI cyO yx ytr yan yfl yfs N o39.2.1 o39.2.2  o44 h45) (cwV 0 hts (gV w_methodLink_L_77 w_instanceMethod_X5_bowls w_selects_X5_bowls w_initialized_X5 w_code_X5_bowls) rfl rfl rfl (by decide +kernel) ⟨Nat.le_of_ble_eq_true rfl, Nat.le_of_ble_eq_true rfl⟩) (va_recv hK.1 hP (ci := 5) (q0 := 21) rfl rfl) hP hK [21, 22, 23, 24, 25, 26, 27, 28, 29, 30, 31, 32, 33, 34, 35, 36, 37, 38, 39, 40, 41] rfl rfl hl.1 (Nat.le_of_ble_eq_true rfl) dL_areAlike_31 ⟨(show _ ≤ 292 from by omega), (show _ ≤ 1752 from by omega)⟩ hS (fun r H locs hw hP hS => ?_)
      have hw := hw.symm
      subst hw
      refine lv_icmp_ne (tgt := 177) hx hb dL_areAlike_34 (by decide) (fun c46 => ?_) (fun c46 => ?_)
      · have hF := itn c46 hF
        refine W.widen (k := 22) (n := 132) (by omega) (by omega) ?_
        exact hJ177 (o37.2.1, o37.2.2, o39.2.1, o39.2.2) _ _ _ hP hD hS (lv_sub hl [0, 1] rfl) hF
      · have hF := itp c46 hF
        refine lv_aload_n hx hb dL_areAlike_37 rfl (lv_at hl 0 rfl) ?_
        obtain ⟨o47, h48, hF⟩ := obd hF
        refine wcRVi (As := []) (rest := []) (b := (x 0)) ⟨hx, hb, hml, hown, hts⟩ (met_X5_bowlsOfSide l dC dI cyI cyO x tr an fl fs N o37.2.1 o37.2.2  o47 h48) (cwV 0 hts (gV w_methodLink_L_80 w_instanceMethod_X5_bowlsOfSide w_selects_X5_bowlsOfSide w_initialized_X5 w_code_X5_bowlsOfSide) rfl rfl rfl (by decide +kernel) ⟨Nat.le_of_ble_eq_true rfl, Nat.le_of_ble_eq_true rfl⟩) (va_recv hK.1 hP (ci := 5) (q0 := 0) rfl rfl) hP hK [0, 1, 2, 3, 4, 5, 6, 7, 8, 9, 10, 11, 12, 13, 14, 15, 16, 17, 18, 19, 20] rfl rfl hl.1 (Nat.le_of_ble_eq_true rfl) dL_areAlike_38 ⟨(show _ ≤ 292 from by omega), (show _ ≤ 1752 from by omega)⟩ hS (fun r H locs hw hP hS => ?_)
        have hw := hw.symm
        subst hw
        refine lv_aload_n hx hb dL_areAlike_41 rfl (lv_at hl 1 rfl) ?_
        obtain ⟨o49, h50, hF⟩ := obd hF
        refine wcRVi (As := []) (rest := [.int o47]) (b := (yx 0)) ⟨hx, hb, hml, hown, hts⟩ (met_X5_bowlsOfSide l dC dI cyI cyO yx ytr yan yfl yfs N o39.2.1 o39.2.2  o49 h50) (cwV 0 hts (gV w_methodLink_L_80 w_instanceMethod_X5_bowlsOfSide w_selects_X5_bowlsOfSide w_initialized_X5 w_code_X5_bowlsOfSide) rfl rfl rfl (by decide +kernel) ⟨Nat.le_of_ble_eq_true rfl, Nat.le_of_ble_eq_true rfl⟩) (va_recv hK.1 hP (ci := 5) (q0 := 21) rfl rfl) hP hK [21, 22, 23, 24, 25, 26, 27, 28, 29, 30, 31, 32, 33, 34, 35, 36, 37, 38, 39, 40, 41] rfl rfl hl.1 (Nat.le_of_ble_eq_true rfl) dL_areAlike_42 ⟨(show _ ≤ 292 from by omega), (show _ ≤ 1752 from by omega)⟩ hS (fun r H locs hw hP hS => ?_)
        have hw := hw.symm
        subst hw
        refine lv_icmp_ne (tgt := 177) hx hb dL_areAlike_45 (by decide) (fun c51 => ?_) (fun c51 => ?_)
        · have hF := itn c51 hF
          refine W.widen (k := 22) (n := 132) (by omega) (by omega) ?_
          exact hJ177 (o37.2.1, o37.2.2, o39.2.1, o39.2.2) _ _ _ hP hD hS (lv_sub hl [0, 1] rfl) hF
        · have hF := itp c51 hF
          refine lv_aload_n hx hb dL_areAlike_48 rfl (lv_at hl 0 rfl) ?_
          obtain ⟨o52, h53, hF⟩ := obd hF
          refine wcRVi (As := []) (rest := []) (b := (x 0)) ⟨hx, hb, hml, hown, hts⟩ (met_X5_wind l dC dI cyI cyO x tr an fl fs N o37.2.1 o37.2.2  o52 h53) (cwV 0 hts (gV w_methodLink_L_97 w_instanceMethod_X5_wind w_selects_X5_wind w_initialized_X5 w_code_X5_wind) rfl rfl rfl (by decide +kernel) ⟨Nat.le_of_ble_eq_true rfl, Nat.le_of_ble_eq_true rfl⟩) (va_recv hK.1 hP (ci := 5) (q0 := 0) rfl rfl) hP hK [0, 1, 2, 3, 4, 5, 6, 7, 8, 9, 10, 11, 12, 13, 14, 15, 16, 17, 18, 19, 20] rfl rfl hl.1 (Nat.le_of_ble_eq_true rfl) dL_areAlike_49 ⟨(show _ ≤ 292 from by omega), (show _ ≤ 1752 from by omega)⟩ hS (fun r H locs hw hP hS => ?_)
          have hw := hw.symm
          subst hw
          refine lv_aload_n hx hb dL_areAlike_52 rfl (lv_at hl 1 rfl) ?_
          obtain ⟨o54, h55, hF⟩ := obd hF
          refine wcRVi (As := []) (rest := [.int o52]) (b := (yx 0)) ⟨hx, hb, hml, hown, hts⟩ (met_X5_wind l dC dI cyI cyO yx ytr yan yfl yfs N o39.2.1 o39.2.2  o54 h55) (cwV 0 hts (gV w_methodLink_L_97 w_instanceMethod_X5_wind w_selects_X5_wind w_initialized_X5 w_code_X5_wind) rfl rfl rfl (by decide +kernel) ⟨Nat.le_of_ble_eq_true rfl, Nat.le_of_ble_eq_true rfl⟩) (va_recv hK.1 hP (ci := 5) (q0 := 21) rfl rfl) hP hK [21, 22, 23, 24, 25, 26, 27, 28, 29, 30, 31, 32, 33, 34, 35, 36, 37, 38, 39, 40, 41] rfl rfl hl.1 (Nat.le_of_ble_eq_true rfl) dL_areAlike_53 ⟨(show _ ≤ 292 from by omega), (show _ ≤ 1752 from by omega)⟩ hS (fun r H locs hw hP hS => ?_)
          have hw := hw.symm
          subst hw
          refine lv_icmp_ne (tgt := 177) hx hb dL_areAlike_56 (by decide) (fun c56 => ?_) (fun c56 => ?_)
          · have hF := itn c56 hF
            refine W.widen (k := 22) (n := 132) (by omega) (by omega) ?_
            exact hJ177 (o37.2.1, o37.2.2, o39.2.1, o39.2.2) _ _ _ hP hD hS (lv_sub hl [0, 1] rfl) hF
          · have hF := itp c56 hF
            refine lv_aload_n hx hb dL_areAlike_59 rfl (lv_at hl 0 rfl) ?_
            obtain ⟨o57, h58, hF⟩ := obd hF
            refine wcRVi (As := []) (rest := []) (b := (x 0)) ⟨hx, hb, hml, hown, hts⟩ (met_X5_first l dC dI cyI cyO x tr an fl fs N o37.2.1 o37.2.2  o57 h58) (cwV 0 hts (gV w_methodLink_L_100 w_instanceMethod_X5_first w_selects_X5_first w_initialized_X5 w_code_X5_first) rfl rfl rfl (by decide +kernel) ⟨Nat.le_of_ble_eq_true rfl, Nat.le_of_ble_eq_true rfl⟩) (va_recv hK.1 hP (ci := 5) (q0 := 0) rfl rfl) hP hK [0, 1, 2, 3, 4, 5, 6, 7, 8, 9, 10, 11, 12, 13, 14, 15, 16, 17, 18, 19, 20] rfl rfl hl.1 (Nat.le_of_ble_eq_true rfl) dL_areAlike_60 ⟨(show _ ≤ 292 from by omega), (show _ ≤ 1752 from by omega)⟩ hS (fun r H locs hw hP hS => ?_)
            have hw := hw.symm
            subst hw
            refine lv_aload_n hx hb dL_areAlike_63 rfl (lv_at hl 1 rfl) ?_
            obtain ⟨o59, h60, hF⟩ := obd hF
            refine wcRVi (As := []) (rest := [.int o57]) (b := (yx 0)) ⟨hx, hb, hml, hown, hts⟩ (met_X5_first l dC dI cyI cyO yx ytr yan yfl yfs N o39.2.1 o39.2.2  o59 h60) (cwV 0 hts (gV w_methodLink_L_100 w_instanceMethod_X5_first w_selects_X5_first w_initialized_X5 w_code_X5_first) rfl rfl rfl (by decide +kernel) ⟨Nat.le_of_ble_eq_true rfl, Nat.le_of_ble_eq_true rfl⟩) (va_recv hK.1 hP (ci := 5) (q0 := 21) rfl rfl) hP hK [21, 22, 23, 24, 25, 26, 27, 28, 29, 30, 31, 32, 33, 34, 35, 36, 37, 38, 39, 40, 41] rfl rfl hl.1 (Nat.le_of_ble_eq_true rfl) dL_areAlike_64 ⟨(show _ ≤ 292 from by omega), (show _ ≤ 1752 from by omega)⟩ hS (fun r H locs hw hP hS => ?_)
            have hw := hw.symm
            subst hw
            refine lv_icmp_ne (tgt := 177) hx hb dL_areAlike_67 (by decide) (fun c61 => ?_) (fun c61 => ?_)
            · have hF := itn c61 hF
              refine W.widen (k := 22) (n := 132) (by omega) (by omega) ?_
              exact hJ177 (o37.2.1, o37.2.2, o39.2.1, o39.2.2) _ _ _ hP hD hS (lv_sub hl [0, 1] rfl) hF
            · have hF := itp c61 hF
              refine lv_aload_n hx hb dL_areAlike_70 rfl (lv_at hl 0 rfl) ?_
              obtain ⟨o62, h63, hF⟩ := obd hF
              refine wcRVi (As := []) (rest := []) (b := (x 0)) ⟨hx, hb, hml, hown, hts⟩ (met_X5_ends l dC dI cyI cyO x tr an fl fs N o37.2.1 o37.2.2  o62 h63) (cwV 0 hts (gV w_methodLink_L_103 w_instanceMethod_X5_ends w_selects_X5_ends w_initialized_X5 w_code_X5_ends) rfl rfl rfl (by decide +kernel) ⟨Nat.le_of_ble_eq_true rfl, Nat.le_of_ble_eq_true rfl⟩) (va_recv hK.1 hP (ci := 5) (q0 := 0) rfl rfl) hP hK [0, 1, 2, 3, 4, 5, 6, 7, 8, 9, 10, 11, 12, 13, 14, 15, 16, 17, 18, 19, 20] rfl rfl hl.1 (Nat.le_of_ble_eq_true rfl) dL_areAlike_71 ⟨(show _ ≤ 292 from by omega), (show _ ≤ 1752 from by omega)⟩ hS (fun r H locs hw hP hS => ?_)
              have hw := hw.symm
              subst hw
              refine lv_aload_n hx hb dL_areAlike_74 rfl (lv_at hl 1 rfl) ?_
              obtain ⟨o64, h65, hF⟩ := obd hF
              refine wcRVi (As := []) (rest := [.int o62]) (b := (yx 0)) ⟨hx, hb, hml, hown, hts⟩ (met_X5_ends l dC dI cyI cyO yx ytr yan yfl yfs N o39.2.1 o39.2.2  o64 h65) (cwV 0 hts (gV w_methodLink_L_103 w_instanceMethod_X5_ends w_selects_X5_ends w_initialized_X5 w_code_X5_ends) rfl rfl rfl (by decide +kernel) ⟨Nat.le_of_ble_eq_true rfl, Nat.le_of_ble_eq_true rfl⟩) (va_recv hK.1 hP (ci := 5) (q0 := 21) rfl rfl) hP hK [21, 22, 23, 24, 25, 26, 27, 28, 29, 30, 31, 32, 33, 34, 35, 36, 37, 38, 39, 40, 41] rfl rfl hl.1 (Nat.le_of_ble_eq_true rfl) dL_areAlike_75 ⟨(show _ ≤ 292 from by omega), (show _ ≤ 1752 from by omega)⟩ hS (fun r H locs hw hP hS => ?_)
              have hw := hw.symm
              subst hw
              refine lv_icmp_ne (tgt := 177) hx hb dL_areAlike_78 (by decide) (fun c66 => ?_) (fun c66 => ?_)
              · have hF := itn c66 hF
                refine W.widen (k := 22) (n := 132) (by omega) (by omega) ?_
                exact hJ177 (o37.2.1, o37.2.2, o39.2.1, o39.2.2) _ _ _ hP hD hS (lv_sub hl [0, 1] rfl) hF
              · have hF := itp c66 hF
                refine lv_aload_n hx hb dL_areAlike_81 rfl (lv_at hl 0 rfl) ?_
                obtain ⟨o67, h68, hF⟩ := obd hF
                refine wcRVi (As := []) (rest := []) (b := (x 0)) ⟨hx, hb, hml, hown, hts⟩ (met_X5_needed l dC dI cyI cyO x tr an fl fs N o37.2.1 o37.2.2  o67 h68) (cwV 0 hts (gV w_methodLink_L_106 w_instanceMethod_X5_needed w_selects_X5_needed w_initialized_X5 w_code_X5_needed) rfl rfl rfl (by decide +kernel) ⟨Nat.le_of_ble_eq_true rfl, Nat.le_of_ble_eq_true rfl⟩) (va_recv hK.1 hP (ci := 5) (q0 := 0) rfl rfl) hP hK [0, 1, 2, 3, 4, 5, 6, 7, 8, 9, 10, 11, 12, 13, 14, 15, 16, 17, 18, 19, 20] rfl rfl hl.1 (Nat.le_of_ble_eq_true rfl) dL_areAlike_82 ⟨(show _ ≤ 292 from by omega), (show _ ≤ 1752 from by omega)⟩ hS (fun r H locs hw hP hS => ?_)
                have hw := hw.symm
                subst hw
                refine lv_aload_n hx hb dL_areAlike_85 rfl (lv_at hl 1 rfl) ?_
                obtain ⟨o69, h70, hF⟩ := obd hF
                refine wcRVi (As := []) (rest := [.int o67]) (b := (yx 0)) ⟨hx, hb, hml, hown, hts⟩ (met_X5_needed l dC dI cyI cyO yx ytr yan yfl yfs N o39.2.1 o39.2.2  o69 h70) (cwV 0 hts (gV w_methodLink_L_106 w_instanceMethod_X5_needed w_selects_X5_needed w_initialized_X5 w_code_X5_needed) rfl rfl rfl (by decide +kernel) ⟨Nat.le_of_ble_eq_true rfl, Nat.le_of_ble_eq_true rfl⟩) (va_recv hK.1 hP (ci := 5) (q0 := 21) rfl rfl) hP hK [21, 22, 23, 24, 25, 26, 27, 28, 29, 30, 31, 32, 33, 34, 35, 36, 37, 38, 39, 40, 41] rfl rfl hl.1 (Nat.le_of_ble_eq_true rfl) dL_areAlike_86 ⟨(show _ ≤ 292 from by omega), (show _ ≤ 1752 from by omega)⟩ hS (fun r H locs hw hP hS => ?_)
                have hw := hw.symm
                subst hw
                refine lv_icmp_ne (tgt := 177) hx hb dL_areAlike_89 (by decide) (fun c71 => ?_) (fun c71 => ?_)
                · have hF := itn c71 hF
                  refine W.widen (k := 22) (n := 132) (by omega) (by omega) ?_
                  exact hJ177 (o37.2.1, o37.2.2, o39.2.1, o39.2.2) _ _ _ hP hD hS (lv_sub hl [0, 1] rfl) hF
                · have hF := itp c71 hF
                  refine lv_aload_n hx hb dL_areAlike_92 rfl (lv_at hl 0 rfl) ?_
                  obtain ⟨o72, h73, hF⟩ := obd hF
                  refine wcRVi (As := []) (rest := []) (b := (x 0)) ⟨hx, hb, hml, hown, hts⟩ (met_X5_played l dC dI cyI cyO x tr an fl fs N o37.2.1 o37.2.2  o72 h73) (cwV 0 hts (gV w_methodLink_L_109 w_instanceMethod_X5_played w_selects_X5_played w_initialized_X5 w_code_X5_played) rfl rfl rfl (by decide +kernel) ⟨Nat.le_of_ble_eq_true rfl, Nat.le_of_ble_eq_true rfl⟩) (va_recv hK.1 hP (ci := 5) (q0 := 0) rfl rfl) hP hK [0, 1, 2, 3, 4, 5, 6, 7, 8, 9, 10, 11, 12, 13, 14, 15, 16, 17, 18, 19, 20] rfl rfl hl.1 (Nat.le_of_ble_eq_true rfl) dL_areAlike_93 ⟨(show _ ≤ 292 from by omega), (show _ ≤ 1752 from by omega)⟩ hS (fun r H locs hw hP hS => ?_)
                  have hw := hw.symm
                  subst hw
                  refine lv_aload_n hx hb dL_areAlike_96 rfl (lv_at hl 1 rfl) ?_
                  obtain ⟨o74, h75, hF⟩ := obd hF
                  refine wcRVi (As := []) (rest := [.int o72]) (b := (yx 0)) ⟨hx, hb, hml, hown, hts⟩ (met_X5_played l dC dI cyI cyO yx ytr yan yfl yfs N o39.2.1 o39.2.2  o74 h75) (cwV 0 hts (gV w_methodLink_L_109 w_instanceMethod_X5_played w_selects_X5_played w_initialized_X5 w_code_X5_played) rfl rfl rfl (by decide +kernel) ⟨Nat.le_of_ble_eq_true rfl, Nat.le_of_ble_eq_true rfl⟩) (va_recv hK.1 hP (ci := 5) (q0 := 21) rfl rfl) hP hK [21, 22, 23, 24, 25, 26, 27, 28, 29, 30, 31, 32, 33, 34, 35, 36, 37, 38, 39, 40, 41] rfl rfl hl.1 (Nat.le_of_ble_eq_true rfl) dL_areAlike_97 ⟨(show _ ≤ 292 from by omega), (show _ ≤ 1752 from by omega)⟩ hS (fun r H locs hw hP hS => ?_)
                  have hw := hw.symm
                  subst hw
                  refine lv_icmp_ne (tgt := 177) hx hb dL_areAlike_100 (by decide) (fun c76 => ?_) (fun c76 => ?_)
                  · have hF := itn c76 hF
                    refine W.widen (k := 22) (n := 132) (by omega) (by omega) ?_
                    exact hJ177 (o37.2.1, o37.2.2, o39.2.1, o39.2.2) _ _ _ hP hD hS (lv_sub hl [0, 1] rfl) hF
                  · have hF := itp c76 hF
                    refine lv_aload_n hx hb dL_areAlike_103 rfl (lv_at hl 0 rfl) ?_
                    obtain ⟨o77, h78, hF⟩ := obd hF
                    refine wcRVi (As := []) (rest := []) (b := (x 0)) ⟨hx, hb, hml, hown, hts⟩ (met_X5_touchers l dC dI cyI cyO x tr an fl fs N o37.2.1 o37.2.2  o77 h78) (cwV 0 hts (gV w_methodLink_L_112 w_instanceMethod_X5_touchers w_selects_X5_touchers w_initialized_X5 w_code_X5_touchers) rfl rfl rfl (by decide +kernel) ⟨Nat.le_of_ble_eq_true rfl, Nat.le_of_ble_eq_true rfl⟩) (va_recv hK.1 hP (ci := 5) (q0 := 0) rfl rfl) hP hK [0, 1, 2, 3, 4, 5, 6, 7, 8, 9, 10, 11, 12, 13, 14, 15, 16, 17, 18, 19, 20] rfl rfl hl.1 (Nat.le_of_ble_eq_true rfl) dL_areAlike_104 ⟨(show _ ≤ 292 from by omega), (show _ ≤ 1752 from by omega)⟩ hS (fun r H locs hw hP hS => ?_)
                    have hw := hw.symm
                    subst hw
                    refine lv_aload_n hx hb dL_areAlike_107 rfl (lv_at hl 1 rfl) ?_
                    obtain ⟨o79, h80, hF⟩ := obd hF
                    refine wcRVi (As := []) (rest := [.int o77]) (b := (yx 0)) ⟨hx, hb, hml, hown, hts⟩ (met_X5_touchers l dC dI cyI cyO yx ytr yan yfl yfs N o39.2.1 o39.2.2  o79 h80) (cwV 0 hts (gV w_methodLink_L_112 w_instanceMethod_X5_touchers w_selects_X5_touchers w_initialized_X5 w_code_X5_touchers) rfl rfl rfl (by decide +kernel) ⟨Nat.le_of_ble_eq_true rfl, Nat.le_of_ble_eq_true rfl⟩) (va_recv hK.1 hP (ci := 5) (q0 := 21) rfl rfl) hP hK [21, 22, 23, 24, 25, 26, 27, 28, 29, 30, 31, 32, 33, 34, 35, 36, 37, 38, 39, 40, 41] rfl rfl hl.1 (Nat.le_of_ble_eq_true rfl) dL_areAlike_108 ⟨(show _ ≤ 292 from by omega), (show _ ≤ 1752 from by omega)⟩ hS (fun r H locs hw hP hS => ?_)
                    have hw := hw.symm
                    subst hw
                    refine lv_icmp_ne (tgt := 177) hx hb dL_areAlike_111 (by decide) (fun c81 => ?_) (fun c81 => ?_)
                    · have hF := itn c81 hF
                      refine W.widen (k := 22) (n := 132) (by omega) (by omega) ?_
                      exact hJ177 (o37.2.1, o37.2.2, o39.2.1, o39.2.2) _ _ _ hP hD hS (lv_sub hl [0, 1] rfl) hF
                    · have hF := itp c81 hF
                      refine lv_aload_n hx hb dL_areAlike_114 rfl (lv_at hl 0 rfl) ?_
                      obtain ⟨o82, h83, hF⟩ := obd hF
                      refine wcRVi (As := []) (rest := []) (b := (x 0)) ⟨hx, hb, hml, hown, hts⟩ (met_X5_putBack l dC dI cyI cyO x tr an fl fs N o37.2.1 o37.2.2  o82 h83) (cwV 0 hts (gV w_methodLink_L_115 w_instanceMethod_X5_putBack w_selects_X5_putBack w_initialized_X5 w_code_X5_putBack) rfl rfl rfl (by decide +kernel) ⟨Nat.le_of_ble_eq_true rfl, Nat.le_of_ble_eq_true rfl⟩) (va_recv hK.1 hP (ci := 5) (q0 := 0) rfl rfl) hP hK [0, 1, 2, 3, 4, 5, 6, 7, 8, 9, 10, 11, 12, 13, 14, 15, 16, 17, 18, 19, 20] rfl rfl hl.1 (Nat.le_of_ble_eq_true rfl) dL_areAlike_115 ⟨(show _ ≤ 292 from by omega), (show _ ≤ 1752 from by omega)⟩ hS (fun r H locs hw hP hS => ?_)
                      have hw := hw.symm
                      subst hw
                      refine lv_aload_n hx hb dL_areAlike_118 rfl (lv_at hl 1 rfl) ?_
                      obtain ⟨o84, h85, hF⟩ := obd hF
                      refine wcRVi (As := []) (rest := [.int o82]) (b := (yx 0)) ⟨hx, hb, hml, hown, hts⟩ (met_X5_putBack l dC dI cyI cyO yx ytr yan yfl yfs N o39.2.1 o39.2.2  o84 h85) (cwV 0 hts (gV w_methodLink_L_115 w_instanceMethod_X5_putBack w_selects_X5_putBack w_initialized_X5 w_code_X5_putBack) rfl rfl rfl (by decide +kernel) ⟨Nat.le_of_ble_eq_true rfl, Nat.le_of_ble_eq_true rfl⟩) (va_recv hK.1 hP (ci := 5) (q0 := 21) rfl rfl) hP hK [21, 22, 23, 24, 25, 26, 27, 28, 29, 30, 31, 32, 33, 34, 35, 36, 37, 38, 39, 40, 41] rfl rfl hl.1 (Nat.le_of_ble_eq_true rfl) dL_areAlike_119 ⟨(show _ ≤ 292 from by omega), (show _ ≤ 1752 from by omega)⟩ hS (fun r H locs hw hP hS => ?_)
                      have hw := hw.symm
                      subst hw
                      refine lv_icmp_ne (tgt := 177) hx hb dL_areAlike_122 (by decide) (fun c86 => ?_) (fun c86 => ?_)
                      · have hF := itn c86 hF
                        refine W.widen (k := 22) (n := 132) (by omega) (by omega) ?_
                        exact hJ177 (o37.2.1, o37.2.2, o39.2.1, o39.2.2) _ _ _ hP hD hS (lv_sub hl [0, 1] rfl) hF
                      · have hF := itp c86 hF
                        refine lv_aload_n hx hb dL_areAlike_125 rfl (lv_at hl 0 rfl) ?_
                        refine lv_iconst (v := 0) hx hb dL_areAlike_126 (by decide) ?_
                        obtain ⟨o87, h88, hF⟩ := obd hF
                        refine wxRVi (As := [.int (0 : Int32)]) (rest := []) (b := (x 0)) ⟨hx, hb, hml, hown, hts⟩ (met_X5_pointsOf l z0 hst dC dI cyI cyO x tr an fl fs N o37.2.1 o37.2.2 (0 : Int32) o87 h88) (cwV 1 hts (gV w_methodLink_L_118 w_instanceMethod_X5_pointsOf w_selects_X5_pointsOf w_initialized_X5 w_code_X5_pointsOf) rfl rfl rfl (by decide +kernel) ⟨Nat.le_of_ble_eq_true rfl, Nat.le_of_ble_eq_true rfl⟩) (va_recv hK.1 hP (ci := 5) (q0 := 0) rfl rfl) hP hK hZ hAz [0, 1, 2, 3, 4, 5, 6, 7, 8, 9, 10, 11, 12, 13, 14, 15, 16, 17, 18, 19, 20] rfl rfl hl.1 (Nat.le_of_ble_eq_true rfl) dL_areAlike_127 ⟨(show _ ≤ 292 from by omega), (show _ ≤ 1752 from by omega)⟩ hS (fun k ce q9 H locs hw hP hS h9 hv9 hc9 => ?_) (fun ro87 H locs hw hP hS => ?_)
                        · have hw := hw.symm
                          subst hw
                          have hF := exc_l hF
                          cases hF
                        · skip
                          have hw := hw.symm
                          subst hw
                          have hF := exc_r hF
                          refine lv_aload_n hx hb dL_areAlike_130 rfl (lv_at hl 1 rfl) ?_
                          refine lv_iconst (v := 0) hx hb dL_areAlike_131 (by decide) ?_
                          obtain ⟨o89, h90, hF⟩ := obd hF
                          refine wxRVi (As := [.int (0 : Int32)]) (rest := [.int ro87]) (b := (yx 0)) ⟨hx, hb, hml, hown, hts⟩ (met_X5_pointsOf l z0 hst dC dI cyI cyO yx ytr yan yfl yfs N o39.2.1 o39.2.2 (0 : Int32) o89 h90) (cwV 1 hts (gV w_methodLink_L_118 w_instanceMethod_X5_pointsOf w_selects_X5_pointsOf w_initialized_X5 w_code_X5_pointsOf) rfl rfl rfl (by decide +kernel) ⟨Nat.le_of_ble_eq_true rfl, Nat.le_of_ble_eq_true rfl⟩) (va_recv hK.1 hP (ci := 5) (q0 := 21) rfl rfl) hP hK hZ hAz [21, 22, 23, 24, 25, 26, 27, 28, 29, 30, 31, 32, 33, 34, 35, 36, 37, 38, 39, 40, 41] rfl rfl hl.1 (Nat.le_of_ble_eq_true rfl) dL_areAlike_132 ⟨(show _ ≤ 292 from by omega), (show _ ≤ 1752 from by omega)⟩ hS (fun k ce q9 H locs hw hP hS h9 hv9 hc9 => ?_) (fun ro89 H locs hw hP hS => ?_)
                          · have hw := hw.symm
                            subst hw
                            have hF := exc_l hF
                            cases hF
                          · skip
                            have hw := hw.symm
                            subst hw
                            have hF := exc_r hF
                            refine lv_icmp_ne (tgt := 177) hx hb dL_areAlike_135 (by decide) (fun c91 => ?_) (fun c91 => ?_)
                            · have hF := itn c91 hF
                              refine W.widen (k := 22) (n := 132) (by omega) (by omega) ?_
                              exact hJ177 (o37.2.1, o37.2.2, o39.2.1, o39.2.2) _ _ _ hP hD hS (lv_sub hl [0, 1] rfl) hF
                            · have hF := itp c91 hF
                              refine lv_aload_n hx hb dL_areAlike_138 rfl (lv_at hl 0 rfl) ?_
                              refine lv_iconst (v := 1) hx hb dL_areAlike_139 (by decide) ?_
                              obtain ⟨o92, h93, hF⟩ := obd hF
                              refine wxRVi (As := [.int (1 : Int32)]) (rest := []) (b := (x 0)) ⟨hx, hb, hml, hown, hts⟩ (met_X5_pointsOf l z0 hst dC dI cyI cyO x tr an fl fs N o37.2.1 o37.2.2 (1 : Int32) o92 h93) (cwV 1 hts (gV w_methodLink_L_118 w_instanceMethod_X5_pointsOf w_selects_X5_pointsOf w_initialized_X5 w_code_X5_pointsOf) rfl rfl rfl (by decide +kernel) ⟨Nat.le_of_ble_eq_true rfl, Nat.le_of_ble_eq_true rfl⟩) (va_recv hK.1 hP (ci := 5) (q0 := 0) rfl rfl) hP hK hZ hAz [0, 1, 2, 3, 4, 5, 6, 7, 8, 9, 10, 11, 12, 13, 14, 15, 16, 17, 18, 19, 20] rfl rfl hl.1 (Nat.le_of_ble_eq_true rfl) dL_areAlike_140 ⟨(show _ ≤ 292 from by omega), (show _ ≤ 1752 from by omega)⟩ hS (fun k ce q9 H locs hw hP hS h9 hv9 hc9 => ?_) (fun ro92 H locs hw hP hS => ?_)
                              · have hw := hw.symm
                                subst hw
                                have hF := exc_l hF
                                cases hF
                              · skip
                                have hw := hw.symm
                                subst hw
                                have hF := exc_r hF
                                refine lv_aload_n hx hb dL_areAlike_143 rfl (lv_at hl 1 rfl) ?_
                                refine lv_iconst (v := 1) hx hb dL_areAlike_144 (by decide) ?_
                                obtain ⟨o94, h95, hF⟩ := obd hF
                                refine wxRVi (As := [.int (1 : Int32)]) (rest := [.int ro92]) (b := (yx 0)) ⟨hx, hb, hml, hown, hts⟩ (met_X5_pointsOf l z0 hst dC dI cyI cyO yx ytr yan yfl yfs N o39.2.1 o39.2.2 (1 : Int32) o94 h95) (cwV 1 hts (gV w_methodLink_L_118 w_instanceMethod_X5_pointsOf w_selects_X5_pointsOf w_initialized_X5 w_code_X5_pointsOf) rfl rfl rfl (by decide +kernel) ⟨Nat.le_of_ble_eq_true rfl, Nat.le_of_ble_eq_true rfl⟩) (va_recv hK.1 hP (ci := 5) (q0 := 21) rfl rfl) hP hK hZ hAz [21, 22, 23, 24, 25, 26, 27, 28, 29, 30, 31, 32, 33, 34, 35, 36, 37, 38, 39, 40, 41] rfl rfl hl.1 (Nat.le_of_ble_eq_true rfl) dL_areAlike_145 ⟨(show _ ≤ 292 from by omega), (show _ ≤ 1752 from by omega)⟩ hS (fun k ce q9 H locs hw hP hS h9 hv9 hc9 => ?_) (fun ro94 H locs hw hP hS => ?_)
                                · have hw := hw.symm
                                  subst hw
                                  have hF := exc_l hF
                                  cases hF
                                · skip
                                  have hw := hw.symm
                                  subst hw
                                  have hF := exc_r hF
                                  refine lv_icmp_ne (tgt := 177) hx hb dL_areAlike_148 (by decide) (fun c96 => ?_) (fun c96 => ?_)
                                  · have hF := itn c96 hF
                                    refine W.widen (k := 22) (n := 132) (by omega) (by omega) ?_
                                    exact hJ177 (o37.2.1, o37.2.2, o39.2.1, o39.2.2) _ _ _ hP hD hS (lv_sub hl [0, 1] rfl) hF
                                  · have hF := itp c96 hF
                                    refine lv_aload_n hx hb dL_areAlike_151 rfl (lv_at hl 0 rfl) ?_
                                    obtain ⟨o97, h98, hF⟩ := obd hF
                                    refine wcRVi (As := []) (rest := []) (b := (x 0)) ⟨hx, hb, hml, hown, hts⟩ (met_X5_keptEnds l dC dI cyI cyO x tr an fl fs N o37.2.1 o37.2.2  o97 h98) (cwV 0 hts (gV w_methodLink_L_121 w_instanceMethod_X5_keptEnds w_selects_X5_keptEnds w_initialized_X5 w_code_X5_keptEnds) rfl rfl rfl (by decide +kernel) ⟨Nat.le_of_ble_eq_true rfl, Nat.le_of_ble_eq_true rfl⟩) (va_recv hK.1 hP (ci := 5) (q0 := 0) rfl rfl) hP hK [0, 1, 2, 3, 4, 5, 6, 7, 8, 9, 10, 11, 12, 13, 14, 15, 16, 17, 18, 19, 20] rfl rfl hl.1 (Nat.le_of_ble_eq_true rfl) dL_areAlike_152 ⟨(show _ ≤ 292 from by omega), (show _ ≤ 1752 from by omega)⟩ hS (fun r H locs hw hP hS => ?_)
                                    have hw := hw.symm
                                    subst hw
                                    refine lv_aload_n hx hb dL_areAlike_155 rfl (lv_at hl 1 rfl) ?_
                                    obtain ⟨o99, h100, hF⟩ := obd hF
                                    refine wcRVi (As := []) (rest := [.int o97]) (b := (yx 0)) ⟨hx, hb, hml, hown, hts⟩ (met_X5_keptEnds l dC dI cyI cyO yx ytr yan yfl yfs N o39.2.1 o39.2.2  o99 h100) (cwV 0 hts (gV w_methodLink_L_121 w_instanceMethod_X5_keptEnds w_selects_X5_keptEnds w_initialized_X5 w_code_X5_keptEnds) rfl rfl rfl (by decide +kernel) ⟨Nat.le_of_ble_eq_true rfl, Nat.le_of_ble_eq_true rfl⟩) (va_recv hK.1 hP (ci := 5) (q0 := 21) rfl rfl) hP hK [21, 22, 23, 24, 25, 26, 27, 28, 29, 30, 31, 32, 33, 34, 35, 36, 37, 38, 39, 40, 41] rfl rfl hl.1 (Nat.le_of_ble_eq_true rfl) dL_areAlike_156 ⟨(show _ ≤ 292 from by omega), (show _ ≤ 1752 from by omega)⟩ hS (fun r H locs hw hP hS => ?_)
                                    have hw := hw.symm
                                    subst hw
                                    refine lv_icmp_ne (tgt := 177) hx hb dL_areAlike_159 (by decide) (fun c101 => ?_) (fun c101 => ?_)
                                    · have hF := itn c101 hF
                                      refine W.widen (k := 22) (n := 132) (by omega) (by omega) ?_
                                      exact hJ177 (o37.2.1, o37.2.2, o39.2.1, o39.2.2) _ _ _ hP hD hS (lv_sub hl [0, 1] rfl) hF
                                    · have hF := itp c101 hF
                                      refine lv_aload_n hx hb dL_areAlike_162 rfl (lv_at hl 0 rfl) ?_
                                      obtain ⟨o102, h103, hF⟩ := obd hF
                                      refine wcPVi (As := []) (rest := []) (wr := ([(cXo yx yan ytr o39.2.1), (cH cyO (yx 1) (yx 2) 2 yfl), (cXk cyI yx o39.2.1), (cH cyO (yx 4) (yx 5) 6 yfs), (cT cyI yx (X_text o39.2.1)), (cS cyI yan o39.2.2)] : List va_W).flatten) (b := (x 0)) ⟨hx, hb, hml, hown, hts⟩ (met_X5_pointsByOrder l dC dI cyI cyO x tr an fl fs _ N o37.2.1 o37.2.2  o102 h103) (cwV 0 hts (gV w_methodLink_L_124 w_instanceMethod_X5_pointsByOrder w_selects_X5_pointsByOrder w_initialized_X5 w_code_X5_pointsByOrder) rfl rfl rfl (by decide +kernel) ⟨Nat.le_of_ble_eq_true rfl, Nat.le_of_ble_eq_true rfl⟩) (va_recv hK.1 hP (ci := 5) (q0 := 0) rfl rfl) hP hD hK (seg_perm (n := 14) (R := [(cXo yx yan ytr o39.2.1), (cH cyO (yx 1) (yx 2) 2 yfl), (cXk cyI yx o39.2.1), (cH cyO (yx 4) (yx 5) 6 yfs), (cT cyI yx (X_text o39.2.1)), (cS cyI yan o39.2.2)]) (C := [(cXo x an tr o37.2.1), (cH cyO (x 1) (x 2) 2 fl), (cXk cyI x o37.2.1), (cH cyO (x 4) (x 5) 6 fs), (cT cyI x (X_text o37.2.1)), (cSo an o37.2.2), (cG cyI an (S_green o37.2.2)), (cV cyI an (S_score o37.2.2))]) [8, 9, 10, 11, 12, 13] [0, 1, 2, 3, 4, 5, 6, 7] rfl rfl rfl (by decide) rfl) rfl hl.1 (Nat.le_of_ble_eq_true rfl) dL_areAlike_163 ⟨(show _ ≤ 292 from by omega), (show _ ≤ 1752 from by omega)⟩ hS hA (fun r u H locs hw hP hD hS => ?_)
                                      obtain rfl : r = o102.1 := congrArg Prod.fst hw
                                      obtain rfl : u = o102.2 := congrArg Prod.snd hw
                                      clear hw
                                      have hq := seg_permS (segs := [(cXo x an tr o102.2.1), (cH cyO (x 1) (x 2) 2 fl), (cXk cyI x o102.2.1), (cH cyO (x 4) (x 5) 6 fs), (cT cyI x (X_text o102.2.1)), (cSo an o102.2.2), (cG cyI an (S_green o102.2.2)), (cV cyI an (S_score o102.2.2)), (cXo yx yan ytr o39.2.1), (cH cyO (yx 1) (yx 2) 2 yfl), (cXk cyI yx o39.2.1), (cH cyO (yx 4) (yx 5) 6 yfs), (cT cyI yx (X_text o39.2.1)), (cS cyI yan o39.2.2)]) (R := [(cXo yx yan ytr o39.2.1), (cH cyO (yx 1) (yx 2) 2 yfl), (cXk cyI yx o39.2.1), (cH cyO (yx 4) (yx 5) 6 yfs), (cT cyI yx (X_text o39.2.1)), (cS cyI yan o39.2.2)]) (C := [(cXo x an tr o102.2.1), (cH cyO (x 1) (x 2) 2 fl), (cXk cyI x o102.2.1), (cH cyO (x 4) (x 5) 6 fs), (cT cyI x (X_text o102.2.1)), (cSo an o102.2.2), (cG cyI an (S_green o102.2.2)), (cV cyI an (S_score o102.2.2))]) (n := 14) [8, 9, 10, 11, 12, 13] [0, 1, 2, 3, 4, 5, 6, 7] rfl rfl rfl (by decide)
                                      have hP : va_P (dC, dI) vwCl (([(cXo x an tr o102.2.1), (cH cyO (x 1) (x 2) 2 fl), (cXk cyI x o102.2.1), (cH cyO (x 4) (x 5) 6 fs), (cT cyI x (X_text o102.2.1)), (cSo an o102.2.2), (cG cyI an (S_green o102.2.2)), (cV cyI an (S_score o102.2.2)), (cXo yx yan ytr o39.2.1), (cH cyO (yx 1) (yx 2) 2 yfl), (cXk cyI yx o39.2.1), (cH cyO (yx 4) (yx 5) 6 yfs), (cT cyI yx (X_text o39.2.1)), (cS cyI yan o39.2.2)] : List va_W).flatten) H := hP.perm hq
                                      have hD : va_D A (([(cXo x an tr o102.2.1), (cH cyO (x 1) (x 2) 2 fl), (cXk cyI x o102.2.1), (cH cyO (x 4) (x 5) 6 fs), (cT cyI x (X_text o102.2.1)), (cSo an o102.2.2), (cG cyI an (S_green o102.2.2)), (cV cyI an (S_score o102.2.2)), (cXo yx yan ytr o39.2.1), (cH cyO (yx 1) (yx 2) 2 yfl), (cXk cyI yx o39.2.1), (cH cyO (yx 4) (yx 5) 6 yfs), (cT cyI yx (X_text o39.2.1)), (cS cyI yan o39.2.2)] : List va_W).flatten) := hD.perm hq
                                      clear hq
                                      refine lv_aload_n hx hb dL_areAlike_166 rfl (lv_at hl 1 rfl) ?_
                                      obtain ⟨o104, h105, hF⟩ := obd hF
                                      refine wcPVi (As := []) (rest := [.int o102.1]) (wr := ([(cXo x an tr o102.2.1), (cH cyO (x 1) (x 2) 2 fl), (cXk cyI x o102.2.1), (cH cyO (x 4) (x 5) 6 fs), (cT cyI x (X_text o102.2.1)), (cSo an o102.2.2), (cG cyI an (S_green o102.2.2)), (cV cyI an (S_score o102.2.2))] : List va_W).flatten) (b := (yx 0)) ⟨hx, hb, hml, hown, hts⟩ (met_X5_pointsByOrder l dC dI cyI cyO yx ytr yan yfl yfs _ N o39.2.1 o39.2.2  o104 h105) (cwV 0 hts (gV w_methodLink_L_124 w_instanceMethod_X5_pointsByOrder w_selects_X5_pointsByOrder w_initialized_X5 w_code_X5_pointsByOrder) rfl rfl rfl (by decide +kernel) ⟨Nat.le_of_ble_eq_true rfl, Nat.le_of_ble_eq_true rfl⟩) (va_recv hK.1 hP (ci := 5) (q0 := 21) rfl rfl) hP hD hK (seg_perm (n := 14) (R := [(cXo x an tr o102.2.1), (cH cyO (x 1) (x 2) 2 fl), (cXk cyI x o102.2.1), (cH cyO (x 4) (x 5) 6 fs), (cT cyI x (X_text o102.2.1)), (cSo an o102.2.2), (cG cyI an (S_green o102.2.2)), (cV cyI an (S_score o102.2.2))]) (C := [(cXo yx yan ytr o39.2.1), (cH cyO (yx 1) (yx 2) 2 yfl), (cXk cyI yx o39.2.1), (cH cyO (yx 4) (yx 5) 6 yfs), (cT cyI yx (X_text o39.2.1)), (cS cyI yan o39.2.2)]) [0, 1, 2, 3, 4, 5, 6, 7] [8, 9, 10, 11, 12, 13] rfl rfl rfl (by decide) rfl) rfl hl.1 (Nat.le_of_ble_eq_true rfl) dL_areAlike_167 ⟨(show _ ≤ 292 from by omega), (show _ ≤ 1752 from by omega)⟩ hS hA (fun r u H locs hw hP hD hS => ?_)
                                      obtain rfl : r = o104.1 := congrArg Prod.fst hw
                                      obtain rfl : u = o104.2 := congrArg Prod.snd hw
                                      clear hw
                                      have hq := seg_permS (segs := [(cXo x an tr o102.2.1), (cH cyO (x 1) (x 2) 2 fl), (cXk cyI x o102.2.1), (cH cyO (x 4) (x 5) 6 fs), (cT cyI x (X_text o102.2.1)), (cSo an o102.2.2), (cG cyI an (S_green o102.2.2)), (cV cyI an (S_score o102.2.2)), (cXo yx yan ytr o104.2.1), (cH cyO (yx 1) (yx 2) 2 yfl), (cXk cyI yx o104.2.1), (cH cyO (yx 4) (yx 5) 6 yfs), (cT cyI yx (X_text o104.2.1)), (cS cyI yan o104.2.2)]) (R := [(cXo x an tr o102.2.1), (cH cyO (x 1) (x 2) 2 fl), (cXk cyI x o102.2.1), (cH cyO (x 4) (x 5) 6 fs), (cT cyI x (X_text o102.2.1)), (cSo an o102.2.2), (cG cyI an (S_green o102.2.2)), (cV cyI an (S_score o102.2.2))]) (C := [(cXo yx yan ytr o104.2.1), (cH cyO (yx 1) (yx 2) 2 yfl), (cXk cyI yx o104.2.1), (cH cyO (yx 4) (yx 5) 6 yfs), (cT cyI yx (X_text o104.2.1)), (cS cyI yan o104.2.2)]) (n := 14) [0, 1, 2, 3, 4, 5, 6, 7] [8, 9, 10, 11, 12, 13] rfl rfl rfl (by decide)
                                      have hP : va_P (dC, dI) vwCl (([(cXo x an tr o102.2.1), (cH cyO (x 1) (x 2) 2 fl), (cXk cyI x o102.2.1), (cH cyO (x 4) (x 5) 6 fs), (cT cyI x (X_text o102.2.1)), (cSo an o102.2.2), (cG cyI an (S_green o102.2.2)), (cV cyI an (S_score o102.2.2)), (cXo yx yan ytr o104.2.1), (cH cyO (yx 1) (yx 2) 2 yfl), (cXk cyI yx o104.2.1), (cH cyO (yx 4) (yx 5) 6 yfs), (cT cyI yx (X_text o104.2.1)), (cS cyI yan o104.2.2)] : List va_W).flatten) H := hP.perm hq
                                      have hD : va_D A (([(cXo x an tr o102.2.1), (cH cyO (x 1) (x 2) 2 fl), (cXk cyI x o102.2.1), (cH cyO (x 4) (x 5) 6 fs), (cT cyI x (X_text o102.2.1)), (cSo an o102.2.2), (cG cyI an (S_green o102.2.2)), (cV cyI an (S_score o102.2.2)), (cXo yx yan ytr o104.2.1), (cH cyO (yx 1) (yx 2) 2 yfl), (cXk cyI yx o104.2.1), (cH cyO (yx 4) (yx 5) 6 yfs), (cT cyI yx (X_text o104.2.1)), (cS cyI yan o104.2.2)] : List va_W).flatten) := hD.perm hq
                                      clear hq
                                      refine lv_icmp_ne (tgt := 177) hx hb dL_areAlike_170 (by decide) (fun c106 => ?_) (fun c106 => ?_)
                                      · have hF := itn c106 hF
                                        refine W.widen (k := 22) (n := 132) (by omega) (by omega) ?_
                                        exact hJ177 (o102.2.1, o102.2.2, o104.2.1, o104.2.2) _ _ _ hP hD hS (lv_sub hl [0, 1] rfl) hF
                                      · have hF := itp c106 hF
                                        refine lv_iconst (v := 1) hx hb dL_areAlike_173 (by decide) ?_
                                        refine lv_goto (tgt := 178) hx hb dL_areAlike_174 (by decide) ?_
                                        refine W.widen (k := 22) (n := 132) (by omega) (by omega) ?_
                                        exact hJ178 ((1 : Int32), o102.2.1, o102.2.2, o104.2.1, o104.2.2) _ _ _ b01_1 hP hD hS (lv_sub hl [0, 1] rfl) hF
