-- StandInsModel call (IIII)J
set_option maxRecDepth 100000 in
theorem dM_call_0 : decode bM_call 0 = .ok (.iload_n 1, 1) := by decide +kernel
set_option maxRecDepth 100000 in
theorem dM_call_1 : decode bM_call 1 = .ok (.iconst 0, 1) := by decide +kernel
set_option maxRecDepth 100000 in
theorem dM_call_2 : decode bM_call 2 = .ok (.aload_n 0, 1) := by decide +kernel
set_option maxRecDepth 100000 in
theorem dM_call_3 : decode bM_call 3 = .ok (.getfield 110, 3) := by decide +kernel
set_option maxRecDepth 100000 in
theorem dM_call_6 : decode bM_call 6 = .ok (.iconst 1, 1) := by decide +kernel
set_option maxRecDepth 100000 in
theorem dM_call_7 : decode bM_call 7 = .ok (.isub, 1) := by decide +kernel
set_option maxRecDepth 100000 in
theorem dM_call_8 : decode bM_call 8 = .ok (.invokestatic 106, 3) := by decide +kernel
set_option maxRecDepth 100000 in
theorem dM_call_11 : decode bM_call 11 = .ok (.ifCond .eq 12, 3) := by decide +kernel
set_option maxRecDepth 100000 in
theorem dM_call_14 : decode bM_call 14 = .ok (.iload_n 2, 1) := by decide +kernel
set_option maxRecDepth 100000 in
theorem dM_call_15 : decode bM_call 15 = .ok (.iconst 0, 1) := by decide +kernel
set_option maxRecDepth 100000 in
theorem dM_call_16 : decode bM_call 16 = .ok (.iconst 3, 1) := by decide +kernel
set_option maxRecDepth 100000 in
theorem dM_call_17 : decode bM_call 17 = .ok (.invokestatic 106, 3) := by decide +kernel
set_option maxRecDepth 100000 in
theorem dM_call_20 : decode bM_call 20 = .ok (.ifCond .ne 7, 3) := by decide +kernel
set_option maxRecDepth 100000 in
theorem dM_call_23 : decode bM_call 23 = .ok (.ldc2_w 128, 3) := by decide +kernel
set_option maxRecDepth 100000 in
theorem dM_call_26 : decode bM_call 26 = .ok (.lreturn, 1) := by decide +kernel
set_option maxRecDepth 100000 in
theorem dM_call_27 : decode bM_call 27 = .ok (.aload_n 0, 1) := by decide +kernel
set_option maxRecDepth 100000 in
theorem dM_call_28 : decode bM_call 28 = .ok (.getfield 90, 3) := by decide +kernel
set_option maxRecDepth 100000 in
theorem dM_call_31 : decode bM_call 31 = .ok (.iconst 2, 1) := by decide +kernel
set_option maxRecDepth 100000 in
theorem dM_call_32 : decode bM_call 32 = .ok (.if_icmp .ne 15, 3) := by decide +kernel
set_option maxRecDepth 100000 in
theorem dM_call_35 : decode bM_call 35 = .ok (.aload_n 0, 1) := by decide +kernel
set_option maxRecDepth 100000 in
theorem dM_call_36 : decode bM_call 36 = .ok (.getfield 87, 3) := by decide +kernel
set_option maxRecDepth 100000 in
theorem dM_call_39 : decode bM_call 39 = .ok (.iload_n 1, 1) := by decide +kernel
set_option maxRecDepth 100000 in
theorem dM_call_40 : decode bM_call 40 = .ok (.if_icmp .ne 7, 3) := by decide +kernel
set_option maxRecDepth 100000 in
theorem dM_call_43 : decode bM_call 43 = .ok (.iconst 1, 1) := by decide +kernel
set_option maxRecDepth 100000 in
theorem dM_call_44 : decode bM_call 44 = .ok (.goto 4, 3) := by decide +kernel
set_option maxRecDepth 100000 in
theorem dM_call_47 : decode bM_call 47 = .ok (.iconst 0, 1) := by decide +kernel
set_option maxRecDepth 100000 in
theorem dM_call_48 : decode bM_call 48 = .ok (.istore 5, 2) := by decide +kernel
set_option maxRecDepth 100000 in
theorem dM_call_50 : decode bM_call 50 = .ok (.iload 5, 2) := by decide +kernel
set_option maxRecDepth 100000 in
theorem dM_call_52 : decode bM_call 52 = .ok (.ifCond .eq 12, 3) := by decide +kernel
set_option maxRecDepth 100000 in
theorem dM_call_55 : decode bM_call 55 = .ok (.aload_n 0, 1) := by decide +kernel
set_option maxRecDepth 100000 in
theorem dM_call_56 : decode bM_call 56 = .ok (.getfield 93, 3) := by decide +kernel
set_option maxRecDepth 100000 in
theorem dM_call_59 : decode bM_call 59 = .ok (.bipush 16, 2) := by decide +kernel
set_option maxRecDepth 100000 in
theorem dM_call_61 : decode bM_call 61 = .ok (.if_icmp .eq 28, 3) := by decide +kernel
set_option maxRecDepth 100000 in
theorem dM_call_64 : decode bM_call 64 = .ok (.aload_n 0, 1) := by decide +kernel
set_option maxRecDepth 100000 in
theorem dM_call_65 : decode bM_call 65 = .ok (.getfield 90, 3) := by decide +kernel
set_option maxRecDepth 100000 in
theorem dM_call_68 : decode bM_call 68 = .ok (.iconst 2, 1) := by decide +kernel
set_option maxRecDepth 100000 in
theorem dM_call_69 : decode bM_call 69 = .ok (.if_icmp .eq 24, 3) := by decide +kernel
set_option maxRecDepth 100000 in
theorem dM_call_72 : decode bM_call 72 = .ok (.aload_n 0, 1) := by decide +kernel
set_option maxRecDepth 100000 in
theorem dM_call_73 : decode bM_call 73 = .ok (.getfield 90, 3) := by decide +kernel
set_option maxRecDepth 100000 in
theorem dM_call_76 : decode bM_call 76 = .ok (.iconst 3, 1) := by decide +kernel
set_option maxRecDepth 100000 in
theorem dM_call_77 : decode bM_call 77 = .ok (.if_icmp .eq 16, 3) := by decide +kernel
set_option maxRecDepth 100000 in
theorem dM_call_80 : decode bM_call 80 = .ok (.aload_n 0, 1) := by decide +kernel
set_option maxRecDepth 100000 in
theorem dM_call_81 : decode bM_call 81 = .ok (.getfield 130, 3) := by decide +kernel
set_option maxRecDepth 100000 in
theorem dM_call_84 : decode bM_call 84 = .ok (.bipush 40, 2) := by decide +kernel
set_option maxRecDepth 100000 in
theorem dM_call_86 : decode bM_call 86 = .ok (.if_icmp .ne 7, 3) := by decide +kernel
set_option maxRecDepth 100000 in
theorem dM_call_89 : decode bM_call 89 = .ok (.ldc2_w 133, 3) := by decide +kernel
set_option maxRecDepth 100000 in
theorem dM_call_92 : decode bM_call 92 = .ok (.lreturn, 1) := by decide +kernel
set_option maxRecDepth 100000 in
theorem dM_call_93 : decode bM_call 93 = .ok (.aload_n 0, 1) := by decide +kernel
set_option maxRecDepth 100000 in
theorem dM_call_94 : decode bM_call 94 = .ok (.iload_n 1, 1) := by decide +kernel
set_option maxRecDepth 100000 in
theorem dM_call_95 : decode bM_call 95 = .ok (.iload_n 2, 1) := by decide +kernel
set_option maxRecDepth 100000 in
theorem dM_call_96 : decode bM_call 96 = .ok (.invokevirtual 135, 3) := by decide +kernel
set_option maxRecDepth 100000 in
theorem dM_call_99 : decode bM_call 99 = .ok (.istore 6, 2) := by decide +kernel
set_option maxRecDepth 100000 in
theorem dM_call_101 : decode bM_call 101 = .ok (.aload_n 0, 1) := by decide +kernel
set_option maxRecDepth 100000 in
theorem dM_call_102 : decode bM_call 102 = .ok (.getfield 7, 3) := by decide +kernel
set_option maxRecDepth 100000 in
theorem dM_call_105 : decode bM_call 105 = .ok (.iload 6, 2) := by decide +kernel
set_option maxRecDepth 100000 in
theorem dM_call_107 : decode bM_call 107 = .ok (.iaload, 1) := by decide +kernel
set_option maxRecDepth 100000 in
theorem dM_call_108 : decode bM_call 108 = .ok (.istore 7, 2) := by decide +kernel
set_option maxRecDepth 100000 in
theorem dM_call_110 : decode bM_call 110 = .ok (.iload 7, 2) := by decide +kernel
set_option maxRecDepth 100000 in
theorem dM_call_112 : decode bM_call 112 = .ok (.ifCond .le 7, 3) := by decide +kernel
set_option maxRecDepth 100000 in
theorem dM_call_115 : decode bM_call 115 = .ok (.iload_n 3, 1) := by decide +kernel
set_option maxRecDepth 100000 in
theorem dM_call_116 : decode bM_call 116 = .ok (.goto 4, 3) := by decide +kernel
set_option maxRecDepth 100000 in
theorem dM_call_119 : decode bM_call 119 = .ok (.iconst 0, 1) := by decide +kernel
set_option maxRecDepth 100000 in
theorem dM_call_120 : decode bM_call 120 = .ok (.istore 8, 2) := by decide +kernel
set_option maxRecDepth 100000 in
theorem dM_call_122 : decode bM_call 122 = .ok (.iload 7, 2) := by decide +kernel
set_option maxRecDepth 100000 in
theorem dM_call_124 : decode bM_call 124 = .ok (.iconst 1, 1) := by decide +kernel
set_option maxRecDepth 100000 in
theorem dM_call_125 : decode bM_call 125 = .ok (.if_icmp .le 8, 3) := by decide +kernel
set_option maxRecDepth 100000 in
theorem dM_call_128 : decode bM_call 128 = .ok (.iload 4, 2) := by decide +kernel
set_option maxRecDepth 100000 in
theorem dM_call_130 : decode bM_call 130 = .ok (.goto 4, 3) := by decide +kernel
set_option maxRecDepth 100000 in
theorem dM_call_133 : decode bM_call 133 = .ok (.iconst 0, 1) := by decide +kernel
set_option maxRecDepth 100000 in
theorem dM_call_134 : decode bM_call 134 = .ok (.istore 9, 2) := by decide +kernel
set_option maxRecDepth 100000 in
theorem dM_call_136 : decode bM_call 136 = .ok (.aload_n 0, 1) := by decide +kernel
set_option maxRecDepth 100000 in
theorem dM_call_137 : decode bM_call 137 = .ok (.getfield 96, 3) := by decide +kernel
set_option maxRecDepth 100000 in
theorem dM_call_140 : decode bM_call 140 = .ok (.ifCond .le 16, 3) := by decide +kernel
set_option maxRecDepth 100000 in
theorem dM_call_143 : decode bM_call 143 = .ok (.aload_n 0, 1) := by decide +kernel
set_option maxRecDepth 100000 in
theorem dM_call_144 : decode bM_call 144 = .ok (.getfield 96, 3) := by decide +kernel
set_option maxRecDepth 100000 in
theorem dM_call_147 : decode bM_call 147 = .ok (.iload 7, 2) := by decide +kernel
set_option maxRecDepth 100000 in
theorem dM_call_149 : decode bM_call 149 = .ok (.if_icmp .eq 7, 3) := by decide +kernel
set_option maxRecDepth 100000 in
theorem dM_call_152 : decode bM_call 152 = .ok (.iconst 1, 1) := by decide +kernel
set_option maxRecDepth 100000 in
theorem dM_call_153 : decode bM_call 153 = .ok (.goto 4, 3) := by decide +kernel
set_option maxRecDepth 100000 in
theorem dM_call_156 : decode bM_call 156 = .ok (.iconst 0, 1) := by decide +kernel
set_option maxRecDepth 100000 in
theorem dM_call_157 : decode bM_call 157 = .ok (.istore 10, 2) := by decide +kernel
set_option maxRecDepth 100000 in
theorem dM_call_159 : decode bM_call 159 = .ok (.iconst 0, 1) := by decide +kernel
set_option maxRecDepth 100000 in
theorem dM_call_160 : decode bM_call 160 = .ok (.istore 11, 2) := by decide +kernel
set_option maxRecDepth 100000 in
theorem dM_call_162 : decode bM_call 162 = .ok (.iload 11, 2) := by decide +kernel
set_option maxRecDepth 100000 in
theorem dM_call_164 : decode bM_call 164 = .ok (.aload_n 0, 1) := by decide +kernel
set_option maxRecDepth 100000 in
theorem dM_call_165 : decode bM_call 165 = .ok (.getfield 59, 3) := by decide +kernel
set_option maxRecDepth 100000 in
theorem dM_call_168 : decode bM_call 168 = .ok (.bipush 16, 2) := by decide +kernel
set_option maxRecDepth 100000 in
theorem dM_call_170 : decode bM_call 170 = .ok (.iaload, 1) := by decide +kernel
set_option maxRecDepth 100000 in
theorem dM_call_171 : decode bM_call 171 = .ok (.if_icmp .ge 29, 3) := by decide +kernel
set_option maxRecDepth 100000 in
theorem dM_call_174 : decode bM_call 174 = .ok (.iload 5, 2) := by decide +kernel
set_option maxRecDepth 100000 in
theorem dM_call_176 : decode bM_call 176 = .ok (.ifCond .eq 24, 3) := by decide +kernel
set_option maxRecDepth 100000 in
theorem dM_call_179 : decode bM_call 179 = .ok (.iload 10, 2) := by decide +kernel
set_option maxRecDepth 100000 in
theorem dM_call_181 : decode bM_call 181 = .ok (.aload_n 0, 1) := by decide +kernel
set_option maxRecDepth 100000 in
theorem dM_call_182 : decode bM_call 182 = .ok (.bipush 16, 2) := by decide +kernel
set_option maxRecDepth 100000 in
theorem dM_call_184 : decode bM_call 184 = .ok (.iload 11, 2) := by decide +kernel
set_option maxRecDepth 100000 in
theorem dM_call_186 : decode bM_call 186 = .ok (.iload 6, 2) := by decide +kernel
set_option maxRecDepth 100000 in
theorem dM_call_188 : decode bM_call 188 = .ok (.invokevirtual 139, 3) := by decide +kernel
set_option maxRecDepth 100000 in
theorem dM_call_191 : decode bM_call 191 = .ok (.ior, 1) := by decide +kernel
set_option maxRecDepth 100000 in
theorem dM_call_192 : decode bM_call 192 = .ok (.istore 10, 2) := by decide +kernel
set_option maxRecDepth 100000 in
theorem dM_call_194 : decode bM_call 194 = .ok (.iinc 11 1, 3) := by decide +kernel
set_option maxRecDepth 100000 in
theorem dM_call_197 : decode bM_call 197 = .ok (.goto (-35), 3) := by decide +kernel
set_option maxRecDepth 100000 in
theorem dM_call_200 : decode bM_call 200 = .ok (.aload_n 0, 1) := by decide +kernel
set_option maxRecDepth 100000 in
theorem dM_call_201 : decode bM_call 201 = .ok (.iconst 0, 1) := by decide +kernel
set_option maxRecDepth 100000 in
theorem dM_call_202 : decode bM_call 202 = .ok (.iload_n 1, 1) := by decide +kernel
set_option maxRecDepth 100000 in
theorem dM_call_203 : decode bM_call 203 = .ok (.iconst 0, 1) := by decide +kernel
set_option maxRecDepth 100000 in
theorem dM_call_204 : decode bM_call 204 = .ok (.iload 10, 2) := by decide +kernel
set_option maxRecDepth 100000 in
theorem dM_call_206 : decode bM_call 206 = .ok (.invokevirtual 102, 3) := by decide +kernel
set_option maxRecDepth 100000 in
theorem dM_call_209 : decode bM_call 209 = .ok (.istore 11, 2) := by decide +kernel
set_option maxRecDepth 100000 in
theorem dM_call_211 : decode bM_call 211 = .ok (.iload 11, 2) := by decide +kernel
set_option maxRecDepth 100000 in
theorem dM_call_213 : decode bM_call 213 = .ok (.ifCond .ge 11, 3) := by decide +kernel
set_option maxRecDepth 100000 in
theorem dM_call_216 : decode bM_call 216 = .ok (.ldc2_w 142, 3) := by decide +kernel
set_option maxRecDepth 100000 in
theorem dM_call_219 : decode bM_call 219 = .ok (.iload 11, 2) := by decide +kernel
set_option maxRecDepth 100000 in
theorem dM_call_221 : decode bM_call 221 = .ok (.i2l, 1) := by decide +kernel
set_option maxRecDepth 100000 in
theorem dM_call_222 : decode bM_call 222 = .ok (.ladd, 1) := by decide +kernel
set_option maxRecDepth 100000 in
theorem dM_call_223 : decode bM_call 223 = .ok (.lreturn, 1) := by decide +kernel
set_option maxRecDepth 100000 in
theorem dM_call_224 : decode bM_call 224 = .ok (.iconst 0, 1) := by decide +kernel
set_option maxRecDepth 100000 in
theorem dM_call_225 : decode bM_call 225 = .ok (.istore 12, 2) := by decide +kernel
set_option maxRecDepth 100000 in
theorem dM_call_227 : decode bM_call 227 = .ok (.iload 12, 2) := by decide +kernel
set_option maxRecDepth 100000 in
theorem dM_call_229 : decode bM_call 229 = .ok (.iload 7, 2) := by decide +kernel
set_option maxRecDepth 100000 in
theorem dM_call_231 : decode bM_call 231 = .ok (.if_icmp .ge 70, 3) := by decide +kernel
set_option maxRecDepth 100000 in
theorem dM_call_234 : decode bM_call 234 = .ok (.aload_n 0, 1) := by decide +kernel
set_option maxRecDepth 100000 in
theorem dM_call_235 : decode bM_call 235 = .ok (.getfield 96, 3) := by decide +kernel
set_option maxRecDepth 100000 in
theorem dM_call_238 : decode bM_call 238 = .ok (.ifCond .ne 28, 3) := by decide +kernel
set_option maxRecDepth 100000 in
theorem dM_call_241 : decode bM_call 241 = .ok (.aload_n 0, 1) := by decide +kernel
set_option maxRecDepth 100000 in
theorem dM_call_242 : decode bM_call 242 = .ok (.bipush 6, 2) := by decide +kernel
set_option maxRecDepth 100000 in
theorem dM_call_244 : decode bM_call 244 = .ok (.iload 12, 2) := by decide +kernel
set_option maxRecDepth 100000 in
theorem dM_call_246 : decode bM_call 246 = .ok (.iadd, 1) := by decide +kernel
set_option maxRecDepth 100000 in
theorem dM_call_247 : decode bM_call 247 = .ok (.iconst 1, 1) := by decide +kernel
set_option maxRecDepth 100000 in
theorem dM_call_248 : decode bM_call 248 = .ok (.iload 12, 2) := by decide +kernel
set_option maxRecDepth 100000 in
theorem dM_call_250 : decode bM_call 250 = .ok (.ifCond .ne 8, 3) := by decide +kernel
set_option maxRecDepth 100000 in
theorem dM_call_253 : decode bM_call 253 = .ok (.iload 8, 2) := by decide +kernel
set_option maxRecDepth 100000 in
theorem dM_call_255 : decode bM_call 255 = .ok (.goto 5, 3) := by decide +kernel
set_option maxRecDepth 100000 in
theorem dM_call_258 : decode bM_call 258 = .ok (.iload 9, 2) := by decide +kernel
set_option maxRecDepth 100000 in
theorem dM_call_260 : decode bM_call 260 = .ok (.invokevirtual 117, 3) := by decide +kernel
set_option maxRecDepth 100000 in
theorem dM_call_263 : decode bM_call 263 = .ok (.goto 32, 3) := by decide +kernel
set_option maxRecDepth 100000 in
theorem dM_call_266 : decode bM_call 266 = .ok (.aload_n 0, 1) := by decide +kernel
set_option maxRecDepth 100000 in
theorem dM_call_267 : decode bM_call 267 = .ok (.getfield 23, 3) := by decide +kernel
set_option maxRecDepth 100000 in
theorem dM_call_270 : decode bM_call 270 = .ok (.bipush 6, 2) := by decide +kernel
set_option maxRecDepth 100000 in
theorem dM_call_272 : decode bM_call 272 = .ok (.iload 12, 2) := by decide +kernel
set_option maxRecDepth 100000 in
theorem dM_call_274 : decode bM_call 274 = .ok (.iadd, 1) := by decide +kernel
set_option maxRecDepth 100000 in
theorem dM_call_275 : decode bM_call 275 = .ok (.aload_n 0, 1) := by decide +kernel
set_option maxRecDepth 100000 in
theorem dM_call_276 : decode bM_call 276 = .ok (.getfield 23, 3) := by decide +kernel
set_option maxRecDepth 100000 in
theorem dM_call_279 : decode bM_call 279 = .ok (.iload 12, 2) := by decide +kernel
set_option maxRecDepth 100000 in
theorem dM_call_281 : decode bM_call 281 = .ok (.iaload, 1) := by decide +kernel
set_option maxRecDepth 100000 in
theorem dM_call_282 : decode bM_call 282 = .ok (.iastore, 1) := by decide +kernel
set_option maxRecDepth 100000 in
theorem dM_call_283 : decode bM_call 283 = .ok (.aload_n 0, 1) := by decide +kernel
set_option maxRecDepth 100000 in
theorem dM_call_284 : decode bM_call 284 = .ok (.iload 12, 2) := by decide +kernel
set_option maxRecDepth 100000 in
theorem dM_call_286 : decode bM_call 286 = .ok (.bipush 6, 2) := by decide +kernel
set_option maxRecDepth 100000 in
theorem dM_call_288 : decode bM_call 288 = .ok (.iload 12, 2) := by decide +kernel
set_option maxRecDepth 100000 in
theorem dM_call_290 : decode bM_call 290 = .ok (.iadd, 1) := by decide +kernel
set_option maxRecDepth 100000 in
theorem dM_call_291 : decode bM_call 291 = .ok (.iconst 0, 1) := by decide +kernel
set_option maxRecDepth 100000 in
theorem dM_call_292 : decode bM_call 292 = .ok (.invokevirtual 121, 3) := by decide +kernel
set_option maxRecDepth 100000 in
theorem dM_call_295 : decode bM_call 295 = .ok (.iinc 12 1, 3) := by decide +kernel
set_option maxRecDepth 100000 in
theorem dM_call_298 : decode bM_call 298 = .ok (.goto (-71), 3) := by decide +kernel
set_option maxRecDepth 100000 in
theorem dM_call_301 : decode bM_call 301 = .ok (.aload_n 0, 1) := by decide +kernel
set_option maxRecDepth 100000 in
theorem dM_call_302 : decode bM_call 302 = .ok (.iconst 0, 1) := by decide +kernel
set_option maxRecDepth 100000 in
theorem dM_call_303 : decode bM_call 303 = .ok (.putfield 96, 3) := by decide +kernel
set_option maxRecDepth 100000 in
theorem dM_call_306 : decode bM_call 306 = .ok (.aload_n 0, 1) := by decide +kernel
set_option maxRecDepth 100000 in
theorem dM_call_307 : decode bM_call 307 = .ok (.getfield 90, 3) := by decide +kernel
set_option maxRecDepth 100000 in
theorem dM_call_310 : decode bM_call 310 = .ok (.istore 12, 2) := by decide +kernel
set_option maxRecDepth 100000 in
theorem dM_call_312 : decode bM_call 312 = .ok (.aload_n 0, 1) := by decide +kernel
set_option maxRecDepth 100000 in
theorem dM_call_313 : decode bM_call 313 = .ok (.iconst 0, 1) := by decide +kernel
set_option maxRecDepth 100000 in
theorem dM_call_314 : decode bM_call 314 = .ok (.putfield 90, 3) := by decide +kernel
set_option maxRecDepth 100000 in
theorem dM_call_317 : decode bM_call 317 = .ok (.iload 12, 2) := by decide +kernel
set_option maxRecDepth 100000 in
theorem dM_call_319 : decode bM_call 319 = .ok (.iconst 2, 1) := by decide +kernel
set_option maxRecDepth 100000 in
theorem dM_call_320 : decode bM_call 320 = .ok (.if_icmp .ne 13, 3) := by decide +kernel
set_option maxRecDepth 100000 in
theorem dM_call_323 : decode bM_call 323 = .ok (.aload_n 0, 1) := by decide +kernel
set_option maxRecDepth 100000 in
theorem dM_call_324 : decode bM_call 324 = .ok (.iload_n 1, 1) := by decide +kernel
set_option maxRecDepth 100000 in
theorem dM_call_325 : decode bM_call 325 = .ok (.iload_n 2, 1) := by decide +kernel
set_option maxRecDepth 100000 in
theorem dM_call_326 : decode bM_call 326 = .ok (.bipush 6, 2) := by decide +kernel
set_option maxRecDepth 100000 in
theorem dM_call_328 : decode bM_call 328 = .ok (.invokevirtual 144, 3) := by decide +kernel
set_option maxRecDepth 100000 in
theorem dM_call_331 : decode bM_call 331 = .ok (.lconst 0, 1) := by decide +kernel
set_option maxRecDepth 100000 in
theorem dM_call_332 : decode bM_call 332 = .ok (.lreturn, 1) := by decide +kernel
set_option maxRecDepth 100000 in
theorem dM_call_333 : decode bM_call 333 = .ok (.iload 12, 2) := by decide +kernel
set_option maxRecDepth 100000 in
theorem dM_call_335 : decode bM_call 335 = .ok (.iconst 3, 1) := by decide +kernel
set_option maxRecDepth 100000 in
theorem dM_call_336 : decode bM_call 336 = .ok (.if_icmp .ne 22, 3) := by decide +kernel
set_option maxRecDepth 100000 in
theorem dM_call_339 : decode bM_call 339 = .ok (.aload_n 0, 1) := by decide +kernel
set_option maxRecDepth 100000 in
theorem dM_call_340 : decode bM_call 340 = .ok (.iload_n 1, 1) := by decide +kernel
set_option maxRecDepth 100000 in
theorem dM_call_341 : decode bM_call 341 = .ok (.iload_n 2, 1) := by decide +kernel
set_option maxRecDepth 100000 in
theorem dM_call_342 : decode bM_call 342 = .ok (.invokevirtual 147, 3) := by decide +kernel
set_option maxRecDepth 100000 in
theorem dM_call_345 : decode bM_call 345 = .ok (.ifCond .eq 9, 3) := by decide +kernel
set_option maxRecDepth 100000 in
theorem dM_call_348 : decode bM_call 348 = .ok (.ldc2_w 150, 3) := by decide +kernel
set_option maxRecDepth 100000 in
theorem dM_call_351 : decode bM_call 351 = .ok (.goto 6, 3) := by decide +kernel
set_option maxRecDepth 100000 in
theorem dM_call_354 : decode bM_call 354 = .ok (.ldc2_w 152, 3) := by decide +kernel
set_option maxRecDepth 100000 in
theorem dM_call_357 : decode bM_call 357 = .ok (.lreturn, 1) := by decide +kernel
set_option maxRecDepth 100000 in
theorem dM_call_358 : decode bM_call 358 = .ok (.aload_n 0, 1) := by decide +kernel
set_option maxRecDepth 100000 in
theorem dM_call_359 : decode bM_call 359 = .ok (.iload_n 1, 1) := by decide +kernel
set_option maxRecDepth 100000 in
theorem dM_call_360 : decode bM_call 360 = .ok (.iload_n 2, 1) := by decide +kernel
set_option maxRecDepth 100000 in
theorem dM_call_361 : decode bM_call 361 = .ok (.iload 8, 2) := by decide +kernel
set_option maxRecDepth 100000 in
theorem dM_call_363 : decode bM_call 363 = .ok (.iload 9, 2) := by decide +kernel
set_option maxRecDepth 100000 in
theorem dM_call_365 : decode bM_call 365 = .ok (.invokevirtual 154, 3) := by decide +kernel
set_option maxRecDepth 100000 in
theorem dM_call_368 : decode bM_call 368 = .ok (.aload_n 0, 1) := by decide +kernel
set_option maxRecDepth 100000 in
theorem dM_call_369 : decode bM_call 369 = .ok (.iconst 1, 1) := by decide +kernel
set_option maxRecDepth 100000 in
theorem dM_call_370 : decode bM_call 370 = .ok (.putfield 90, 3) := by decide +kernel
set_option maxRecDepth 100000 in
theorem dM_call_373 : decode bM_call 373 = .ok (.aload_n 0, 1) := by decide +kernel
set_option maxRecDepth 100000 in
theorem dM_call_374 : decode bM_call 374 = .ok (.aload_n 0, 1) := by decide +kernel
set_option maxRecDepth 100000 in
theorem dM_call_375 : decode bM_call 375 = .ok (.getfield 130, 3) := by decide +kernel
set_option maxRecDepth 100000 in
theorem dM_call_378 : decode bM_call 378 = .ok (.iconst 1, 1) := by decide +kernel
set_option maxRecDepth 100000 in
theorem dM_call_379 : decode bM_call 379 = .ok (.isub, 1) := by decide +kernel
set_option maxRecDepth 100000 in
theorem dM_call_380 : decode bM_call 380 = .ok (.invokevirtual 158, 3) := by decide +kernel
set_option maxRecDepth 100000 in
theorem dM_call_383 : decode bM_call 383 = .ok (.lreturn, 1) := by decide +kernel
def fM_call_295 (N : Nat) (rec227 : yS → Int32 → Int32 → Int32 → Int32 → Int32 → Int32 → Option (Int64 × yS)) (τ : yS) (a1 : Int32) (a2 : Int32) (a7 : Int32) (a8 : Int32) (a9 : Int32) (a12 : Int32) : Option (Int64 × yS) :=
  rec227 τ a1 a2 a7 a8 a9 (a12 + 1)
def fM_call_260 (N : Nat) (rec227 : yS → Int32 → Int32 → Int32 → Int32 → Int32 → Int32 → Option (Int64 × yS)) (τ : yS) (a1 : Int32) (a2 : Int32) (a7 : Int32) (a8 : Int32) (a9 : Int32) (a12 : Int32) (t0 : Int32) (t1 : Int32) (t2 : Int32) : Option (Int64 × yS) :=
  xp (fM_single τ t2 t1 t0) fun s48 =>
  fM_call_295 N rec227 s48 a1 a2 a7 a8 a9 a12
def fM_call_227b (N : Nat) (rec227 : yS → Int32 → Int32 → Int32 → Int32 → Int32 → Int32 → Option (Int64 × yS)) (τ : yS) (a1 : Int32) (a2 : Int32) (a7 : Int32) (a8 : Int32) (a9 : Int32) (a12 : Int32) : Option (Int64 × yS) :=
  if a7 ≤ a12 then
  (xl (y_si τ 30 0 8 0) fun s50 =>
  xl (y_si s50 30 0 9 0) fun s51 =>
  if (s50 30 0 9) = 2 then
  (xp (fM_tell N s51 a1 a2 6) fun s65 =>
  some (0, s65))
  else
  (if (s50 30 0 9) = 3 then
  (xb (fM_check_Z2 N s51 a1 a2) fun r61 s62 =>
  if r61 = 0 then
  (some (8796093022208, s62))
  else
  (some (4398046511104, s62)))
  else
  (xp (fM_note N s51 a1 a2 a8 a9) fun s55 =>
  xl (y_si s55 30 0 9 1) fun s56 =>
  xb (fM_answered N s56 ((s56 30 0 20) - 1)) fun r58 s59 =>
  some (r58, s59))))
  else
  (if (τ 30 0 8) = 0 then
  (if a12 = 0 then
  (fM_call_260 N rec227 τ a1 a2 a7 a8 a9 a12 a8 1 (6 + a12))
  else
  (fM_call_260 N rec227 τ a1 a2 a7 a8 a9 a12 a9 1 (6 + a12)))
  else
  (if ¬ (a12 < 0 ∨ 120 ≤ a12.toNatClampNeg) then
  if ¬ ((6 + a12) < 0 ∨ 120 ≤ (6 + a12).toNatClampNeg) then
  xl (y_si τ 35 0 ((6 + a12).toNatClampNeg) (τ 35 0 a12.toNatClampNeg)) fun s69 =>
  xp (fM_copy N s69 a12 (6 + a12) 0) fun s71 =>
  fM_call_295 N rec227 s71 a1 a2 a7 a8 a9 a12
  else none
  else none))
def fM_call_227 (N : Nat) : Nat → yS → Int32 → Int32 → Int32 → Int32 → Int32 → Int32 → Option (Int64 × yS)
  | 0, _, _, _, _, _, _, _ => none
  | n + 1, τ, a1, a2, a7, a8, a9, a12 => fM_call_227b N (fM_call_227 N n) τ a1 a2 a7 a8 a9 a12
def fM_call_200 (N : Nat) (τ : yS) (a1 : Int32) (a2 : Int32) (a7 : Int32) (a8 : Int32) (a9 : Int32) (a10 : Int32) : Option (Int64 × yS) :=
  xb (fM_misuse τ 0 a1 0 a10) fun r74 s75 =>
  if 0 ≤ r74 then
  (fM_call_227 N N s75 a1 a2 a7 a8 a9 0)
  else
  (some (17592186044416 + r74.toInt64, s75))
def fM_call_162b (N : Nat) (rec162 : yS → Int32 → Int32 → Int32 → Int32 → Int32 → Int32 → Int32 → Int32 → Int32 → Option (Int64 × yS)) (τ : yS) (a1 : Int32) (a2 : Int32) (a5 : Int32) (a6 : Int32) (a7 : Int32) (a8 : Int32) (a9 : Int32) (a10 : Int32) (a11 : Int32) : Option (Int64 × yS) :=
  if (τ 47 0 ((16 : Int32).toNatClampNeg)) ≤ a11 then
  (fM_call_200 N τ a1 a2 a7 a8 a9 a10)
  else
  (if a5 = 0 then
  (fM_call_200 N τ a1 a2 a7 a8 a9 a10)
  else
  (xp (fM_willNotDo τ 16 a11 a6) fun r80 =>
  rec162 τ a1 a2 a5 a6 a7 a8 a9 (a10 ||| r80) (a11 + 1)))
def fM_call_162 (N : Nat) : Nat → yS → Int32 → Int32 → Int32 → Int32 → Int32 → Int32 → Int32 → Int32 → Int32 → Option (Int64 × yS)
  | 0, _, _, _, _, _, _, _, _, _, _ => none
  | n + 1, τ, a1, a2, a5, a6, a7, a8, a9, a10, a11 => fM_call_162b N (fM_call_162 N n) τ a1 a2 a5 a6 a7 a8 a9 a10 a11
def fM_call_157 (N : Nat) (τ : yS) (a1 : Int32) (a2 : Int32) (a5 : Int32) (a6 : Int32) (a7 : Int32) (a8 : Int32) (a9 : Int32) (t0 : Int32) : Option (Int64 × yS) :=
  fM_call_162 N N τ a1 a2 a5 a6 a7 a8 a9 t0 0
def fM_call_156 (N : Nat) (τ : yS) (a1 : Int32) (a2 : Int32) (a5 : Int32) (a6 : Int32) (a7 : Int32) (a8 : Int32) (a9 : Int32) : Option (Int64 × yS) :=
  fM_call_157 N τ a1 a2 a5 a6 a7 a8 a9 0
def fM_call_134 (N : Nat) (τ : yS) (a1 : Int32) (a2 : Int32) (a5 : Int32) (a6 : Int32) (a7 : Int32) (a8 : Int32) (t0 : Int32) : Option (Int64 × yS) :=
  if (τ 30 0 8) ≤ 0 then
  (fM_call_156 N τ a1 a2 a5 a6 a7 a8 t0)
  else
  (if (τ 30 0 8) = a7 then
  (fM_call_156 N τ a1 a2 a5 a6 a7 a8 t0)
  else
  (fM_call_157 N τ a1 a2 a5 a6 a7 a8 t0 1))
def fM_call_120 (N : Nat) (τ : yS) (a1 : Int32) (a2 : Int32) (a4 : Int32) (a5 : Int32) (a6 : Int32) (a7 : Int32) (t0 : Int32) : Option (Int64 × yS) :=
  if a7 ≤ 1 then
  (fM_call_134 N τ a1 a2 a5 a6 a7 t0 0)
  else
  (fM_call_134 N τ a1 a2 a5 a6 a7 t0 a4)
def fM_call_93 (N : Nat) (τ : yS) (a1 : Int32) (a2 : Int32) (a3 : Int32) (a4 : Int32) (a5 : Int32) : Option (Int64 × yS) :=
  xp (fM_shape τ a1 a2) fun r85 =>
  if ¬ (r85 < 0 ∨ 12 ≤ r85.toNatClampNeg) then
  if (τ 31 0 r85.toNatClampNeg) ≤ 0 then
  (fM_call_120 N τ a1 a2 a4 a5 r85 (τ 31 0 r85.toNatClampNeg) 0)
  else
  (fM_call_120 N τ a1 a2 a4 a5 r85 (τ 31 0 r85.toNatClampNeg) a3)
  else none
def fM_call_64 (N : Nat) (τ : yS) (a1 : Int32) (a2 : Int32) (a3 : Int32) (a4 : Int32) (a5 : Int32) : Option (Int64 × yS) :=
  if (τ 30 0 9) = 2 then
  (fM_call_93 N τ a1 a2 a3 a4 a5)
  else
  (if (τ 30 0 9) = 3 then
  (fM_call_93 N τ a1 a2 a3 a4 a5)
  else
  (if (τ 30 0 20) = 40 then
  (some (17592186044414, τ))
  else
  (fM_call_93 N τ a1 a2 a3 a4 a5)))
def fM_call_48 (N : Nat) (τ : yS) (a1 : Int32) (a2 : Int32) (a3 : Int32) (a4 : Int32) (t0 : Int32) : Option (Int64 × yS) :=
  if t0 = 0 then
  (fM_call_64 N τ a1 a2 a3 a4 t0)
  else
  (if (τ 30 0 29) = 16 then
  (some (17592186044414, τ))
  else
  (fM_call_64 N τ a1 a2 a3 a4 t0))
def fM_call_47 (N : Nat) (τ : yS) (a1 : Int32) (a2 : Int32) (a3 : Int32) (a4 : Int32) : Option (Int64 × yS) :=
  fM_call_48 N τ a1 a2 a3 a4 0
def fM_call (N : Nat) (τ : yS) (a1 : Int32) (a2 : Int32) (a3 : Int32) (a4 : Int32) : Option (Int64 × yS) :=
  if (fM_in a1 0 ((τ 30 0 4) - 1)) = 0 then
  (some (17592186044415, τ))
  else
  (if (fM_in a2 0 3) = 0 then
  (some (17592186044415, τ))
  else
  (if (τ 30 0 9) = 2 then
  (if (τ 30 0 10) = a1 then
  (fM_call_48 N τ a1 a2 a3 a4 1)
  else
  (fM_call_47 N τ a1 a2 a3 a4))
  else
  (fM_call_47 N τ a1 a2 a3 a4)))
set_option maxHeartbeats 4000000 in
set_option maxRecDepth 100000 in
theorem wM_call_295 {p : Program} {l : Launch} {e : Env} {R : Room} {s : State} {m : MethodId} {args : Array Value} {below : List Frame} {meth : Method} {c : Code} {E : xE} {A : Nat → Prop} {σ : xS} (C : xC p s m args meth c R E A bM_call 13 yM_call (some .long) 3 0 0) (N : Nat) (τ : yS) (rec227 : yS → Int32 → Int32 → Int32 → Int32 → Int32 → Int32 → Option (Int64 × yS)) (hrec227 : ∀ (τ : yS) (a1 : Int32) (a2 : Int32) (a7 : Int32) (a8 : Int32) (a9 : Int32) (a12 : Int32) (res : Int64 × yS), rec227 τ a1 a2 a7 a8 a9 a12 = some res → ∀ (H : Heap) (locs : List Loc) (ls : Array Slot), xW E A s σ τ H locs → lv_has ls 13 [(0, .ref (E.2.2.1 30 0)), (1, .int a1), (2, .int a2), (7, .int a7), (8, .int a8), (9, .int a9), (12, .int a12)] → W p l e R s m args below meth c H locs 0 0 (MQ below (xQ E A (some (.long res.1)) σ res.2) args s 0 0 A) (F0 m 227 ls [])) (a1 : Int32) (a2 : Int32) (a7 : Int32) (a8 : Int32) (a9 : Int32) (a12 : Int32) (res : Int64 × yS) (hf : fM_call_295 N rec227 τ a1 a2 a7 a8 a9 a12 = some res) (H : Heap) (locs : List Loc) (ls : Array Slot) (hw : xW E A s σ τ H locs) (hl : lv_has ls 13 [(0, .ref (E.2.2.1 30 0)), (1, .int a1), (2, .int a2), (7, .int a7), (8, .int a8), (9, .int a9), (12, .int a12)]) : W p l e R s m args below meth c H locs 0 0 (MQ below (xQ E A (some (.long res.1)) σ res.2) args s 0 0 A) (F0 m 295 ls []) := by
  have hx := C.1
  have hb := C.2.1
  unfold fM_call_295 at hf
  refine lv_iinc (v := a12 + 1) (lv' := [(12, .int (a12 + 1)), (0, .ref (E.2.2.1 30 0)), (1, .int a1), (2, .int a2), (7, .int a7), (8, .int a8), (9, .int a9)]) hx hb dM_call_295 hl (k := 6) rfl rfl (by decide) rfl (fun ls hl => ?_)
  refine lv_goto (tgt := 227) hx hb dM_call_298 (by decide) ?_
  exact hrec227 τ a1 a2 a7 a8 a9 (a12 + 1) res hf H locs ls hw (lv_sub hl [1, 2, 3, 4, 5, 6, 0] rfl)
set_option maxHeartbeats 4000000 in
set_option maxRecDepth 100000 in
theorem wM_call_260 {p : Program} {l : Launch} {e : Env} {R : Room} {s : State} {m : MethodId} {args : Array Value} {below : List Frame} {meth : Method} {c : Code} {E : xE} {A : Nat → Prop} {σ : xS} (C : xC p s m args meth c R E A bM_call 13 yM_call (some .long) 3 0 0) (N : Nat) (τ : yS) (rec227 : yS → Int32 → Int32 → Int32 → Int32 → Int32 → Int32 → Option (Int64 × yS)) (hrec227 : ∀ (τ : yS) (a1 : Int32) (a2 : Int32) (a7 : Int32) (a8 : Int32) (a9 : Int32) (a12 : Int32) (res : Int64 × yS), rec227 τ a1 a2 a7 a8 a9 a12 = some res → ∀ (H : Heap) (locs : List Loc) (ls : Array Slot), xW E A s σ τ H locs → lv_has ls 13 [(0, .ref (E.2.2.1 30 0)), (1, .int a1), (2, .int a2), (7, .int a7), (8, .int a8), (9, .int a9), (12, .int a12)] → W p l e R s m args below meth c H locs 0 0 (MQ below (xQ E A (some (.long res.1)) σ res.2) args s 0 0 A) (F0 m 227 ls [])) (a1 : Int32) (a2 : Int32) (a7 : Int32) (a8 : Int32) (a9 : Int32) (a12 : Int32) (t0 : Int32) (t1 : Int32) (t2 : Int32) (res : Int64 × yS) (hf : fM_call_260 N rec227 τ a1 a2 a7 a8 a9 a12 t0 t1 t2 = some res) (H : Heap) (locs : List Loc) (ls : Array Slot) (hw : xW E A s σ τ H locs) (hl : lv_has ls 13 [(0, .ref (E.2.2.1 30 0)), (1, .int a1), (2, .int a2), (7, .int a7), (8, .int a8), (9, .int a9), (12, .int a12)]) : W p l e R s m args below meth c H locs 0 0 (MQ below (xQ E A (some (.long res.1)) σ res.2) args s 0 0 A) (F0 m 260 ls [.int t0, .int t1, .int t2, .ref (E.2.2.1 30 0)]) := by
  have hx := C.1
  have hb := C.2.1
  unfold fM_call_260 at hf
  obtain ⟨s48, h47, hf⟩ := x_p hf
  refine x_callV (As := [.int t2, .int t1, .int t0]) (rest := []) (st1 := []) C hw (cM_single l E τ σ t2 t1 t0 s48 h47) kM_117 (x_recvY C hw 30 0 at_30 rfl rfl) (by decide) rfl rfl hl.1 (lv_room (Nat.le_of_ble_eq_true rfl)) dM_call_260 ⟨by decide, by decide⟩ rfl (fun H locs hw => ?_)
  refine lv_goto (tgt := 295) hx hb dM_call_263 (by decide) ?_
  exact wM_call_295 C N s48 rec227 hrec227 a1 a2 a7 a8 a9 a12 res hf H locs ls hw (lv_sub hl [0, 1, 2, 3, 4, 5, 6] rfl)
set_option maxHeartbeats 4000000 in
set_option maxRecDepth 100000 in
theorem wM_call_227b {p : Program} {l : Launch} {e : Env} {R : Room} {s : State} {m : MethodId} {args : Array Value} {below : List Frame} {meth : Method} {c : Code} {E : xE} {A : Nat → Prop} {σ : xS} (C : xC p s m args meth c R E A bM_call 13 yM_call (some .long) 3 0 0) (N : Nat) (τ : yS) (rec227 : yS → Int32 → Int32 → Int32 → Int32 → Int32 → Int32 → Option (Int64 × yS)) (hrec227 : ∀ (τ : yS) (a1 : Int32) (a2 : Int32) (a7 : Int32) (a8 : Int32) (a9 : Int32) (a12 : Int32) (res : Int64 × yS), rec227 τ a1 a2 a7 a8 a9 a12 = some res → ∀ (H : Heap) (locs : List Loc) (ls : Array Slot), xW E A s σ τ H locs → lv_has ls 13 [(0, .ref (E.2.2.1 30 0)), (1, .int a1), (2, .int a2), (7, .int a7), (8, .int a8), (9, .int a9), (12, .int a12)] → W p l e R s m args below meth c H locs 0 0 (MQ below (xQ E A (some (.long res.1)) σ res.2) args s 0 0 A) (F0 m 227 ls [])) (a1 : Int32) (a2 : Int32) (a7 : Int32) (a8 : Int32) (a9 : Int32) (a12 : Int32) (res : Int64 × yS) (hf : fM_call_227b N rec227 τ a1 a2 a7 a8 a9 a12 = some res) (H : Heap) (locs : List Loc) (ls : Array Slot) (hw : xW E A s σ τ H locs) (hl : lv_has ls 13 [(0, .ref (E.2.2.1 30 0)), (1, .int a1), (2, .int a2), (7, .int a7), (8, .int a8), (9, .int a9), (12, .int a12)]) : W p l e R s m args below meth c H locs 0 0 (MQ below (xQ E A (some (.long res.1)) σ res.2) args s 0 0 A) (F0 m 227 ls []) := by
  have hx := C.1
  have hb := C.2.1
  unfold fM_call_227b at hf
  refine lv_iload hx hb dM_call_227 (lv_at hl 6 rfl) ?_
  refine lv_iload hx hb dM_call_229 (lv_at hl 3 rfl) ?_
  refine lv_icmp_ge (tgt := 301) hx hb dM_call_231 (by decide) (fun c49 => ?_) (fun c49 => ?_)
  · replace hf := x_ip c49 hf
    refine lv_aload_n hx hb dM_call_301 rfl (lv_at hl 0 rfl) ?_
    refine lv_iconst (v := 0) hx hb dM_call_302 (by decide) ?_
    refine y_puti C hw 30 0 8 at_30 rfl rfl rfl ⟨rfl, rfl⟩ ⟨by decide, by decide⟩ (Nat.le_of_ble_eq_true rfl) wM_96 dM_call_303 (fun H locs hw => ?_)
    obtain ⟨s50, es50, hf⟩ := x_l hf
    rw [← es50] at hw
    refine lv_aload_n hx hb dM_call_306 rfl (lv_at hl 0 rfl) ?_
    refine y_get C hw 30 0 9 (v := .int (s50 30 0 9)) at_30 rfl rfl ⟨by decide, by decide⟩ wM_90 rfl dM_call_307 ?_
    refine lv_istore (lv' := [(12, .int (s50 30 0 9)), (0, .ref (E.2.2.1 30 0)), (1, .int a1), (2, .int a2), (7, .int a7), (8, .int a8), (9, .int a9)]) hx hb dM_call_310 hl (by decide) rfl (fun ls hl => ?_)
    refine lv_aload_n hx hb dM_call_312 rfl (lv_at hl 1 rfl) ?_
    refine lv_iconst (v := 0) hx hb dM_call_313 (by decide) ?_
    refine y_puti C hw 30 0 9 at_30 rfl rfl rfl ⟨rfl, rfl⟩ ⟨by decide, by decide⟩ (Nat.le_of_ble_eq_true rfl) wM_90 dM_call_314 (fun H locs hw => ?_)
    obtain ⟨s51, es51, hf⟩ := x_l hf
    rw [← es51] at hw
    refine lv_iload hx hb dM_call_317 (lv_at hl 0 rfl) ?_
    refine lv_iconst (v := 2) hx hb dM_call_319 (by decide) ?_
    refine lv_icmp_ne (tgt := 333) hx hb dM_call_320 (by decide) (fun c52 => ?_) (fun c52 => ?_)
    · replace hf := x_in c52 hf
      refine lv_iload hx hb dM_call_333 (lv_at hl 0 rfl) ?_
      refine lv_iconst (v := 3) hx hb dM_call_335 (by decide) ?_
      refine lv_icmp_ne (tgt := 358) hx hb dM_call_336 (by decide) (fun c53 => ?_) (fun c53 => ?_)
      · replace hf := x_in c53 hf
        refine lv_aload_n hx hb dM_call_358 rfl (lv_at hl 1 rfl) ?_
        refine lv_iload_n hx hb dM_call_359 rfl (lv_at hl 2 rfl) ?_
        refine lv_iload_n hx hb dM_call_360 rfl (lv_at hl 3 rfl) ?_
        refine lv_iload hx hb dM_call_361 (lv_at hl 5 rfl) ?_
        refine lv_iload hx hb dM_call_363 (lv_at hl 6 rfl) ?_
        obtain ⟨s55, h54, hf⟩ := x_p hf
        refine x_callV (As := [.int a1, .int a2, .int a8, .int a9]) (rest := []) (st1 := []) C hw (cM_note l E N s51 σ a1 a2 a8 a9 s55 h54) kM_154 (x_recvY C hw 30 0 at_30 rfl rfl) (by decide) rfl rfl hl.1 (lv_room (Nat.le_of_ble_eq_true rfl)) dM_call_365 ⟨by decide, by decide⟩ rfl (fun H locs hw => ?_)
        refine lv_aload_n hx hb dM_call_368 rfl (lv_at hl 1 rfl) ?_
        refine lv_iconst (v := 1) hx hb dM_call_369 (by decide) ?_
        refine y_puti C hw 30 0 9 at_30 rfl rfl rfl ⟨rfl, rfl⟩ ⟨by decide, by decide⟩ (Nat.le_of_ble_eq_true rfl) wM_90 dM_call_370 (fun H locs hw => ?_)
        obtain ⟨s56, es56, hf⟩ := x_l hf
        rw [← es56] at hw
        refine lv_aload_n hx hb dM_call_373 rfl (lv_at hl 1 rfl) ?_
        refine lv_aload_n hx hb dM_call_374 rfl (lv_at hl 1 rfl) ?_
        refine y_get C hw 30 0 20 (v := .int (s56 30 0 20)) at_30 rfl rfl ⟨by decide, by decide⟩ wM_130 rfl dM_call_375 ?_
        refine lv_iconst (v := 1) hx hb dM_call_378 (by decide) ?_
        refine lv_isub hx hb dM_call_379 ?_
        obtain ⟨r58, s59, h57, hf⟩ := x_b hf
        refine x_callV (As := [.int ((s56 30 0 20) - 1)]) (rest := []) (st1 := [.long r58]) C hw (cM_answered l E N s56 σ ((s56 30 0 20) - 1) (r58, s59) h57) kM_158 (x_recvY C hw 30 0 at_30 rfl rfl) (by decide) rfl rfl hl.1 (lv_room (Nat.le_of_ble_eq_true rfl)) dM_call_380 ⟨by decide, by decide⟩ rfl (fun H locs hw => ?_)
        obtain rfl := Option.some.inj hf
        exact x_lret C hw dM_call_383
      · replace hf := x_ip c53 hf
        refine lv_aload_n hx hb dM_call_339 rfl (lv_at hl 1 rfl) ?_
        refine lv_iload_n hx hb dM_call_340 rfl (lv_at hl 2 rfl) ?_
        refine lv_iload_n hx hb dM_call_341 rfl (lv_at hl 3 rfl) ?_
        obtain ⟨r61, s62, h60, hf⟩ := x_b hf
        refine x_callV (As := [.int a1, .int a2]) (rest := []) (st1 := [.int r61]) C hw (cM_check_Z2 l E N s51 σ a1 a2 (r61, s62) h60) kM_147 (x_recvY C hw 30 0 at_30 rfl rfl) (by decide) rfl rfl hl.1 (lv_room (Nat.le_of_ble_eq_true rfl)) dM_call_342 ⟨by decide, by decide⟩ rfl (fun H locs hw => ?_)
        refine lv_if_eq (tgt := 354) hx hb dM_call_345 (by decide) (fun c63 => ?_) (fun c63 => ?_)
        · replace hf := x_ip c63 hf
          refine lv_ldc2 (v := 8796093022208) hx hb C.own (C.tb wM_152) dM_call_354 ?_
          obtain rfl := Option.some.inj hf
          exact x_lret C hw dM_call_357
        · replace hf := x_in c63 hf
          refine lv_ldc2 (v := 4398046511104) hx hb C.own (C.tb wM_150) dM_call_348 ?_
          refine lv_goto (tgt := 357) hx hb dM_call_351 (by decide) ?_
          obtain rfl := Option.some.inj hf
          exact x_lret C hw dM_call_357
    · replace hf := x_ip c52 hf
      refine lv_aload_n hx hb dM_call_323 rfl (lv_at hl 1 rfl) ?_
      refine lv_iload_n hx hb dM_call_324 rfl (lv_at hl 2 rfl) ?_
      refine lv_iload_n hx hb dM_call_325 rfl (lv_at hl 3 rfl) ?_
      refine lv_bipush (v := 6) hx hb dM_call_326 (by decide) ?_
      obtain ⟨s65, h64, hf⟩ := x_p hf
      refine x_callV (As := [.int a1, .int a2, .int 6]) (rest := []) (st1 := []) C hw (cM_tell l E N s51 σ a1 a2 6 s65 h64) kM_144 (x_recvY C hw 30 0 at_30 rfl rfl) (by decide) rfl rfl hl.1 (lv_room (Nat.le_of_ble_eq_true rfl)) dM_call_328 ⟨by decide, by decide⟩ rfl (fun H locs hw => ?_)
      refine lv_lconst (v := 0) hx hb dM_call_331 (by decide) ?_
      obtain rfl := Option.some.inj hf
      exact x_lret C hw dM_call_332
  · replace hf := x_in c49 hf
    refine lv_aload_n hx hb dM_call_234 rfl (lv_at hl 0 rfl) ?_
    refine y_get C hw 30 0 8 (v := .int (τ 30 0 8)) at_30 rfl rfl ⟨by decide, by decide⟩ wM_96 rfl dM_call_235 ?_
    refine lv_if_ne (tgt := 266) hx hb dM_call_238 (by decide) (fun c66 => ?_) (fun c66 => ?_)
    · replace hf := x_in c66 hf
      refine lv_aload_n hx hb dM_call_266 rfl (lv_at hl 0 rfl) ?_
      refine y_get C hw 30 0 5 (v := .ref (E.2.2.1 35 0)) at_30 rfl rfl ⟨by decide, by decide⟩ wM_23 rfl dM_call_267 ?_
      refine lv_bipush (v := 6) hx hb dM_call_270 (by decide) ?_
      refine lv_iload hx hb dM_call_272 (lv_at hl 6 rfl) ?_
      refine lv_iadd hx hb dM_call_274 ?_
      refine lv_aload_n hx hb dM_call_275 rfl (lv_at hl 0 rfl) ?_
      refine y_get C hw 30 0 5 (v := .ref (E.2.2.1 35 0)) at_30 rfl rfl ⟨by decide, by decide⟩ wM_23 rfl dM_call_276 ?_
      refine lv_iload hx hb dM_call_279 (lv_at hl 6 rfl) ?_
      obtain ⟨g67, hf⟩ := x_g hf
      refine y_ild C hw 35 0 at_35 rfl g67 dM_call_281 ?_
      obtain ⟨g68, hf⟩ := x_g hf
      refine y_ist C hw 35 0 at_35 rfl rfl g68 dM_call_282 (fun H locs hw => ?_)
      obtain ⟨s69, es69, hf⟩ := x_l hf
      rw [← es69] at hw
      refine lv_aload_n hx hb dM_call_283 rfl (lv_at hl 0 rfl) ?_
      refine lv_iload hx hb dM_call_284 (lv_at hl 6 rfl) ?_
      refine lv_bipush (v := 6) hx hb dM_call_286 (by decide) ?_
      refine lv_iload hx hb dM_call_288 (lv_at hl 6 rfl) ?_
      refine lv_iadd hx hb dM_call_290 ?_
      refine lv_iconst (v := 0) hx hb dM_call_291 (by decide) ?_
      obtain ⟨s71, h70, hf⟩ := x_p hf
      refine x_callV (As := [.int a12, .int (6 + a12), .int 0]) (rest := []) (st1 := []) C hw (cM_copy l E N s69 σ a12 (6 + a12) 0 s71 h70) kM_121 (x_recvY C hw 30 0 at_30 rfl rfl) (by decide) rfl rfl hl.1 (lv_room (Nat.le_of_ble_eq_true rfl)) dM_call_292 ⟨by decide, by decide⟩ rfl (fun H locs hw => ?_)
      exact wM_call_295 C N s71 rec227 hrec227 a1 a2 a7 a8 a9 a12 res hf H locs ls hw (lv_sub hl [0, 1, 2, 3, 4, 5, 6] rfl)
    · replace hf := x_ip c66 hf
      refine lv_aload_n hx hb dM_call_241 rfl (lv_at hl 0 rfl) ?_
      refine lv_bipush (v := 6) hx hb dM_call_242 (by decide) ?_
      refine lv_iload hx hb dM_call_244 (lv_at hl 6 rfl) ?_
      refine lv_iadd hx hb dM_call_246 ?_
      refine lv_iconst (v := 1) hx hb dM_call_247 (by decide) ?_
      refine lv_iload hx hb dM_call_248 (lv_at hl 6 rfl) ?_
      refine lv_if_ne (tgt := 258) hx hb dM_call_250 (by decide) (fun c72 => ?_) (fun c72 => ?_)
      · replace hf := x_in c72 hf
        refine lv_iload hx hb dM_call_258 (lv_at hl 5 rfl) ?_
        exact wM_call_260 C N τ rec227 hrec227 a1 a2 a7 a8 a9 a12 a9 1 (6 + a12) res hf H locs ls hw (lv_sub hl [0, 1, 2, 3, 4, 5, 6] rfl)
      · replace hf := x_ip c72 hf
        refine lv_iload hx hb dM_call_253 (lv_at hl 4 rfl) ?_
        refine lv_goto (tgt := 260) hx hb dM_call_255 (by decide) ?_
        exact wM_call_260 C N τ rec227 hrec227 a1 a2 a7 a8 a9 a12 a8 1 (6 + a12) res hf H locs ls hw (lv_sub hl [0, 1, 2, 3, 4, 5, 6] rfl)
set_option maxHeartbeats 4000000 in
set_option maxRecDepth 100000 in
theorem wM_call_227 {p : Program} {l : Launch} {e : Env} {R : Room} {s : State} {m : MethodId} {args : Array Value} {below : List Frame} {meth : Method} {c : Code} {E : xE} {A : Nat → Prop} {σ : xS} (C : xC p s m args meth c R E A bM_call 13 yM_call (some .long) 3 0 0) (N : Nat) (n : Nat) : ∀ (τ : yS) (a1 : Int32) (a2 : Int32) (a7 : Int32) (a8 : Int32) (a9 : Int32) (a12 : Int32) (res : Int64 × yS), fM_call_227 N n τ a1 a2 a7 a8 a9 a12 = some res → ∀ (H : Heap) (locs : List Loc) (ls : Array Slot), xW E A s σ τ H locs → lv_has ls 13 [(0, .ref (E.2.2.1 30 0)), (1, .int a1), (2, .int a2), (7, .int a7), (8, .int a8), (9, .int a9), (12, .int a12)] → W p l e R s m args below meth c H locs 0 0 (MQ below (xQ E A (some (.long res.1)) σ res.2) args s 0 0 A) (F0 m 227 ls []) := by
  induction n with
  | zero => intro τ a1 a2 a7 a8 a9 a12 res hf; cases hf
  | succ n ih =>
    intro τ a1 a2 a7 a8 a9 a12 res hf H locs ls hw hl
    exact wM_call_227b C N τ (fM_call_227 N n) ih a1 a2 a7 a8 a9 a12 res hf H locs ls hw hl
set_option maxHeartbeats 4000000 in
set_option maxRecDepth 100000 in
theorem wM_call_200 {p : Program} {l : Launch} {e : Env} {R : Room} {s : State} {m : MethodId} {args : Array Value} {below : List Frame} {meth : Method} {c : Code} {E : xE} {A : Nat → Prop} {σ : xS} (C : xC p s m args meth c R E A bM_call 13 yM_call (some .long) 3 0 0) (N : Nat) (τ : yS) (a1 : Int32) (a2 : Int32) (a7 : Int32) (a8 : Int32) (a9 : Int32) (a10 : Int32) (res : Int64 × yS) (hf : fM_call_200 N τ a1 a2 a7 a8 a9 a10 = some res) (H : Heap) (locs : List Loc) (ls : Array Slot) (hw : xW E A s σ τ H locs) (hl : lv_has ls 13 [(0, .ref (E.2.2.1 30 0)), (1, .int a1), (2, .int a2), (7, .int a7), (8, .int a8), (9, .int a9), (10, .int a10)]) : W p l e R s m args below meth c H locs 0 0 (MQ below (xQ E A (some (.long res.1)) σ res.2) args s 0 0 A) (F0 m 200 ls []) := by
  have hx := C.1
  have hb := C.2.1
  unfold fM_call_200 at hf
  refine lv_aload_n hx hb dM_call_200 rfl (lv_at hl 0 rfl) ?_
  refine lv_iconst (v := 0) hx hb dM_call_201 (by decide) ?_
  refine lv_iload_n hx hb dM_call_202 rfl (lv_at hl 1 rfl) ?_
  refine lv_iconst (v := 0) hx hb dM_call_203 (by decide) ?_
  refine lv_iload hx hb dM_call_204 (lv_at hl 6 rfl) ?_
  obtain ⟨r74, s75, h73, hf⟩ := x_b hf
  refine x_callV (As := [.int 0, .int a1, .int 0, .int a10]) (rest := []) (st1 := [.int r74]) C hw (cM_misuse l E τ σ 0 a1 0 a10 (r74, s75) h73) kM_102 (x_recvY C hw 30 0 at_30 rfl rfl) (by decide) rfl rfl hl.1 (lv_room (Nat.le_of_ble_eq_true rfl)) dM_call_206 ⟨by decide, by decide⟩ rfl (fun H locs hw => ?_)
  refine lv_istore (lv' := [(11, .int r74), (0, .ref (E.2.2.1 30 0)), (1, .int a1), (2, .int a2), (7, .int a7), (8, .int a8), (9, .int a9), (10, .int a10)]) hx hb dM_call_209 hl (by decide) rfl (fun ls hl => ?_)
  refine lv_iload hx hb dM_call_211 (lv_at hl 0 rfl) ?_
  refine lv_if_ge (tgt := 224) hx hb dM_call_213 (by decide) (fun c76 => ?_) (fun c76 => ?_)
  · replace hf := x_ip c76 hf
    refine lv_iconst (v := 0) hx hb dM_call_224 (by decide) ?_
    refine lv_istore (lv' := [(12, .int 0), (11, .int r74), (0, .ref (E.2.2.1 30 0)), (1, .int a1), (2, .int a2), (7, .int a7), (8, .int a8), (9, .int a9), (10, .int a10)]) hx hb dM_call_225 hl (by decide) rfl (fun ls hl => ?_)
    exact wM_call_227 C N N s75 a1 a2 a7 a8 a9 0 res hf H locs ls hw (lv_sub hl [2, 3, 4, 5, 6, 7, 0] rfl)
  · replace hf := x_in c76 hf
    refine lv_ldc2 (v := 17592186044416) hx hb C.own (C.tb wM_142) dM_call_216 ?_
    refine lv_iload hx hb dM_call_219 (lv_at hl 0 rfl) ?_
    refine lv_i2l hx hb dM_call_221 rfl ?_
    refine lv_ladd hx hb dM_call_222 ?_
    obtain rfl := Option.some.inj hf
    exact x_lret C hw dM_call_223
set_option maxHeartbeats 4000000 in
set_option maxRecDepth 100000 in
theorem wM_call_162b {p : Program} {l : Launch} {e : Env} {R : Room} {s : State} {m : MethodId} {args : Array Value} {below : List Frame} {meth : Method} {c : Code} {E : xE} {A : Nat → Prop} {σ : xS} (C : xC p s m args meth c R E A bM_call 13 yM_call (some .long) 3 0 0) (N : Nat) (τ : yS) (rec162 : yS → Int32 → Int32 → Int32 → Int32 → Int32 → Int32 → Int32 → Int32 → Int32 → Option (Int64 × yS)) (hrec162 : ∀ (τ : yS) (a1 : Int32) (a2 : Int32) (a5 : Int32) (a6 : Int32) (a7 : Int32) (a8 : Int32) (a9 : Int32) (a10 : Int32) (a11 : Int32) (res : Int64 × yS), rec162 τ a1 a2 a5 a6 a7 a8 a9 a10 a11 = some res → ∀ (H : Heap) (locs : List Loc) (ls : Array Slot), xW E A s σ τ H locs → lv_has ls 13 [(0, .ref (E.2.2.1 30 0)), (1, .int a1), (2, .int a2), (5, .int a5), (6, .int a6), (7, .int a7), (8, .int a8), (9, .int a9), (10, .int a10), (11, .int a11)] → W p l e R s m args below meth c H locs 0 0 (MQ below (xQ E A (some (.long res.1)) σ res.2) args s 0 0 A) (F0 m 162 ls [])) (a1 : Int32) (a2 : Int32) (a5 : Int32) (a6 : Int32) (a7 : Int32) (a8 : Int32) (a9 : Int32) (a10 : Int32) (a11 : Int32) (res : Int64 × yS) (hf : fM_call_162b N rec162 τ a1 a2 a5 a6 a7 a8 a9 a10 a11 = some res) (H : Heap) (locs : List Loc) (ls : Array Slot) (hw : xW E A s σ τ H locs) (hl : lv_has ls 13 [(0, .ref (E.2.2.1 30 0)), (1, .int a1), (2, .int a2), (5, .int a5), (6, .int a6), (7, .int a7), (8, .int a8), (9, .int a9), (10, .int a10), (11, .int a11)]) : W p l e R s m args below meth c H locs 0 0 (MQ below (xQ E A (some (.long res.1)) σ res.2) args s 0 0 A) (F0 m 162 ls []) := by
  have hx := C.1
  have hb := C.2.1
  unfold fM_call_162b at hf
  refine lv_iload hx hb dM_call_162 (lv_at hl 9 rfl) ?_
  refine lv_aload_n hx hb dM_call_164 rfl (lv_at hl 0 rfl) ?_
  refine y_get C hw 30 0 24 (v := .ref (E.2.2.1 47 0)) at_30 rfl rfl ⟨by decide, by decide⟩ wM_59 rfl dM_call_165 ?_
  refine lv_bipush (v := 16) hx hb dM_call_168 (by decide) ?_
  refine y_ild C hw 47 0 at_47 rfl (by decide) dM_call_170 ?_
  refine lv_icmp_ge (tgt := 200) hx hb dM_call_171 (by decide) (fun c77 => ?_) (fun c77 => ?_)
  · replace hf := x_ip c77 hf
    exact wM_call_200 C N τ a1 a2 a7 a8 a9 a10 res hf H locs ls hw (lv_sub hl [0, 1, 2, 5, 6, 7, 8] rfl)
  · replace hf := x_in c77 hf
    refine lv_iload hx hb dM_call_174 (lv_at hl 3 rfl) ?_
    refine lv_if_eq (tgt := 200) hx hb dM_call_176 (by decide) (fun c78 => ?_) (fun c78 => ?_)
    · replace hf := x_ip c78 hf
      exact wM_call_200 C N τ a1 a2 a7 a8 a9 a10 res hf H locs ls hw (lv_sub hl [0, 1, 2, 5, 6, 7, 8] rfl)
    · replace hf := x_in c78 hf
      refine lv_iload hx hb dM_call_179 (lv_at hl 8 rfl) ?_
      refine lv_aload_n hx hb dM_call_181 rfl (lv_at hl 0 rfl) ?_
      refine lv_bipush (v := 16) hx hb dM_call_182 (by decide) ?_
      refine lv_iload hx hb dM_call_184 (lv_at hl 9 rfl) ?_
      refine lv_iload hx hb dM_call_186 (lv_at hl 4 rfl) ?_
      obtain ⟨r80, h79, hf⟩ := x_p hf
      refine x_callV (As := [.int 16, .int a11, .int a6]) (rest := [.int a10]) (st1 := [.int r80, .int a10]) C hw (cM_willNotDo l E τ σ 16 a11 a6 r80 h79) kM_139 (x_recvY C hw 30 0 at_30 rfl rfl) (by decide) rfl rfl hl.1 (lv_room (Nat.le_of_ble_eq_true rfl)) dM_call_188 ⟨by decide, by decide⟩ rfl (fun H locs hw => ?_)
      refine lv_ior hx hb dM_call_191 ?_
      refine lv_istore (lv' := [(10, .int (a10 ||| r80)), (0, .ref (E.2.2.1 30 0)), (1, .int a1), (2, .int a2), (5, .int a5), (6, .int a6), (7, .int a7), (8, .int a8), (9, .int a9), (11, .int a11)]) hx hb dM_call_192 hl (by decide) rfl (fun ls hl => ?_)
      refine lv_iinc (v := a11 + 1) (lv' := [(11, .int (a11 + 1)), (10, .int (a10 ||| r80)), (0, .ref (E.2.2.1 30 0)), (1, .int a1), (2, .int a2), (5, .int a5), (6, .int a6), (7, .int a7), (8, .int a8), (9, .int a9)]) hx hb dM_call_194 hl (k := 9) rfl rfl (by decide) rfl (fun ls hl => ?_)
      refine lv_goto (tgt := 162) hx hb dM_call_197 (by decide) ?_
      exact hrec162 τ a1 a2 a5 a6 a7 a8 a9 (a10 ||| r80) (a11 + 1) res hf H locs ls hw (lv_sub hl [2, 3, 4, 5, 6, 7, 8, 9, 1, 0] rfl)
set_option maxHeartbeats 4000000 in
set_option maxRecDepth 100000 in
theorem wM_call_162 {p : Program} {l : Launch} {e : Env} {R : Room} {s : State} {m : MethodId} {args : Array Value} {below : List Frame} {meth : Method} {c : Code} {E : xE} {A : Nat → Prop} {σ : xS} (C : xC p s m args meth c R E A bM_call 13 yM_call (some .long) 3 0 0) (N : Nat) (n : Nat) : ∀ (τ : yS) (a1 : Int32) (a2 : Int32) (a5 : Int32) (a6 : Int32) (a7 : Int32) (a8 : Int32) (a9 : Int32) (a10 : Int32) (a11 : Int32) (res : Int64 × yS), fM_call_162 N n τ a1 a2 a5 a6 a7 a8 a9 a10 a11 = some res → ∀ (H : Heap) (locs : List Loc) (ls : Array Slot), xW E A s σ τ H locs → lv_has ls 13 [(0, .ref (E.2.2.1 30 0)), (1, .int a1), (2, .int a2), (5, .int a5), (6, .int a6), (7, .int a7), (8, .int a8), (9, .int a9), (10, .int a10), (11, .int a11)] → W p l e R s m args below meth c H locs 0 0 (MQ below (xQ E A (some (.long res.1)) σ res.2) args s 0 0 A) (F0 m 162 ls []) := by
  induction n with
  | zero => intro τ a1 a2 a5 a6 a7 a8 a9 a10 a11 res hf; cases hf
  | succ n ih =>
    intro τ a1 a2 a5 a6 a7 a8 a9 a10 a11 res hf H locs ls hw hl
    exact wM_call_162b C N τ (fM_call_162 N n) ih a1 a2 a5 a6 a7 a8 a9 a10 a11 res hf H locs ls hw hl
set_option maxHeartbeats 4000000 in
set_option maxRecDepth 100000 in
theorem wM_call_157 {p : Program} {l : Launch} {e : Env} {R : Room} {s : State} {m : MethodId} {args : Array Value} {below : List Frame} {meth : Method} {c : Code} {E : xE} {A : Nat → Prop} {σ : xS} (C : xC p s m args meth c R E A bM_call 13 yM_call (some .long) 3 0 0) (N : Nat) (τ : yS) (a1 : Int32) (a2 : Int32) (a5 : Int32) (a6 : Int32) (a7 : Int32) (a8 : Int32) (a9 : Int32) (t0 : Int32) (res : Int64 × yS) (hf : fM_call_157 N τ a1 a2 a5 a6 a7 a8 a9 t0 = some res) (H : Heap) (locs : List Loc) (ls : Array Slot) (hw : xW E A s σ τ H locs) (hl : lv_has ls 13 [(0, .ref (E.2.2.1 30 0)), (1, .int a1), (2, .int a2), (5, .int a5), (6, .int a6), (7, .int a7), (8, .int a8), (9, .int a9)]) : W p l e R s m args below meth c H locs 0 0 (MQ below (xQ E A (some (.long res.1)) σ res.2) args s 0 0 A) (F0 m 157 ls [.int t0]) := by
  have hx := C.1
  have hb := C.2.1
  unfold fM_call_157 at hf
  refine lv_istore (lv' := [(10, .int t0), (0, .ref (E.2.2.1 30 0)), (1, .int a1), (2, .int a2), (5, .int a5), (6, .int a6), (7, .int a7), (8, .int a8), (9, .int a9)]) hx hb dM_call_157 hl (by decide) rfl (fun ls hl => ?_)
  refine lv_iconst (v := 0) hx hb dM_call_159 (by decide) ?_
  refine lv_istore (lv' := [(11, .int 0), (10, .int t0), (0, .ref (E.2.2.1 30 0)), (1, .int a1), (2, .int a2), (5, .int a5), (6, .int a6), (7, .int a7), (8, .int a8), (9, .int a9)]) hx hb dM_call_160 hl (by decide) rfl (fun ls hl => ?_)
  exact wM_call_162 C N N τ a1 a2 a5 a6 a7 a8 a9 t0 0 res hf H locs ls hw (lv_sub hl [2, 3, 4, 5, 6, 7, 8, 9, 1, 0] rfl)
set_option maxHeartbeats 4000000 in
set_option maxRecDepth 100000 in
theorem wM_call_156 {p : Program} {l : Launch} {e : Env} {R : Room} {s : State} {m : MethodId} {args : Array Value} {below : List Frame} {meth : Method} {c : Code} {E : xE} {A : Nat → Prop} {σ : xS} (C : xC p s m args meth c R E A bM_call 13 yM_call (some .long) 3 0 0) (N : Nat) (τ : yS) (a1 : Int32) (a2 : Int32) (a5 : Int32) (a6 : Int32) (a7 : Int32) (a8 : Int32) (a9 : Int32) (res : Int64 × yS) (hf : fM_call_156 N τ a1 a2 a5 a6 a7 a8 a9 = some res) (H : Heap) (locs : List Loc) (ls : Array Slot) (hw : xW E A s σ τ H locs) (hl : lv_has ls 13 [(0, .ref (E.2.2.1 30 0)), (1, .int a1), (2, .int a2), (5, .int a5), (6, .int a6), (7, .int a7), (8, .int a8), (9, .int a9)]) : W p l e R s m args below meth c H locs 0 0 (MQ below (xQ E A (some (.long res.1)) σ res.2) args s 0 0 A) (F0 m 156 ls []) := by
  have hx := C.1
  have hb := C.2.1
  unfold fM_call_156 at hf
  refine lv_iconst (v := 0) hx hb dM_call_156 (by decide) ?_
  exact wM_call_157 C N τ a1 a2 a5 a6 a7 a8 a9 0 res hf H locs ls hw (lv_sub hl [0, 1, 2, 3, 4, 5, 6, 7] rfl)
set_option maxHeartbeats 4000000 in
set_option maxRecDepth 100000 in
theorem wM_call_134 {p : Program} {l : Launch} {e : Env} {R : Room} {s : State} {m : MethodId} {args : Array Value} {below : List Frame} {meth : Method} {c : Code} {E : xE} {A : Nat → Prop} {σ : xS} (C : xC p s m args meth c R E A bM_call 13 yM_call (some .long) 3 0 0) (N : Nat) (τ : yS) (a1 : Int32) (a2 : Int32) (a5 : Int32) (a6 : Int32) (a7 : Int32) (a8 : Int32) (t0 : Int32) (res : Int64 × yS) (hf : fM_call_134 N τ a1 a2 a5 a6 a7 a8 t0 = some res) (H : Heap) (locs : List Loc) (ls : Array Slot) (hw : xW E A s σ τ H locs) (hl : lv_has ls 13 [(0, .ref (E.2.2.1 30 0)), (1, .int a1), (2, .int a2), (5, .int a5), (6, .int a6), (7, .int a7), (8, .int a8)]) : W p l e R s m args below meth c H locs 0 0 (MQ below (xQ E A (some (.long res.1)) σ res.2) args s 0 0 A) (F0 m 134 ls [.int t0]) := by
  have hx := C.1
  have hb := C.2.1
  unfold fM_call_134 at hf
  refine lv_istore (lv' := [(9, .int t0), (0, .ref (E.2.2.1 30 0)), (1, .int a1), (2, .int a2), (5, .int a5), (6, .int a6), (7, .int a7), (8, .int a8)]) hx hb dM_call_134 hl (by decide) rfl (fun ls hl => ?_)
  refine lv_aload_n hx hb dM_call_136 rfl (lv_at hl 1 rfl) ?_
  refine y_get C hw 30 0 8 (v := .int (τ 30 0 8)) at_30 rfl rfl ⟨by decide, by decide⟩ wM_96 rfl dM_call_137 ?_
  refine lv_if_le (tgt := 156) hx hb dM_call_140 (by decide) (fun c81 => ?_) (fun c81 => ?_)
  · replace hf := x_ip c81 hf
    exact wM_call_156 C N τ a1 a2 a5 a6 a7 a8 t0 res hf H locs ls hw (lv_sub hl [1, 2, 3, 4, 5, 6, 7, 0] rfl)
  · replace hf := x_in c81 hf
    refine lv_aload_n hx hb dM_call_143 rfl (lv_at hl 1 rfl) ?_
    refine y_get C hw 30 0 8 (v := .int (τ 30 0 8)) at_30 rfl rfl ⟨by decide, by decide⟩ wM_96 rfl dM_call_144 ?_
    refine lv_iload hx hb dM_call_147 (lv_at hl 6 rfl) ?_
    refine lv_icmp_eq (tgt := 156) hx hb dM_call_149 (by decide) (fun c82 => ?_) (fun c82 => ?_)
    · replace hf := x_ip c82 hf
      exact wM_call_156 C N τ a1 a2 a5 a6 a7 a8 t0 res hf H locs ls hw (lv_sub hl [1, 2, 3, 4, 5, 6, 7, 0] rfl)
    · replace hf := x_in c82 hf
      refine lv_iconst (v := 1) hx hb dM_call_152 (by decide) ?_
      refine lv_goto (tgt := 157) hx hb dM_call_153 (by decide) ?_
      exact wM_call_157 C N τ a1 a2 a5 a6 a7 a8 t0 1 res hf H locs ls hw (lv_sub hl [1, 2, 3, 4, 5, 6, 7, 0] rfl)
set_option maxHeartbeats 4000000 in
set_option maxRecDepth 100000 in
theorem wM_call_120 {p : Program} {l : Launch} {e : Env} {R : Room} {s : State} {m : MethodId} {args : Array Value} {below : List Frame} {meth : Method} {c : Code} {E : xE} {A : Nat → Prop} {σ : xS} (C : xC p s m args meth c R E A bM_call 13 yM_call (some .long) 3 0 0) (N : Nat) (τ : yS) (a1 : Int32) (a2 : Int32) (a4 : Int32) (a5 : Int32) (a6 : Int32) (a7 : Int32) (t0 : Int32) (res : Int64 × yS) (hf : fM_call_120 N τ a1 a2 a4 a5 a6 a7 t0 = some res) (H : Heap) (locs : List Loc) (ls : Array Slot) (hw : xW E A s σ τ H locs) (hl : lv_has ls 13 [(0, .ref (E.2.2.1 30 0)), (1, .int a1), (2, .int a2), (4, .int a4), (5, .int a5), (6, .int a6), (7, .int a7)]) : W p l e R s m args below meth c H locs 0 0 (MQ below (xQ E A (some (.long res.1)) σ res.2) args s 0 0 A) (F0 m 120 ls [.int t0]) := by
  have hx := C.1
  have hb := C.2.1
  unfold fM_call_120 at hf
  refine lv_istore (lv' := [(8, .int t0), (0, .ref (E.2.2.1 30 0)), (1, .int a1), (2, .int a2), (4, .int a4), (5, .int a5), (6, .int a6), (7, .int a7)]) hx hb dM_call_120 hl (by decide) rfl (fun ls hl => ?_)
  refine lv_iload hx hb dM_call_122 (lv_at hl 7 rfl) ?_
  refine lv_iconst (v := 1) hx hb dM_call_124 (by decide) ?_
  refine lv_icmp_le (tgt := 133) hx hb dM_call_125 (by decide) (fun c83 => ?_) (fun c83 => ?_)
  · replace hf := x_ip c83 hf
    refine lv_iconst (v := 0) hx hb dM_call_133 (by decide) ?_
    exact wM_call_134 C N τ a1 a2 a5 a6 a7 t0 0 res hf H locs ls hw (lv_sub hl [1, 2, 3, 5, 6, 7, 0] rfl)
  · replace hf := x_in c83 hf
    refine lv_iload hx hb dM_call_128 (lv_at hl 4 rfl) ?_
    refine lv_goto (tgt := 134) hx hb dM_call_130 (by decide) ?_
    exact wM_call_134 C N τ a1 a2 a5 a6 a7 t0 a4 res hf H locs ls hw (lv_sub hl [1, 2, 3, 5, 6, 7, 0] rfl)
set_option maxHeartbeats 4000000 in
set_option maxRecDepth 100000 in
theorem wM_call_93 {p : Program} {l : Launch} {e : Env} {R : Room} {s : State} {m : MethodId} {args : Array Value} {below : List Frame} {meth : Method} {c : Code} {E : xE} {A : Nat → Prop} {σ : xS} (C : xC p s m args meth c R E A bM_call 13 yM_call (some .long) 3 0 0) (N : Nat) (τ : yS) (a1 : Int32) (a2 : Int32) (a3 : Int32) (a4 : Int32) (a5 : Int32) (res : Int64 × yS) (hf : fM_call_93 N τ a1 a2 a3 a4 a5 = some res) (H : Heap) (locs : List Loc) (ls : Array Slot) (hw : xW E A s σ τ H locs) (hl : lv_has ls 13 [(0, .ref (E.2.2.1 30 0)), (1, .int a1), (2, .int a2), (3, .int a3), (4, .int a4), (5, .int a5)]) : W p l e R s m args below meth c H locs 0 0 (MQ below (xQ E A (some (.long res.1)) σ res.2) args s 0 0 A) (F0 m 93 ls []) := by
  have hx := C.1
  have hb := C.2.1
  unfold fM_call_93 at hf
  refine lv_aload_n hx hb dM_call_93 rfl (lv_at hl 0 rfl) ?_
  refine lv_iload_n hx hb dM_call_94 rfl (lv_at hl 1 rfl) ?_
  refine lv_iload_n hx hb dM_call_95 rfl (lv_at hl 2 rfl) ?_
  obtain ⟨r85, h84, hf⟩ := x_p hf
  refine x_callV (As := [.int a1, .int a2]) (rest := []) (st1 := [.int r85]) C hw (cM_shape l E τ σ a1 a2 r85 h84) kM_135 (x_recvY C hw 30 0 at_30 rfl rfl) (by decide) rfl rfl hl.1 (lv_room (Nat.le_of_ble_eq_true rfl)) dM_call_96 ⟨by decide, by decide⟩ rfl (fun H locs hw => ?_)
  refine lv_istore (lv' := [(6, .int r85), (0, .ref (E.2.2.1 30 0)), (1, .int a1), (2, .int a2), (3, .int a3), (4, .int a4), (5, .int a5)]) hx hb dM_call_99 hl (by decide) rfl (fun ls hl => ?_)
  refine lv_aload_n hx hb dM_call_101 rfl (lv_at hl 1 rfl) ?_
  refine y_get C hw 30 0 0 (v := .ref (E.2.2.1 31 0)) at_30 rfl rfl ⟨by decide, by decide⟩ wM_7 rfl dM_call_102 ?_
  refine lv_iload hx hb dM_call_105 (lv_at hl 0 rfl) ?_
  obtain ⟨g86, hf⟩ := x_g hf
  refine y_ild C hw 31 0 at_31 rfl g86 dM_call_107 ?_
  refine lv_istore (lv' := [(7, .int (τ 31 0 r85.toNatClampNeg)), (6, .int r85), (0, .ref (E.2.2.1 30 0)), (1, .int a1), (2, .int a2), (3, .int a3), (4, .int a4), (5, .int a5)]) hx hb dM_call_108 hl (by decide) rfl (fun ls hl => ?_)
  refine lv_iload hx hb dM_call_110 (lv_at hl 0 rfl) ?_
  refine lv_if_le (tgt := 119) hx hb dM_call_112 (by decide) (fun c87 => ?_) (fun c87 => ?_)
  · replace hf := x_ip c87 hf
    refine lv_iconst (v := 0) hx hb dM_call_119 (by decide) ?_
    exact wM_call_120 C N τ a1 a2 a4 a5 r85 (τ 31 0 r85.toNatClampNeg) 0 res hf H locs ls hw (lv_sub hl [2, 3, 4, 6, 7, 1, 0] rfl)
  · replace hf := x_in c87 hf
    refine lv_iload_n hx hb dM_call_115 rfl (lv_at hl 5 rfl) ?_
    refine lv_goto (tgt := 120) hx hb dM_call_116 (by decide) ?_
    exact wM_call_120 C N τ a1 a2 a4 a5 r85 (τ 31 0 r85.toNatClampNeg) a3 res hf H locs ls hw (lv_sub hl [2, 3, 4, 6, 7, 1, 0] rfl)
set_option maxHeartbeats 4000000 in
set_option maxRecDepth 100000 in
theorem wM_call_64 {p : Program} {l : Launch} {e : Env} {R : Room} {s : State} {m : MethodId} {args : Array Value} {below : List Frame} {meth : Method} {c : Code} {E : xE} {A : Nat → Prop} {σ : xS} (C : xC p s m args meth c R E A bM_call 13 yM_call (some .long) 3 0 0) (N : Nat) (τ : yS) (a1 : Int32) (a2 : Int32) (a3 : Int32) (a4 : Int32) (a5 : Int32) (res : Int64 × yS) (hf : fM_call_64 N τ a1 a2 a3 a4 a5 = some res) (H : Heap) (locs : List Loc) (ls : Array Slot) (hw : xW E A s σ τ H locs) (hl : lv_has ls 13 [(0, .ref (E.2.2.1 30 0)), (1, .int a1), (2, .int a2), (3, .int a3), (4, .int a4), (5, .int a5)]) : W p l e R s m args below meth c H locs 0 0 (MQ below (xQ E A (some (.long res.1)) σ res.2) args s 0 0 A) (F0 m 64 ls []) := by
  have hx := C.1
  have hb := C.2.1
  unfold fM_call_64 at hf
  refine lv_aload_n hx hb dM_call_64 rfl (lv_at hl 0 rfl) ?_
  refine y_get C hw 30 0 9 (v := .int (τ 30 0 9)) at_30 rfl rfl ⟨by decide, by decide⟩ wM_90 rfl dM_call_65 ?_
  refine lv_iconst (v := 2) hx hb dM_call_68 (by decide) ?_
  refine lv_icmp_eq (tgt := 93) hx hb dM_call_69 (by decide) (fun c88 => ?_) (fun c88 => ?_)
  · replace hf := x_ip c88 hf
    exact wM_call_93 C N τ a1 a2 a3 a4 a5 res hf H locs ls hw (lv_sub hl [0, 1, 2, 3, 4, 5] rfl)
  · replace hf := x_in c88 hf
    refine lv_aload_n hx hb dM_call_72 rfl (lv_at hl 0 rfl) ?_
    refine y_get C hw 30 0 9 (v := .int (τ 30 0 9)) at_30 rfl rfl ⟨by decide, by decide⟩ wM_90 rfl dM_call_73 ?_
    refine lv_iconst (v := 3) hx hb dM_call_76 (by decide) ?_
    refine lv_icmp_eq (tgt := 93) hx hb dM_call_77 (by decide) (fun c89 => ?_) (fun c89 => ?_)
    · replace hf := x_ip c89 hf
      exact wM_call_93 C N τ a1 a2 a3 a4 a5 res hf H locs ls hw (lv_sub hl [0, 1, 2, 3, 4, 5] rfl)
    · replace hf := x_in c89 hf
      refine lv_aload_n hx hb dM_call_80 rfl (lv_at hl 0 rfl) ?_
      refine y_get C hw 30 0 20 (v := .int (τ 30 0 20)) at_30 rfl rfl ⟨by decide, by decide⟩ wM_130 rfl dM_call_81 ?_
      refine lv_bipush (v := 40) hx hb dM_call_84 (by decide) ?_
      refine lv_icmp_ne (tgt := 93) hx hb dM_call_86 (by decide) (fun c90 => ?_) (fun c90 => ?_)
      · replace hf := x_in c90 hf
        exact wM_call_93 C N τ a1 a2 a3 a4 a5 res hf H locs ls hw (lv_sub hl [0, 1, 2, 3, 4, 5] rfl)
      · replace hf := x_ip c90 hf
        refine lv_ldc2 (v := 17592186044414) hx hb C.own (C.tb wM_133) dM_call_89 ?_
        obtain rfl := Option.some.inj hf
        exact x_lret C hw dM_call_92
set_option maxHeartbeats 4000000 in
set_option maxRecDepth 100000 in
theorem wM_call_48 {p : Program} {l : Launch} {e : Env} {R : Room} {s : State} {m : MethodId} {args : Array Value} {below : List Frame} {meth : Method} {c : Code} {E : xE} {A : Nat → Prop} {σ : xS} (C : xC p s m args meth c R E A bM_call 13 yM_call (some .long) 3 0 0) (N : Nat) (τ : yS) (a1 : Int32) (a2 : Int32) (a3 : Int32) (a4 : Int32) (t0 : Int32) (res : Int64 × yS) (hf : fM_call_48 N τ a1 a2 a3 a4 t0 = some res) (H : Heap) (locs : List Loc) (ls : Array Slot) (hw : xW E A s σ τ H locs) (hl : lv_has ls 13 [(0, .ref (E.2.2.1 30 0)), (1, .int a1), (2, .int a2), (3, .int a3), (4, .int a4)]) : W p l e R s m args below meth c H locs 0 0 (MQ below (xQ E A (some (.long res.1)) σ res.2) args s 0 0 A) (F0 m 48 ls [.int t0]) := by
  have hx := C.1
  have hb := C.2.1
  unfold fM_call_48 at hf
  refine lv_istore (lv' := [(5, .int t0), (0, .ref (E.2.2.1 30 0)), (1, .int a1), (2, .int a2), (3, .int a3), (4, .int a4)]) hx hb dM_call_48 hl (by decide) rfl (fun ls hl => ?_)
  refine lv_iload hx hb dM_call_50 (lv_at hl 0 rfl) ?_
  refine lv_if_eq (tgt := 64) hx hb dM_call_52 (by decide) (fun c91 => ?_) (fun c91 => ?_)
  · replace hf := x_ip c91 hf
    exact wM_call_64 C N τ a1 a2 a3 a4 t0 res hf H locs ls hw (lv_sub hl [1, 2, 3, 4, 5, 0] rfl)
  · replace hf := x_in c91 hf
    refine lv_aload_n hx hb dM_call_55 rfl (lv_at hl 1 rfl) ?_
    refine y_get C hw 30 0 29 (v := .int (τ 30 0 29)) at_30 rfl rfl ⟨by decide, by decide⟩ wM_93 rfl dM_call_56 ?_
    refine lv_bipush (v := 16) hx hb dM_call_59 (by decide) ?_
    refine lv_icmp_eq (tgt := 89) hx hb dM_call_61 (by decide) (fun c92 => ?_) (fun c92 => ?_)
    · replace hf := x_ip c92 hf
      refine lv_ldc2 (v := 17592186044414) hx hb C.own (C.tb wM_133) dM_call_89 ?_
      obtain rfl := Option.some.inj hf
      exact x_lret C hw dM_call_92
    · replace hf := x_in c92 hf
      exact wM_call_64 C N τ a1 a2 a3 a4 t0 res hf H locs ls hw (lv_sub hl [1, 2, 3, 4, 5, 0] rfl)
set_option maxHeartbeats 4000000 in
set_option maxRecDepth 100000 in
theorem wM_call_47 {p : Program} {l : Launch} {e : Env} {R : Room} {s : State} {m : MethodId} {args : Array Value} {below : List Frame} {meth : Method} {c : Code} {E : xE} {A : Nat → Prop} {σ : xS} (C : xC p s m args meth c R E A bM_call 13 yM_call (some .long) 3 0 0) (N : Nat) (τ : yS) (a1 : Int32) (a2 : Int32) (a3 : Int32) (a4 : Int32) (res : Int64 × yS) (hf : fM_call_47 N τ a1 a2 a3 a4 = some res) (H : Heap) (locs : List Loc) (ls : Array Slot) (hw : xW E A s σ τ H locs) (hl : lv_has ls 13 [(0, .ref (E.2.2.1 30 0)), (1, .int a1), (2, .int a2), (3, .int a3), (4, .int a4)]) : W p l e R s m args below meth c H locs 0 0 (MQ below (xQ E A (some (.long res.1)) σ res.2) args s 0 0 A) (F0 m 47 ls []) := by
  have hx := C.1
  have hb := C.2.1
  unfold fM_call_47 at hf
  refine lv_iconst (v := 0) hx hb dM_call_47 (by decide) ?_
  exact wM_call_48 C N τ a1 a2 a3 a4 0 res hf H locs ls hw (lv_sub hl [0, 1, 2, 3, 4] rfl)
set_option maxHeartbeats 4000000 in
set_option maxRecDepth 100000 in
theorem cM_call (l : Launch) (E : xE) (N : Nat) (τ : yS) (σ : xS) (a1 : Int32) (a2 : Int32) (a3 : Int32) (a4 : Int32) (res : Int64 × yS) (hf : fM_call N τ a1 a2 a3 a4 = some res) : xM l E yM_call bM_call 13 (some .long) 3 0 0 [.ref (E.2.2.1 30 0), .int a1, .int a2, .int a3, .int a4] σ τ (some (.long res.1)) σ res.2 := by
  refine x_met (by decide) (Nat.le_of_ble_eq_true rfl) (fun p e R s m args below meth c A ls H locs C hw hl => ?_)
  have hl : lv_has ls 13 [(0, .ref (E.2.2.1 30 0)), (1, .int a1), (2, .int a2), (3, .int a3), (4, .int a4)] := hl
  have hx := C.1
  have hb := C.2.1
  unfold fM_call at hf
  refine lv_iload_n hx hb dM_call_0 rfl (lv_at hl 1 rfl) ?_
  refine lv_iconst (v := 0) hx hb dM_call_1 (by decide) ?_
  refine lv_aload_n hx hb dM_call_2 rfl (lv_at hl 0 rfl) ?_
  refine y_get C hw 30 0 4 (v := .int (τ 30 0 4)) at_30 rfl rfl ⟨by decide, by decide⟩ wM_110 rfl dM_call_3 ?_
  refine lv_iconst (v := 1) hx hb dM_call_6 (by decide) ?_
  refine lv_isub hx hb dM_call_7 ?_
  refine x_callS (As := [.int a1, .int 0, .int ((τ 30 0 4) - 1)]) (rest := []) (st1 := [.int (fM_in a1 0 ((τ 30 0 4) - 1))]) C hw (cM_in l E τ σ a1 0 ((τ 30 0 4) - 1)) kM_106 (by decide) rfl rfl hl.1 (lv_room (Nat.le_of_ble_eq_true rfl)) dM_call_8 ⟨by decide, by decide⟩ rfl (fun H locs hw => ?_)
  refine lv_if_eq (tgt := 23) hx hb dM_call_11 (by decide) (fun c94 => ?_) (fun c94 => ?_)
  · replace hf := x_ip c94 hf
    refine lv_ldc2 (v := 17592186044415) hx hb C.own (C.tb wM_128) dM_call_23 ?_
    obtain rfl := Option.some.inj hf
    exact x_lret C hw dM_call_26
  · replace hf := x_in c94 hf
    refine lv_iload_n hx hb dM_call_14 rfl (lv_at hl 2 rfl) ?_
    refine lv_iconst (v := 0) hx hb dM_call_15 (by decide) ?_
    refine lv_iconst (v := 3) hx hb dM_call_16 (by decide) ?_
    refine x_callS (As := [.int a2, .int 0, .int 3]) (rest := []) (st1 := [.int (fM_in a2 0 3)]) C hw (cM_in l E τ σ a2 0 3) kM_106 (by decide) rfl rfl hl.1 (lv_room (Nat.le_of_ble_eq_true rfl)) dM_call_17 ⟨by decide, by decide⟩ rfl (fun H locs hw => ?_)
    refine lv_if_ne (tgt := 27) hx hb dM_call_20 (by decide) (fun c96 => ?_) (fun c96 => ?_)
    · replace hf := x_in c96 hf
      refine lv_aload_n hx hb dM_call_27 rfl (lv_at hl 0 rfl) ?_
      refine y_get C hw 30 0 9 (v := .int (τ 30 0 9)) at_30 rfl rfl ⟨by decide, by decide⟩ wM_90 rfl dM_call_28 ?_
      refine lv_iconst (v := 2) hx hb dM_call_31 (by decide) ?_
      refine lv_icmp_ne (tgt := 47) hx hb dM_call_32 (by decide) (fun c97 => ?_) (fun c97 => ?_)
      · replace hf := x_in c97 hf
        exact wM_call_47 C N τ a1 a2 a3 a4 res hf H locs ls hw (lv_sub hl [0, 1, 2, 3, 4] rfl)
      · replace hf := x_ip c97 hf
        refine lv_aload_n hx hb dM_call_35 rfl (lv_at hl 0 rfl) ?_
        refine y_get C hw 30 0 10 (v := .int (τ 30 0 10)) at_30 rfl rfl ⟨by decide, by decide⟩ wM_87 rfl dM_call_36 ?_
        refine lv_iload_n hx hb dM_call_39 rfl (lv_at hl 1 rfl) ?_
        refine lv_icmp_ne (tgt := 47) hx hb dM_call_40 (by decide) (fun c98 => ?_) (fun c98 => ?_)
        · replace hf := x_in c98 hf
          exact wM_call_47 C N τ a1 a2 a3 a4 res hf H locs ls hw (lv_sub hl [0, 1, 2, 3, 4] rfl)
        · replace hf := x_ip c98 hf
          refine lv_iconst (v := 1) hx hb dM_call_43 (by decide) ?_
          refine lv_goto (tgt := 48) hx hb dM_call_44 (by decide) ?_
          exact wM_call_48 C N τ a1 a2 a3 a4 1 res hf H locs ls hw (lv_sub hl [0, 1, 2, 3, 4] rfl)
    · replace hf := x_ip c96 hf
      refine lv_ldc2 (v := 17592186044415) hx hb C.own (C.tb wM_128) dM_call_23 ?_
      obtain rfl := Option.some.inj hf
      exact x_lret C hw dM_call_26
-- StandInsModel when ()I
set_option maxRecDepth 100000 in
theorem dM_when_0 : decode bM_when 0 = .ok (.aload_n 0, 1) := by decide +kernel
set_option maxRecDepth 100000 in
theorem dM_when_1 : decode bM_when 1 = .ok (.getfield 93, 3) := by decide +kernel
set_option maxRecDepth 100000 in
theorem dM_when_4 : decode bM_when 4 = .ok (.bipush 16, 2) := by decide +kernel
set_option maxRecDepth 100000 in
theorem dM_when_6 : decode bM_when 6 = .ok (.if_icmp .ne 6, 3) := by decide +kernel
set_option maxRecDepth 100000 in
theorem dM_when_9 : decode bM_when 9 = .ok (.bipush (-2), 2) := by decide +kernel
set_option maxRecDepth 100000 in
theorem dM_when_11 : decode bM_when 11 = .ok (.ireturn, 1) := by decide +kernel
set_option maxRecDepth 100000 in
theorem dM_when_12 : decode bM_when 12 = .ok (.aload_n 0, 1) := by decide +kernel
set_option maxRecDepth 100000 in
theorem dM_when_13 : decode bM_when 13 = .ok (.iconst 0, 1) := by decide +kernel
set_option maxRecDepth 100000 in
theorem dM_when_14 : decode bM_when 14 = .ok (.iconst (-1), 1) := by decide +kernel
set_option maxRecDepth 100000 in
theorem dM_when_15 : decode bM_when 15 = .ok (.iconst 0, 1) := by decide +kernel
set_option maxRecDepth 100000 in
theorem dM_when_16 : decode bM_when 16 = .ok (.aload_n 0, 1) := by decide +kernel
set_option maxRecDepth 100000 in
theorem dM_when_17 : decode bM_when 17 = .ok (.getfield 90, 3) := by decide +kernel
set_option maxRecDepth 100000 in
theorem dM_when_20 : decode bM_when 20 = .ok (.iconst 1, 1) := by decide +kernel
set_option maxRecDepth 100000 in
theorem dM_when_21 : decode bM_when 21 = .ok (.if_icmp .eq 7, 3) := by decide +kernel
set_option maxRecDepth 100000 in
theorem dM_when_24 : decode bM_when 24 = .ok (.iconst 1, 1) := by decide +kernel
set_option maxRecDepth 100000 in
theorem dM_when_25 : decode bM_when 25 = .ok (.goto 4, 3) := by decide +kernel
set_option maxRecDepth 100000 in
theorem dM_when_28 : decode bM_when 28 = .ok (.iconst 0, 1) := by decide +kernel
set_option maxRecDepth 100000 in
theorem dM_when_29 : decode bM_when 29 = .ok (.invokevirtual 102, 3) := by decide +kernel
set_option maxRecDepth 100000 in
theorem dM_when_32 : decode bM_when 32 = .ok (.istore_n 1, 1) := by decide +kernel
set_option maxRecDepth 100000 in
theorem dM_when_33 : decode bM_when 33 = .ok (.iload_n 1, 1) := by decide +kernel
set_option maxRecDepth 100000 in
theorem dM_when_34 : decode bM_when 34 = .ok (.ifCond .ge 5, 3) := by decide +kernel
set_option maxRecDepth 100000 in
theorem dM_when_37 : decode bM_when 37 = .ok (.iload_n 1, 1) := by decide +kernel
set_option maxRecDepth 100000 in
theorem dM_when_38 : decode bM_when 38 = .ok (.ireturn, 1) := by decide +kernel
set_option maxRecDepth 100000 in
theorem dM_when_39 : decode bM_when 39 = .ok (.aload_n 0, 1) := by decide +kernel
set_option maxRecDepth 100000 in
theorem dM_when_40 : decode bM_when 40 = .ok (.dup, 1) := by decide +kernel
set_option maxRecDepth 100000 in
theorem dM_when_41 : decode bM_when 41 = .ok (.getfield 130, 3) := by decide +kernel
set_option maxRecDepth 100000 in
theorem dM_when_44 : decode bM_when 44 = .ok (.iconst 1, 1) := by decide +kernel
set_option maxRecDepth 100000 in
theorem dM_when_45 : decode bM_when 45 = .ok (.isub, 1) := by decide +kernel
set_option maxRecDepth 100000 in
theorem dM_when_46 : decode bM_when 46 = .ok (.putfield 130, 3) := by decide +kernel
set_option maxRecDepth 100000 in
theorem dM_when_49 : decode bM_when 49 = .ok (.aload_n 0, 1) := by decide +kernel
set_option maxRecDepth 100000 in
theorem dM_when_50 : decode bM_when 50 = .ok (.aload_n 0, 1) := by decide +kernel
set_option maxRecDepth 100000 in
theorem dM_when_51 : decode bM_when 51 = .ok (.getfield 35, 3) := by decide +kernel
set_option maxRecDepth 100000 in
theorem dM_when_54 : decode bM_when 54 = .ok (.aload_n 0, 1) := by decide +kernel
set_option maxRecDepth 100000 in
theorem dM_when_55 : decode bM_when 55 = .ok (.getfield 130, 3) := by decide +kernel
set_option maxRecDepth 100000 in
theorem dM_when_58 : decode bM_when 58 = .ok (.iaload, 1) := by decide +kernel
set_option maxRecDepth 100000 in
theorem dM_when_59 : decode bM_when 59 = .ok (.aload_n 0, 1) := by decide +kernel
set_option maxRecDepth 100000 in
theorem dM_when_60 : decode bM_when 60 = .ok (.getfield 38, 3) := by decide +kernel
set_option maxRecDepth 100000 in
theorem dM_when_63 : decode bM_when 63 = .ok (.aload_n 0, 1) := by decide +kernel
set_option maxRecDepth 100000 in
theorem dM_when_64 : decode bM_when 64 = .ok (.getfield 130, 3) := by decide +kernel
set_option maxRecDepth 100000 in
theorem dM_when_67 : decode bM_when 67 = .ok (.iaload, 1) := by decide +kernel
set_option maxRecDepth 100000 in
theorem dM_when_68 : decode bM_when 68 = .ok (.bipush 8, 2) := by decide +kernel
set_option maxRecDepth 100000 in
theorem dM_when_70 : decode bM_when 70 = .ok (.iconst 2, 1) := by decide +kernel
set_option maxRecDepth 100000 in
theorem dM_when_71 : decode bM_when 71 = .ok (.aload_n 0, 1) := by decide +kernel
set_option maxRecDepth 100000 in
theorem dM_when_72 : decode bM_when 72 = .ok (.getfield 130, 3) := by decide +kernel
set_option maxRecDepth 100000 in
theorem dM_when_75 : decode bM_when 75 = .ok (.imul, 1) := by decide +kernel
set_option maxRecDepth 100000 in
theorem dM_when_76 : decode bM_when 76 = .ok (.iadd, 1) := by decide +kernel
set_option maxRecDepth 100000 in
theorem dM_when_77 : decode bM_when 77 = .ok (.invokevirtual 144, 3) := by decide +kernel
set_option maxRecDepth 100000 in
theorem dM_when_80 : decode bM_when 80 = .ok (.aload_n 0, 1) := by decide +kernel
set_option maxRecDepth 100000 in
theorem dM_when_81 : decode bM_when 81 = .ok (.iconst 4, 1) := by decide +kernel
set_option maxRecDepth 100000 in
theorem dM_when_82 : decode bM_when 82 = .ok (.putfield 90, 3) := by decide +kernel
set_option maxRecDepth 100000 in
theorem dM_when_85 : decode bM_when 85 = .ok (.aload_n 0, 1) := by decide +kernel
set_option maxRecDepth 100000 in
theorem dM_when_86 : decode bM_when 86 = .ok (.getfield 93, 3) := by decide +kernel
set_option maxRecDepth 100000 in
theorem dM_when_89 : decode bM_when 89 = .ok (.iconst 1, 1) := by decide +kernel
set_option maxRecDepth 100000 in
theorem dM_when_90 : decode bM_when 90 = .ok (.isub, 1) := by decide +kernel
set_option maxRecDepth 100000 in
theorem dM_when_91 : decode bM_when 91 = .ok (.ireturn, 1) := by decide +kernel
def fM_when_29 (N : Nat) (τ : yS) (t0 : Int32) (t1 : Int32) (t2 : Int32) (t3 : Int32) : Option (Int32 × yS) :=
  xb (fM_misuse τ t3 t2 t1 t0) fun r11 s12 =>
  if 0 ≤ r11 then
  (xl (y_si s12 30 0 20 ((s12 30 0 20) - 1)) fun s14 =>
  if ¬ ((s14 30 0 20) < 0 ∨ 40 ≤ (s14 30 0 20).toNatClampNeg) then
  xp (fM_tell N s14 (s14 39 0 ((s14 30 0 20).toNatClampNeg)) (s14 40 0 ((s14 30 0 20).toNatClampNeg)) (8 + (2 * (s14 30 0 20)))) fun s17 =>
  xl (y_si s17 30 0 9 4) fun s18 =>
  some ((s18 30 0 29) - 1, s18)
  else none)
  else
  (some (r11, s12))
def fM_when (N : Nat) (τ : yS) : Option (Int32 × yS) :=
  if (τ 30 0 29) = 16 then
  (some ((-2), τ))
  else
  (if (τ 30 0 9) = 1 then
  (fM_when_29 N τ 0 0 (-1) 0)
  else
  (fM_when_29 N τ 1 0 (-1) 0))
set_option maxHeartbeats 4000000 in
set_option maxRecDepth 100000 in
theorem wM_when_29 {p : Program} {l : Launch} {e : Env} {R : Room} {s : State} {m : MethodId} {args : Array Value} {below : List Frame} {meth : Method} {c : Code} {E : xE} {A : Nat → Prop} {σ : xS} (C : xC p s m args meth c R E A bM_when 2 yM_when (some .int) 3 0 0) (N : Nat) (τ : yS) (t0 : Int32) (t1 : Int32) (t2 : Int32) (t3 : Int32) (res : Int32 × yS) (hf : fM_when_29 N τ t0 t1 t2 t3 = some res) (H : Heap) (locs : List Loc) (ls : Array Slot) (hw : xW E A s σ τ H locs) (hl : lv_has ls 2 [(0, .ref (E.2.2.1 30 0))]) : W p l e R s m args below meth c H locs 0 0 (MQ below (xQ E A (some (.int res.1)) σ res.2) args s 0 0 A) (F0 m 29 ls [.int t0, .int t1, .int t2, .int t3, .ref (E.2.2.1 30 0)]) := by
  have hx := C.1
  have hb := C.2.1
  unfold fM_when_29 at hf
  obtain ⟨r11, s12, h10, hf⟩ := x_b hf
  refine x_callV (As := [.int t3, .int t2, .int t1, .int t0]) (rest := []) (st1 := [.int r11]) C hw (cM_misuse l E τ σ t3 t2 t1 t0 (r11, s12) h10) kM_102 (x_recvY C hw 30 0 at_30 rfl rfl) (by decide) rfl rfl hl.1 (lv_room (Nat.le_of_ble_eq_true rfl)) dM_when_29 ⟨by decide, by decide⟩ rfl (fun H locs hw => ?_)
  refine lv_istore_n (lv' := [(1, .int r11), (0, .ref (E.2.2.1 30 0))]) hx hb dM_when_32 rfl hl (by decide) rfl (fun ls hl => ?_)
  refine lv_iload_n hx hb dM_when_33 rfl (lv_at hl 0 rfl) ?_
  refine lv_if_ge (tgt := 39) hx hb dM_when_34 (by decide) (fun c13 => ?_) (fun c13 => ?_)
  · replace hf := x_ip c13 hf
    refine lv_aload_n hx hb dM_when_39 rfl (lv_at hl 1 rfl) ?_
    refine lv_dup hx hb dM_when_40 rfl ?_
    refine y_get C hw 30 0 20 (v := .int (s12 30 0 20)) at_30 rfl rfl ⟨by decide, by decide⟩ wM_130 rfl dM_when_41 ?_
    refine lv_iconst (v := 1) hx hb dM_when_44 (by decide) ?_
    refine lv_isub hx hb dM_when_45 ?_
    refine y_puti C hw 30 0 20 at_30 rfl rfl rfl ⟨rfl, rfl⟩ ⟨by decide, by decide⟩ (Nat.le_of_ble_eq_true rfl) wM_130 dM_when_46 (fun H locs hw => ?_)
    obtain ⟨s14, es14, hf⟩ := x_l hf
    rw [← es14] at hw
    refine lv_aload_n hx hb dM_when_49 rfl (lv_at hl 1 rfl) ?_
    refine lv_aload_n hx hb dM_when_50 rfl (lv_at hl 1 rfl) ?_
    refine y_get C hw 30 0 14 (v := .ref (E.2.2.1 39 0)) at_30 rfl rfl ⟨by decide, by decide⟩ wM_35 rfl dM_when_51 ?_
    refine lv_aload_n hx hb dM_when_54 rfl (lv_at hl 1 rfl) ?_
    refine y_get C hw 30 0 20 (v := .int (s14 30 0 20)) at_30 rfl rfl ⟨by decide, by decide⟩ wM_130 rfl dM_when_55 ?_
    obtain ⟨g15, hf⟩ := x_g hf
    refine y_ild C hw 39 0 at_39 rfl g15 dM_when_58 ?_
    refine lv_aload_n hx hb dM_when_59 rfl (lv_at hl 1 rfl) ?_
    refine y_get C hw 30 0 15 (v := .ref (E.2.2.1 40 0)) at_30 rfl rfl ⟨by decide, by decide⟩ wM_38 rfl dM_when_60 ?_
    refine lv_aload_n hx hb dM_when_63 rfl (lv_at hl 1 rfl) ?_
    refine y_get C hw 30 0 20 (v := .int (s14 30 0 20)) at_30 rfl rfl ⟨by decide, by decide⟩ wM_130 rfl dM_when_64 ?_
    refine y_ild C hw 40 0 at_40 rfl g15 dM_when_67 ?_
    refine lv_bipush (v := 8) hx hb dM_when_68 (by decide) ?_
    refine lv_iconst (v := 2) hx hb dM_when_70 (by decide) ?_
    refine lv_aload_n hx hb dM_when_71 rfl (lv_at hl 1 rfl) ?_
    refine y_get C hw 30 0 20 (v := .int (s14 30 0 20)) at_30 rfl rfl ⟨by decide, by decide⟩ wM_130 rfl dM_when_72 ?_
    refine lv_imul hx hb dM_when_75 ?_
    refine lv_iadd hx hb dM_when_76 ?_
    obtain ⟨s17, h16, hf⟩ := x_p hf
    refine x_callV (As := [.int (s14 39 0 ((s14 30 0 20).toNatClampNeg)), .int (s14 40 0 ((s14 30 0 20).toNatClampNeg)), .int (8 + (2 * (s14 30 0 20)))]) (rest := []) (st1 := []) C hw (cM_tell l E N s14 σ (s14 39 0 ((s14 30 0 20).toNatClampNeg)) (s14 40 0 ((s14 30 0 20).toNatClampNeg)) (8 + (2 * (s14 30 0 20))) s17 h16) kM_144 (x_recvY C hw 30 0 at_30 rfl rfl) (by decide) rfl rfl hl.1 (lv_room (Nat.le_of_ble_eq_true rfl)) dM_when_77 ⟨by decide, by decide⟩ rfl (fun H locs hw => ?_)
    refine lv_aload_n hx hb dM_when_80 rfl (lv_at hl 1 rfl) ?_
    refine lv_iconst (v := 4) hx hb dM_when_81 (by decide) ?_
    refine y_puti C hw 30 0 9 at_30 rfl rfl rfl ⟨rfl, rfl⟩ ⟨by decide, by decide⟩ (Nat.le_of_ble_eq_true rfl) wM_90 dM_when_82 (fun H locs hw => ?_)
    obtain ⟨s18, es18, hf⟩ := x_l hf
    rw [← es18] at hw
    refine lv_aload_n hx hb dM_when_85 rfl (lv_at hl 1 rfl) ?_
    refine y_get C hw 30 0 29 (v := .int (s18 30 0 29)) at_30 rfl rfl ⟨by decide, by decide⟩ wM_93 rfl dM_when_86 ?_
    refine lv_iconst (v := 1) hx hb dM_when_89 (by decide) ?_
    refine lv_isub hx hb dM_when_90 ?_
    obtain rfl := Option.some.inj hf
    exact x_iret C hw dM_when_91
  · replace hf := x_in c13 hf
    refine lv_iload_n hx hb dM_when_37 rfl (lv_at hl 0 rfl) ?_
    obtain rfl := Option.some.inj hf
    exact x_iret C hw dM_when_38
set_option maxHeartbeats 4000000 in
set_option maxRecDepth 100000 in
theorem cM_when (l : Launch) (E : xE) (N : Nat) (τ : yS) (σ : xS) (res : Int32 × yS) (hf : fM_when N τ = some res) : xM l E yM_when bM_when 2 (some .int) 3 0 0 [.ref (E.2.2.1 30 0)] σ τ (some (.int res.1)) σ res.2 := by
  refine x_met (by decide) (Nat.le_of_ble_eq_true rfl) (fun p e R s m args below meth c A ls H locs C hw hl => ?_)
  have hl : lv_has ls 2 [(0, .ref (E.2.2.1 30 0))] := hl
  have hx := C.1
  have hb := C.2.1
  unfold fM_when at hf
  refine lv_aload_n hx hb dM_when_0 rfl (lv_at hl 0 rfl) ?_
  refine y_get C hw 30 0 29 (v := .int (τ 30 0 29)) at_30 rfl rfl ⟨by decide, by decide⟩ wM_93 rfl dM_when_1 ?_
  refine lv_bipush (v := 16) hx hb dM_when_4 (by decide) ?_
  refine lv_icmp_ne (tgt := 12) hx hb dM_when_6 (by decide) (fun c19 => ?_) (fun c19 => ?_)
  · replace hf := x_in c19 hf
    refine lv_aload_n hx hb dM_when_12 rfl (lv_at hl 0 rfl) ?_
    refine lv_iconst (v := 0) hx hb dM_when_13 (by decide) ?_
    refine lv_iconst (v := (-1)) hx hb dM_when_14 (by decide) ?_
    refine lv_iconst (v := 0) hx hb dM_when_15 (by decide) ?_
    refine lv_aload_n hx hb dM_when_16 rfl (lv_at hl 0 rfl) ?_
    refine y_get C hw 30 0 9 (v := .int (τ 30 0 9)) at_30 rfl rfl ⟨by decide, by decide⟩ wM_90 rfl dM_when_17 ?_
    refine lv_iconst (v := 1) hx hb dM_when_20 (by decide) ?_
    refine lv_icmp_eq (tgt := 28) hx hb dM_when_21 (by decide) (fun c20 => ?_) (fun c20 => ?_)
    · replace hf := x_ip c20 hf
      refine lv_iconst (v := 0) hx hb dM_when_28 (by decide) ?_
      exact wM_when_29 C N τ 0 0 (-1) 0 res hf H locs ls hw (lv_sub hl [0] rfl)
    · replace hf := x_in c20 hf
      refine lv_iconst (v := 1) hx hb dM_when_24 (by decide) ?_
      refine lv_goto (tgt := 29) hx hb dM_when_25 (by decide) ?_
      exact wM_when_29 C N τ 1 0 (-1) 0 res hf H locs ls hw (lv_sub hl [0] rfl)
  · replace hf := x_ip c19 hf
    refine lv_bipush (v := (-2)) hx hb dM_when_9 (by decide) ?_
    obtain rfl := Option.some.inj hf
    exact x_iret C hw dM_when_11
