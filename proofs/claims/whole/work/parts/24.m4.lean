-- StandInsModel answered (I)J
set_option maxRecDepth 100000 in
theorem dM_answered_0 : decode bM_answered 0 = .ok (.aload_n 0, 1) := by decide +kernel
set_option maxRecDepth 100000 in
theorem dM_answered_1 : decode bM_answered 1 = .ok (.getfield 35, 3) := by decide +kernel
set_option maxRecDepth 100000 in
theorem dM_answered_4 : decode bM_answered 4 = .ok (.iload_n 1, 1) := by decide +kernel
set_option maxRecDepth 100000 in
theorem dM_answered_5 : decode bM_answered 5 = .ok (.iaload, 1) := by decide +kernel
set_option maxRecDepth 100000 in
theorem dM_answered_6 : decode bM_answered 6 = .ok (.istore_n 2, 1) := by decide +kernel
set_option maxRecDepth 100000 in
theorem dM_answered_7 : decode bM_answered 7 = .ok (.aload_n 0, 1) := by decide +kernel
set_option maxRecDepth 100000 in
theorem dM_answered_8 : decode bM_answered 8 = .ok (.getfield 38, 3) := by decide +kernel
set_option maxRecDepth 100000 in
theorem dM_answered_11 : decode bM_answered 11 = .ok (.iload_n 1, 1) := by decide +kernel
set_option maxRecDepth 100000 in
theorem dM_answered_12 : decode bM_answered 12 = .ok (.iaload, 1) := by decide +kernel
set_option maxRecDepth 100000 in
theorem dM_answered_13 : decode bM_answered 13 = .ok (.istore_n 3, 1) := by decide +kernel
set_option maxRecDepth 100000 in
theorem dM_answered_14 : decode bM_answered 14 = .ok (.aload_n 0, 1) := by decide +kernel
set_option maxRecDepth 100000 in
theorem dM_answered_15 : decode bM_answered 15 = .ok (.getfield 41, 3) := by decide +kernel
set_option maxRecDepth 100000 in
theorem dM_answered_18 : decode bM_answered 18 = .ok (.iload_n 1, 1) := by decide +kernel
set_option maxRecDepth 100000 in
theorem dM_answered_19 : decode bM_answered 19 = .ok (.iaload, 1) := by decide +kernel
set_option maxRecDepth 100000 in
theorem dM_answered_20 : decode bM_answered 20 = .ok (.istore 4, 2) := by decide +kernel
set_option maxRecDepth 100000 in
theorem dM_answered_22 : decode bM_answered 22 = .ok (.aload_n 0, 1) := by decide +kernel
set_option maxRecDepth 100000 in
theorem dM_answered_23 : decode bM_answered 23 = .ok (.getfield 44, 3) := by decide +kernel
set_option maxRecDepth 100000 in
theorem dM_answered_26 : decode bM_answered 26 = .ok (.iload_n 1, 1) := by decide +kernel
set_option maxRecDepth 100000 in
theorem dM_answered_27 : decode bM_answered 27 = .ok (.iaload, 1) := by decide +kernel
set_option maxRecDepth 100000 in
theorem dM_answered_28 : decode bM_answered 28 = .ok (.istore 5, 2) := by decide +kernel
set_option maxRecDepth 100000 in
theorem dM_answered_30 : decode bM_answered 30 = .ok (.aload_n 0, 1) := by decide +kernel
set_option maxRecDepth 100000 in
theorem dM_answered_31 : decode bM_answered 31 = .ok (.iload_n 2, 1) := by decide +kernel
set_option maxRecDepth 100000 in
theorem dM_answered_32 : decode bM_answered 32 = .ok (.iload_n 3, 1) := by decide +kernel
set_option maxRecDepth 100000 in
theorem dM_answered_33 : decode bM_answered 33 = .ok (.invokevirtual 135, 3) := by decide +kernel
set_option maxRecDepth 100000 in
theorem dM_answered_36 : decode bM_answered 36 = .ok (.istore 6, 2) := by decide +kernel
set_option maxRecDepth 100000 in
theorem dM_answered_38 : decode bM_answered 38 = .ok (.aload_n 0, 1) := by decide +kernel
set_option maxRecDepth 100000 in
theorem dM_answered_39 : decode bM_answered 39 = .ok (.getfield 13, 3) := by decide +kernel
set_option maxRecDepth 100000 in
theorem dM_answered_42 : decode bM_answered 42 = .ok (.iload 6, 2) := by decide +kernel
set_option maxRecDepth 100000 in
theorem dM_answered_44 : decode bM_answered 44 = .ok (.baload, 1) := by decide +kernel
set_option maxRecDepth 100000 in
theorem dM_answered_45 : decode bM_answered 45 = .ok (.ifCond .eq 15, 3) := by decide +kernel
set_option maxRecDepth 100000 in
theorem dM_answered_48 : decode bM_answered 48 = .ok (.aload_n 0, 1) := by decide +kernel
set_option maxRecDepth 100000 in
theorem dM_answered_49 : decode bM_answered 49 = .ok (.iload_n 3, 1) := by decide +kernel
set_option maxRecDepth 100000 in
theorem dM_answered_50 : decode bM_answered 50 = .ok (.iload 4, 2) := by decide +kernel
set_option maxRecDepth 100000 in
theorem dM_answered_52 : decode bM_answered 52 = .ok (.iload 5, 2) := by decide +kernel
set_option maxRecDepth 100000 in
theorem dM_answered_54 : decode bM_answered 54 = .ok (.invokevirtual 168, 3) := by decide +kernel
set_option maxRecDepth 100000 in
theorem dM_answered_57 : decode bM_answered 57 = .ok (.goto 4, 3) := by decide +kernel
set_option maxRecDepth 100000 in
theorem dM_answered_60 : decode bM_answered 60 = .ok (.iconst 0, 1) := by decide +kernel
set_option maxRecDepth 100000 in
theorem dM_answered_61 : decode bM_answered 61 = .ok (.istore 7, 2) := by decide +kernel
set_option maxRecDepth 100000 in
theorem dM_answered_63 : decode bM_answered 63 = .ok (.aload_n 0, 1) := by decide +kernel
set_option maxRecDepth 100000 in
theorem dM_answered_64 : decode bM_answered 64 = .ok (.getfield 93, 3) := by decide +kernel
set_option maxRecDepth 100000 in
theorem dM_answered_67 : decode bM_answered 67 = .ok (.iconst 1, 1) := by decide +kernel
set_option maxRecDepth 100000 in
theorem dM_answered_68 : decode bM_answered 68 = .ok (.isub, 1) := by decide +kernel
set_option maxRecDepth 100000 in
theorem dM_answered_69 : decode bM_answered 69 = .ok (.istore 8, 2) := by decide +kernel
set_option maxRecDepth 100000 in
theorem dM_answered_71 : decode bM_answered 71 = .ok (.iload 8, 2) := by decide +kernel
set_option maxRecDepth 100000 in
theorem dM_answered_73 : decode bM_answered 73 = .ok (.ifCond .lt 222, 3) := by decide +kernel
set_option maxRecDepth 100000 in
theorem dM_answered_76 : decode bM_answered 76 = .ok (.aload_n 0, 1) := by decide +kernel
set_option maxRecDepth 100000 in
theorem dM_answered_77 : decode bM_answered 77 = .ok (.getfield 71, 3) := by decide +kernel
set_option maxRecDepth 100000 in
theorem dM_answered_80 : decode bM_answered 80 = .ok (.iload 8, 2) := by decide +kernel
set_option maxRecDepth 100000 in
theorem dM_answered_82 : decode bM_answered 82 = .ok (.baload, 1) := by decide +kernel
set_option maxRecDepth 100000 in
theorem dM_answered_83 : decode bM_answered 83 = .ok (.ifCond .ne 206, 3) := by decide +kernel
set_option maxRecDepth 100000 in
theorem dM_answered_86 : decode bM_answered 86 = .ok (.aload_n 0, 1) := by decide +kernel
set_option maxRecDepth 100000 in
theorem dM_answered_87 : decode bM_answered 87 = .ok (.getfield 59, 3) := by decide +kernel
set_option maxRecDepth 100000 in
theorem dM_answered_90 : decode bM_answered 90 = .ok (.iload 8, 2) := by decide +kernel
set_option maxRecDepth 100000 in
theorem dM_answered_92 : decode bM_answered 92 = .ok (.iaload, 1) := by decide +kernel
set_option maxRecDepth 100000 in
theorem dM_answered_93 : decode bM_answered 93 = .ok (.ifCond .eq 196, 3) := by decide +kernel
set_option maxRecDepth 100000 in
theorem dM_answered_96 : decode bM_answered 96 = .ok (.aload_n 0, 1) := by decide +kernel
set_option maxRecDepth 100000 in
theorem dM_answered_97 : decode bM_answered 97 = .ok (.getfield 53, 3) := by decide +kernel
set_option maxRecDepth 100000 in
theorem dM_answered_100 : decode bM_answered 100 = .ok (.iload 8, 2) := by decide +kernel
set_option maxRecDepth 100000 in
theorem dM_answered_102 : decode bM_answered 102 = .ok (.iaload, 1) := by decide +kernel
set_option maxRecDepth 100000 in
theorem dM_answered_103 : decode bM_answered 103 = .ok (.iload_n 2, 1) := by decide +kernel
set_option maxRecDepth 100000 in
theorem dM_answered_104 : decode bM_answered 104 = .ok (.if_icmp .ne 185, 3) := by decide +kernel
set_option maxRecDepth 100000 in
theorem dM_answered_107 : decode bM_answered 107 = .ok (.aload_n 0, 1) := by decide +kernel
set_option maxRecDepth 100000 in
theorem dM_answered_108 : decode bM_answered 108 = .ok (.getfield 56, 3) := by decide +kernel
set_option maxRecDepth 100000 in
theorem dM_answered_111 : decode bM_answered 111 = .ok (.iload 8, 2) := by decide +kernel
set_option maxRecDepth 100000 in
theorem dM_answered_113 : decode bM_answered 113 = .ok (.iaload, 1) := by decide +kernel
set_option maxRecDepth 100000 in
theorem dM_answered_114 : decode bM_answered 114 = .ok (.iload_n 3, 1) := by decide +kernel
set_option maxRecDepth 100000 in
theorem dM_answered_115 : decode bM_answered 115 = .ok (.if_icmp .ne 174, 3) := by decide +kernel
set_option maxRecDepth 100000 in
theorem dM_answered_118 : decode bM_answered 118 = .ok (.aload_n 0, 1) := by decide +kernel
set_option maxRecDepth 100000 in
theorem dM_answered_119 : decode bM_answered 119 = .ok (.bipush 88, 2) := by decide +kernel
set_option maxRecDepth 100000 in
theorem dM_answered_121 : decode bM_answered 121 = .ok (.iconst 2, 1) := by decide +kernel
set_option maxRecDepth 100000 in
theorem dM_answered_122 : decode bM_answered 122 = .ok (.iload 8, 2) := by decide +kernel
set_option maxRecDepth 100000 in
theorem dM_answered_124 : decode bM_answered 124 = .ok (.imul, 1) := by decide +kernel
set_option maxRecDepth 100000 in
theorem dM_answered_125 : decode bM_answered 125 = .ok (.iadd, 1) := by decide +kernel
set_option maxRecDepth 100000 in
theorem dM_answered_126 : decode bM_answered 126 = .ok (.iload 6, 2) := by decide +kernel
set_option maxRecDepth 100000 in
theorem dM_answered_128 : decode bM_answered 128 = .ok (.iload 4, 2) := by decide +kernel
set_option maxRecDepth 100000 in
theorem dM_answered_130 : decode bM_answered 130 = .ok (.iload 5, 2) := by decide +kernel
set_option maxRecDepth 100000 in
theorem dM_answered_132 : decode bM_answered 132 = .ok (.invokevirtual 172, 3) := by decide +kernel
set_option maxRecDepth 100000 in
theorem dM_answered_135 : decode bM_answered 135 = .ok (.ifCond .ne 6, 3) := by decide +kernel
set_option maxRecDepth 100000 in
theorem dM_answered_138 : decode bM_answered 138 = .ok (.goto 151, 3) := by decide +kernel
set_option maxRecDepth 100000 in
theorem dM_answered_141 : decode bM_answered 141 = .ok (.iconst 4, 1) := by decide +kernel
set_option maxRecDepth 100000 in
theorem dM_answered_142 : decode bM_answered 142 = .ok (.iload 8, 2) := by decide +kernel
set_option maxRecDepth 100000 in
theorem dM_answered_144 : decode bM_answered 144 = .ok (.imul, 1) := by decide +kernel
set_option maxRecDepth 100000 in
theorem dM_answered_145 : decode bM_answered 145 = .ok (.aload_n 0, 1) := by decide +kernel
set_option maxRecDepth 100000 in
theorem dM_answered_146 : decode bM_answered 146 = .ok (.getfield 62, 3) := by decide +kernel
set_option maxRecDepth 100000 in
theorem dM_answered_149 : decode bM_answered 149 = .ok (.iload 8, 2) := by decide +kernel
set_option maxRecDepth 100000 in
theorem dM_answered_151 : decode bM_answered 151 = .ok (.iaload, 1) := by decide +kernel
set_option maxRecDepth 100000 in
theorem dM_answered_152 : decode bM_answered 152 = .ok (.aload_n 0, 1) := by decide +kernel
set_option maxRecDepth 100000 in
theorem dM_answered_153 : decode bM_answered 153 = .ok (.getfield 59, 3) := by decide +kernel
set_option maxRecDepth 100000 in
theorem dM_answered_156 : decode bM_answered 156 = .ok (.iload 8, 2) := by decide +kernel
set_option maxRecDepth 100000 in
theorem dM_answered_158 : decode bM_answered 158 = .ok (.iaload, 1) := by decide +kernel
set_option maxRecDepth 100000 in
theorem dM_answered_159 : decode bM_answered 159 = .ok (.if_icmp .ge 13, 3) := by decide +kernel
set_option maxRecDepth 100000 in
theorem dM_answered_162 : decode bM_answered 162 = .ok (.aload_n 0, 1) := by decide +kernel
set_option maxRecDepth 100000 in
theorem dM_answered_163 : decode bM_answered 163 = .ok (.getfield 62, 3) := by decide +kernel
set_option maxRecDepth 100000 in
theorem dM_answered_166 : decode bM_answered 166 = .ok (.iload 8, 2) := by decide +kernel
set_option maxRecDepth 100000 in
theorem dM_answered_168 : decode bM_answered 168 = .ok (.iaload, 1) := by decide +kernel
set_option maxRecDepth 100000 in
theorem dM_answered_169 : decode bM_answered 169 = .ok (.goto 12, 3) := by decide +kernel
set_option maxRecDepth 100000 in
theorem dM_answered_172 : decode bM_answered 172 = .ok (.aload_n 0, 1) := by decide +kernel
set_option maxRecDepth 100000 in
theorem dM_answered_173 : decode bM_answered 173 = .ok (.getfield 59, 3) := by decide +kernel
set_option maxRecDepth 100000 in
theorem dM_answered_176 : decode bM_answered 176 = .ok (.iload 8, 2) := by decide +kernel
set_option maxRecDepth 100000 in
theorem dM_answered_178 : decode bM_answered 178 = .ok (.iaload, 1) := by decide +kernel
set_option maxRecDepth 100000 in
theorem dM_answered_179 : decode bM_answered 179 = .ok (.iconst 1, 1) := by decide +kernel
set_option maxRecDepth 100000 in
theorem dM_answered_180 : decode bM_answered 180 = .ok (.isub, 1) := by decide +kernel
set_option maxRecDepth 100000 in
theorem dM_answered_181 : decode bM_answered 181 = .ok (.iadd, 1) := by decide +kernel
set_option maxRecDepth 100000 in
theorem dM_answered_182 : decode bM_answered 182 = .ok (.istore 9, 2) := by decide +kernel
set_option maxRecDepth 100000 in
theorem dM_answered_184 : decode bM_answered 184 = .ok (.aload_n 0, 1) := by decide +kernel
set_option maxRecDepth 100000 in
theorem dM_answered_185 : decode bM_answered 185 = .ok (.getfield 68, 3) := by decide +kernel
set_option maxRecDepth 100000 in
theorem dM_answered_188 : decode bM_answered 188 = .ok (.iload 9, 2) := by decide +kernel
set_option maxRecDepth 100000 in
theorem dM_answered_190 : decode bM_answered 190 = .ok (.iaload, 1) := by decide +kernel
set_option maxRecDepth 100000 in
theorem dM_answered_191 : decode bM_answered 191 = .ok (.istore 10, 2) := by decide +kernel
set_option maxRecDepth 100000 in
theorem dM_answered_193 : decode bM_answered 193 = .ok (.aload_n 0, 1) := by decide +kernel
set_option maxRecDepth 100000 in
theorem dM_answered_194 : decode bM_answered 194 = .ok (.getfield 62, 3) := by decide +kernel
set_option maxRecDepth 100000 in
theorem dM_answered_197 : decode bM_answered 197 = .ok (.iload 8, 2) := by decide +kernel
set_option maxRecDepth 100000 in
theorem dM_answered_199 : decode bM_answered 199 = .ok (.dup2, 1) := by decide +kernel
set_option maxRecDepth 100000 in
theorem dM_answered_200 : decode bM_answered 200 = .ok (.iaload, 1) := by decide +kernel
set_option maxRecDepth 100000 in
theorem dM_answered_201 : decode bM_answered 201 = .ok (.iconst 1, 1) := by decide +kernel
set_option maxRecDepth 100000 in
theorem dM_answered_202 : decode bM_answered 202 = .ok (.iadd, 1) := by decide +kernel
set_option maxRecDepth 100000 in
theorem dM_answered_203 : decode bM_answered 203 = .ok (.iastore, 1) := by decide +kernel
set_option maxRecDepth 100000 in
theorem dM_answered_204 : decode bM_answered 204 = .ok (.aload_n 0, 1) := by decide +kernel
set_option maxRecDepth 100000 in
theorem dM_answered_205 : decode bM_answered 205 = .ok (.getfield 47, 3) := by decide +kernel
set_option maxRecDepth 100000 in
theorem dM_answered_208 : decode bM_answered 208 = .ok (.iload_n 1, 1) := by decide +kernel
set_option maxRecDepth 100000 in
theorem dM_answered_209 : decode bM_answered 209 = .ok (.iload 8, 2) := by decide +kernel
set_option maxRecDepth 100000 in
theorem dM_answered_211 : decode bM_answered 211 = .ok (.iastore, 1) := by decide +kernel
set_option maxRecDepth 100000 in
theorem dM_answered_212 : decode bM_answered 212 = .ok (.aload_n 0, 1) := by decide +kernel
set_option maxRecDepth 100000 in
theorem dM_answered_213 : decode bM_answered 213 = .ok (.getfield 65, 3) := by decide +kernel
set_option maxRecDepth 100000 in
theorem dM_answered_216 : decode bM_answered 216 = .ok (.iload 9, 2) := by decide +kernel
set_option maxRecDepth 100000 in
theorem dM_answered_218 : decode bM_answered 218 = .ok (.iaload, 1) := by decide +kernel
set_option maxRecDepth 100000 in
theorem dM_answered_219 : decode bM_answered 219 = .ok (.tableswitch 66 0 2 #[25, 43, 51], 25) := by decide +kernel
set_option maxRecDepth 100000 in
theorem dM_answered_244 : decode bM_answered 244 = .ok (.aload_n 0, 1) := by decide +kernel
set_option maxRecDepth 100000 in
theorem dM_answered_245 : decode bM_answered 245 = .ok (.getfield 13, 3) := by decide +kernel
set_option maxRecDepth 100000 in
theorem dM_answered_248 : decode bM_answered 248 = .ok (.iload 6, 2) := by decide +kernel
set_option maxRecDepth 100000 in
theorem dM_answered_250 : decode bM_answered 250 = .ok (.baload, 1) := by decide +kernel
set_option maxRecDepth 100000 in
theorem dM_answered_251 : decode bM_answered 251 = .ok (.ifCond .eq 9, 3) := by decide +kernel
set_option maxRecDepth 100000 in
theorem dM_answered_254 : decode bM_answered 254 = .ok (.iload 10, 2) := by decide +kernel
set_option maxRecDepth 100000 in
theorem dM_answered_256 : decode bM_answered 256 = .ok (.i2l, 1) := by decide +kernel
set_option maxRecDepth 100000 in
theorem dM_answered_257 : decode bM_answered 257 = .ok (.goto 4, 3) := by decide +kernel
set_option maxRecDepth 100000 in
theorem dM_answered_260 : decode bM_answered 260 = .ok (.lconst 0, 1) := by decide +kernel
set_option maxRecDepth 100000 in
theorem dM_answered_261 : decode bM_answered 261 = .ok (.lreturn, 1) := by decide +kernel
set_option maxRecDepth 100000 in
theorem dM_answered_262 : decode bM_answered 262 = .ok (.ldc2_w 176, 3) := by decide +kernel
set_option maxRecDepth 100000 in
theorem dM_answered_265 : decode bM_answered 265 = .ok (.iload 10, 2) := by decide +kernel
set_option maxRecDepth 100000 in
theorem dM_answered_267 : decode bM_answered 267 = .ok (.i2l, 1) := by decide +kernel
set_option maxRecDepth 100000 in
theorem dM_answered_268 : decode bM_answered 268 = .ok (.ladd, 1) := by decide +kernel
set_option maxRecDepth 100000 in
theorem dM_answered_269 : decode bM_answered 269 = .ok (.lreturn, 1) := by decide +kernel
set_option maxRecDepth 100000 in
theorem dM_answered_270 : decode bM_answered 270 = .ok (.iload 10, 2) := by decide +kernel
set_option maxRecDepth 100000 in
theorem dM_answered_272 : decode bM_answered 272 = .ok (.ifCond .ne 9, 3) := by decide +kernel
set_option maxRecDepth 100000 in
theorem dM_answered_275 : decode bM_answered 275 = .ok (.iload 4, 2) := by decide +kernel
set_option maxRecDepth 100000 in
theorem dM_answered_277 : decode bM_answered 277 = .ok (.i2l, 1) := by decide +kernel
set_option maxRecDepth 100000 in
theorem dM_answered_278 : decode bM_answered 278 = .ok (.goto 6, 3) := by decide +kernel
set_option maxRecDepth 100000 in
theorem dM_answered_281 : decode bM_answered 281 = .ok (.iload 5, 2) := by decide +kernel
set_option maxRecDepth 100000 in
theorem dM_answered_283 : decode bM_answered 283 = .ok (.i2l, 1) := by decide +kernel
set_option maxRecDepth 100000 in
theorem dM_answered_284 : decode bM_answered 284 = .ok (.lreturn, 1) := by decide +kernel
set_option maxRecDepth 100000 in
theorem dM_answered_285 : decode bM_answered 285 = .ok (.iload 7, 2) := by decide +kernel
set_option maxRecDepth 100000 in
theorem dM_answered_287 : decode bM_answered 287 = .ok (.i2l, 1) := by decide +kernel
set_option maxRecDepth 100000 in
theorem dM_answered_288 : decode bM_answered 288 = .ok (.lreturn, 1) := by decide +kernel
set_option maxRecDepth 100000 in
theorem dM_answered_289 : decode bM_answered 289 = .ok (.iinc 8 (-1), 3) := by decide +kernel
set_option maxRecDepth 100000 in
theorem dM_answered_292 : decode bM_answered 292 = .ok (.goto (-221), 3) := by decide +kernel
set_option maxRecDepth 100000 in
theorem dM_answered_295 : decode bM_answered 295 = .ok (.aload_n 0, 1) := by decide +kernel
set_option maxRecDepth 100000 in
theorem dM_answered_296 : decode bM_answered 296 = .ok (.getfield 20, 3) := by decide +kernel
set_option maxRecDepth 100000 in
theorem dM_answered_299 : decode bM_answered 299 = .ok (.iload_n 2, 1) := by decide +kernel
set_option maxRecDepth 100000 in
theorem dM_answered_300 : decode bM_answered 300 = .ok (.iaload, 1) := by decide +kernel
set_option maxRecDepth 100000 in
theorem dM_answered_301 : decode bM_answered 301 = .ok (.ifCond .ne 7, 3) := by decide +kernel
set_option maxRecDepth 100000 in
theorem dM_answered_304 : decode bM_answered 304 = .ok (.lconst 0, 1) := by decide +kernel
set_option maxRecDepth 100000 in
theorem dM_answered_305 : decode bM_answered 305 = .ok (.goto 22, 3) := by decide +kernel
set_option maxRecDepth 100000 in
theorem dM_answered_308 : decode bM_answered 308 = .ok (.aload_n 0, 1) := by decide +kernel
set_option maxRecDepth 100000 in
theorem dM_answered_309 : decode bM_answered 309 = .ok (.getfield 20, 3) := by decide +kernel
set_option maxRecDepth 100000 in
theorem dM_answered_312 : decode bM_answered 312 = .ok (.iload_n 2, 1) := by decide +kernel
set_option maxRecDepth 100000 in
theorem dM_answered_313 : decode bM_answered 313 = .ok (.iaload, 1) := by decide +kernel
set_option maxRecDepth 100000 in
theorem dM_answered_314 : decode bM_answered 314 = .ok (.iconst 1, 1) := by decide +kernel
set_option maxRecDepth 100000 in
theorem dM_answered_315 : decode bM_answered 315 = .ok (.if_icmp .ne 9, 3) := by decide +kernel
set_option maxRecDepth 100000 in
theorem dM_answered_318 : decode bM_answered 318 = .ok (.iload 7, 2) := by decide +kernel
set_option maxRecDepth 100000 in
theorem dM_answered_320 : decode bM_answered 320 = .ok (.i2l, 1) := by decide +kernel
set_option maxRecDepth 100000 in
theorem dM_answered_321 : decode bM_answered 321 = .ok (.goto 6, 3) := by decide +kernel
set_option maxRecDepth 100000 in
theorem dM_answered_324 : decode bM_answered 324 = .ok (.ldc2_w 178, 3) := by decide +kernel
set_option maxRecDepth 100000 in
theorem dM_answered_327 : decode bM_answered 327 = .ok (.lreturn, 1) := by decide +kernel
def fM_answered_289 (N : Nat) (rec71 : yS → Int32 → Int32 → Int32 → Int32 → Int32 → Int32 → Int32 → Int32 → Option (Int64 × yS)) (τ : yS) (a1 : Int32) (a2 : Int32) (a3 : Int32) (a4 : Int32) (a5 : Int32) (a6 : Int32) (a7 : Int32) (a8 : Int32) : Option (Int64 × yS) :=
  rec71 τ a1 a2 a3 a4 a5 a6 a7 (a8 + (-1))
def fM_answered_181 (N : Nat) (τ : yS) (a1 : Int32) (a4 : Int32) (a5 : Int32) (a6 : Int32) (a7 : Int32) (a8 : Int32) (t0 : Int32) (t1 : Int32) : Option (Int64 × yS) :=
  if ¬ ((t1 + t0) < 0 ∨ 68 ≤ (t1 + t0).toNatClampNeg) then
  if ¬ (a8 < 0 ∨ 16 ≤ a8.toNatClampNeg) then
  xl (y_si τ 48 0 a8.toNatClampNeg ((τ 48 0 a8.toNatClampNeg) + 1)) fun s28 =>
  if ¬ (a1 < 0 ∨ 40 ≤ a1.toNatClampNeg) then
  xl (y_si s28 43 0 a1.toNatClampNeg a8) fun s30 =>
  if (s30 49 0 ((t1 + t0).toNatClampNeg)) = 0 then
  (if ¬ (a6 < 0 ∨ 12 ≤ a6.toNatClampNeg) then
  if (s30 32 0 a6.toNatClampNeg) = 0 then
  (some (0, s30))
  else
  (some ((τ 50 0 ((t1 + t0).toNatClampNeg)).toInt64, s30))
  else none)
  else
  (if (s30 49 0 ((t1 + t0).toNatClampNeg)) = 1 then
  (some (1099511627776 + ((τ 50 0 ((t1 + t0).toNatClampNeg)).toInt64), s30))
  else
  (if (s30 49 0 ((t1 + t0).toNatClampNeg)) = 2 then
  (if (τ 50 0 ((t1 + t0).toNatClampNeg)) = 0 then
  (some (a4.toInt64, s30))
  else
  (some (a5.toInt64, s30)))
  else
  (some (a7.toInt64, s30))))
  else none
  else none
  else none
def fM_answered_71b (N : Nat) (rec71 : yS → Int32 → Int32 → Int32 → Int32 → Int32 → Int32 → Int32 → Int32 → Option (Int64 × yS)) (τ : yS) (a1 : Int32) (a2 : Int32) (a3 : Int32) (a4 : Int32) (a5 : Int32) (a6 : Int32) (a7 : Int32) (a8 : Int32) : Option (Int64 × yS) :=
  if a8 < 0 then
  (if ¬ (a2 < 0 ∨ 6 ≤ a2.toNatClampNeg) then
  if (τ 34 0 a2.toNatClampNeg) = 0 then
  (some (0, τ))
  else
  (if (τ 34 0 a2.toNatClampNeg) = 1 then
  (some (a7.toInt64, τ))
  else
  (some (2199023255552, τ)))
  else none)
  else
  (if ¬ (a8 < 0 ∨ 16 ≤ a8.toNatClampNeg) then
  if (τ 51 0 a8.toNatClampNeg) = 0 then
  (if ¬ (a8 < 0 ∨ 17 ≤ a8.toNatClampNeg) then
  if (τ 47 0 a8.toNatClampNeg) = 0 then
  (fM_answered_289 N rec71 τ a1 a2 a3 a4 a5 a6 a7 a8)
  else
  (if (τ 45 0 a8.toNatClampNeg) = a2 then
  (if (τ 46 0 a8.toNatClampNeg) = a3 then
  (xp (fM_matchesCall N τ (88 + (2 * a8)) a6 a4 a5) fun r48 =>
  if r48 = 0 then
  (fM_answered_289 N rec71 τ a1 a2 a3 a4 a5 a6 a7 a8)
  else
  (if (τ 47 0 a8.toNatClampNeg) ≤ (τ 48 0 a8.toNatClampNeg) then
  (fM_answered_181 N τ a1 a4 a5 a6 a7 a8 ((τ 47 0 a8.toNatClampNeg) - 1) (4 * a8))
  else
  (fM_answered_181 N τ a1 a4 a5 a6 a7 a8 (τ 48 0 a8.toNatClampNeg) (4 * a8))))
  else
  (fM_answered_289 N rec71 τ a1 a2 a3 a4 a5 a6 a7 a8))
  else
  (fM_answered_289 N rec71 τ a1 a2 a3 a4 a5 a6 a7 a8))
  else none)
  else
  (fM_answered_289 N rec71 τ a1 a2 a3 a4 a5 a6 a7 a8)
  else none)
def fM_answered_71 (N : Nat) : Nat → yS → Int32 → Int32 → Int32 → Int32 → Int32 → Int32 → Int32 → Int32 → Option (Int64 × yS)
  | 0, _, _, _, _, _, _, _, _, _ => none
  | n + 1, τ, a1, a2, a3, a4, a5, a6, a7, a8 => fM_answered_71b N (fM_answered_71 N n) τ a1 a2 a3 a4 a5 a6 a7 a8
def fM_answered_61 (N : Nat) (τ : yS) (a1 : Int32) (a2 : Int32) (a3 : Int32) (a4 : Int32) (a5 : Int32) (a6 : Int32) (t0 : Int32) : Option (Int64 × yS) :=
  fM_answered_71 N N τ a1 a2 a3 a4 a5 a6 t0 ((τ 30 0 29) - 1)
def fM_answered (N : Nat) (τ : yS) (a1 : Int32) : Option (Int64 × yS) :=
  if ¬ (a1 < 0 ∨ 40 ≤ a1.toNatClampNeg) then
  xp (fM_shape τ (τ 39 0 a1.toNatClampNeg) (τ 40 0 a1.toNatClampNeg)) fun r53 =>
  if ¬ (r53 < 0 ∨ 12 ≤ r53.toNatClampNeg) then
  if (τ 32 0 r53.toNatClampNeg) = 0 then
  (fM_answered_61 N τ a1 (τ 39 0 a1.toNatClampNeg) (τ 40 0 a1.toNatClampNeg) (τ 41 0 a1.toNatClampNeg) (τ 42 0 a1.toNatClampNeg) r53 0)
  else
  (fM_answered_61 N τ a1 (τ 39 0 a1.toNatClampNeg) (τ 40 0 a1.toNatClampNeg) (τ 41 0 a1.toNatClampNeg) (τ 42 0 a1.toNatClampNeg) r53 (fM_real (τ 40 0 a1.toNatClampNeg) (τ 41 0 a1.toNatClampNeg) (τ 42 0 a1.toNatClampNeg)))
  else none
  else none
set_option maxHeartbeats 4000000 in
set_option maxRecDepth 100000 in
theorem wM_answered_289 {p : Program} {l : Launch} {e : Env} {R : Room} {s : State} {m : MethodId} {args : Array Value} {below : List Frame} {meth : Method} {c : Code} {E : xE} {A : Nat → Prop} {σ : xS} (C : xC p s m args meth c R E A bM_answered 11 yM_answered (some .long) 2 0 0) (N : Nat) (τ : yS) (rec71 : yS → Int32 → Int32 → Int32 → Int32 → Int32 → Int32 → Int32 → Int32 → Option (Int64 × yS)) (hrec71 : ∀ (τ : yS) (a1 : Int32) (a2 : Int32) (a3 : Int32) (a4 : Int32) (a5 : Int32) (a6 : Int32) (a7 : Int32) (a8 : Int32) (res : Int64 × yS), rec71 τ a1 a2 a3 a4 a5 a6 a7 a8 = some res → ∀ (H : Heap) (locs : List Loc) (ls : Array Slot), xW E A s σ τ H locs → lv_has ls 11 [(0, .ref (E.2.2.1 30 0)), (1, .int a1), (2, .int a2), (3, .int a3), (4, .int a4), (5, .int a5), (6, .int a6), (7, .int a7), (8, .int a8)] → W p l e R s m args below meth c H locs 0 0 (MQ below (xQ E A (some (.long res.1)) σ res.2) args s 0 0 A) (F0 m 71 ls [])) (a1 : Int32) (a2 : Int32) (a3 : Int32) (a4 : Int32) (a5 : Int32) (a6 : Int32) (a7 : Int32) (a8 : Int32) (res : Int64 × yS) (hf : fM_answered_289 N rec71 τ a1 a2 a3 a4 a5 a6 a7 a8 = some res) (H : Heap) (locs : List Loc) (ls : Array Slot) (hw : xW E A s σ τ H locs) (hl : lv_has ls 11 [(0, .ref (E.2.2.1 30 0)), (1, .int a1), (2, .int a2), (3, .int a3), (4, .int a4), (5, .int a5), (6, .int a6), (7, .int a7), (8, .int a8)]) : W p l e R s m args below meth c H locs 0 0 (MQ below (xQ E A (some (.long res.1)) σ res.2) args s 0 0 A) (F0 m 289 ls []) := by
  have hx := C.1
  have hb := C.2.1
  unfold fM_answered_289 at hf
  refine lv_iinc (v := a8 + (-1)) (lv' := [(8, .int (a8 + (-1))), (0, .ref (E.2.2.1 30 0)), (1, .int a1), (2, .int a2), (3, .int a3), (4, .int a4), (5, .int a5), (6, .int a6), (7, .int a7)]) hx hb dM_answered_289 hl (k := 8) rfl rfl (by decide) rfl (fun ls hl => ?_)
  refine lv_goto (tgt := 71) hx hb dM_answered_292 (by decide) ?_
  exact hrec71 τ a1 a2 a3 a4 a5 a6 a7 (a8 + (-1)) res hf H locs ls hw (lv_sub hl [1, 2, 3, 4, 5, 6, 7, 8, 0] rfl)
set_option maxHeartbeats 4000000 in
set_option maxRecDepth 100000 in
theorem wM_answered_181 {p : Program} {l : Launch} {e : Env} {R : Room} {s : State} {m : MethodId} {args : Array Value} {below : List Frame} {meth : Method} {c : Code} {E : xE} {A : Nat → Prop} {σ : xS} (C : xC p s m args meth c R E A bM_answered 11 yM_answered (some .long) 2 0 0) (N : Nat) (τ : yS) (a1 : Int32) (a4 : Int32) (a5 : Int32) (a6 : Int32) (a7 : Int32) (a8 : Int32) (t0 : Int32) (t1 : Int32) (res : Int64 × yS) (hf : fM_answered_181 N τ a1 a4 a5 a6 a7 a8 t0 t1 = some res) (H : Heap) (locs : List Loc) (ls : Array Slot) (hw : xW E A s σ τ H locs) (hl : lv_has ls 11 [(0, .ref (E.2.2.1 30 0)), (1, .int a1), (4, .int a4), (5, .int a5), (6, .int a6), (7, .int a7), (8, .int a8)]) : W p l e R s m args below meth c H locs 0 0 (MQ below (xQ E A (some (.long res.1)) σ res.2) args s 0 0 A) (F0 m 181 ls [.int t0, .int t1]) := by
  have hx := C.1
  have hb := C.2.1
  unfold fM_answered_181 at hf
  refine lv_iadd hx hb dM_answered_181 ?_
  refine lv_istore (lv' := [(9, .int (t1 + t0)), (0, .ref (E.2.2.1 30 0)), (1, .int a1), (4, .int a4), (5, .int a5), (6, .int a6), (7, .int a7), (8, .int a8)]) hx hb dM_answered_182 hl (by decide) rfl (fun ls hl => ?_)
  refine lv_aload_n hx hb dM_answered_184 rfl (lv_at hl 1 rfl) ?_
  refine y_get C hw 30 0 27 (v := .ref (E.2.2.1 50 0)) at_30 rfl rfl ⟨by decide, by decide⟩ wM_68 rfl dM_answered_185 ?_
  refine lv_iload hx hb dM_answered_188 (lv_at hl 0 rfl) ?_
  obtain ⟨g26, hf⟩ := x_g hf
  refine y_ild C hw 50 0 at_50 rfl g26 dM_answered_190 ?_
  refine lv_istore (lv' := [(10, .int (τ 50 0 ((t1 + t0).toNatClampNeg))), (9, .int (t1 + t0)), (0, .ref (E.2.2.1 30 0)), (1, .int a1), (4, .int a4), (5, .int a5), (6, .int a6), (7, .int a7), (8, .int a8)]) hx hb dM_answered_191 hl (by decide) rfl (fun ls hl => ?_)
  refine lv_aload_n hx hb dM_answered_193 rfl (lv_at hl 2 rfl) ?_
  refine y_get C hw 30 0 25 (v := .ref (E.2.2.1 48 0)) at_30 rfl rfl ⟨by decide, by decide⟩ wM_62 rfl dM_answered_194 ?_
  refine lv_iload hx hb dM_answered_197 (lv_at hl 8 rfl) ?_
  refine lv_dup2_11 hx hb dM_answered_199 rfl rfl ?_
  obtain ⟨g27, hf⟩ := x_g hf
  refine y_ild C hw 48 0 at_48 rfl g27 dM_answered_200 ?_
  refine lv_iconst (v := 1) hx hb dM_answered_201 (by decide) ?_
  refine lv_iadd hx hb dM_answered_202 ?_
  refine y_ist C hw 48 0 at_48 rfl rfl g27 dM_answered_203 (fun H locs hw => ?_)
  obtain ⟨s28, es28, hf⟩ := x_l hf
  rw [← es28] at hw
  refine lv_aload_n hx hb dM_answered_204 rfl (lv_at hl 2 rfl) ?_
  refine y_get C hw 30 0 18 (v := .ref (E.2.2.1 43 0)) at_30 rfl rfl ⟨by decide, by decide⟩ wM_47 rfl dM_answered_205 ?_
  refine lv_iload_n hx hb dM_answered_208 rfl (lv_at hl 3 rfl) ?_
  refine lv_iload hx hb dM_answered_209 (lv_at hl 8 rfl) ?_
  obtain ⟨g29, hf⟩ := x_g hf
  refine y_ist C hw 43 0 at_43 rfl rfl g29 dM_answered_211 (fun H locs hw => ?_)
  obtain ⟨s30, es30, hf⟩ := x_l hf
  rw [← es30] at hw
  refine lv_aload_n hx hb dM_answered_212 rfl (lv_at hl 2 rfl) ?_
  refine y_get C hw 30 0 26 (v := .ref (E.2.2.1 49 0)) at_30 rfl rfl ⟨by decide, by decide⟩ wM_65 rfl dM_answered_213 ?_
  refine lv_iload hx hb dM_answered_216 (lv_at hl 1 rfl) ?_
  refine y_ild C hw 49 0 at_49 rfl g26 dM_answered_218 ?_
  by_cases c31 : (s30 49 0 ((t1 + t0).toNatClampNeg)) = 0
  · replace hf := x_ip c31 hf
    refine lv_tableIn (tgt := 244) hx hb dM_answered_219 (by rw [c31]; decide) (by rw [c31]; decide) (by rw [c31]; rfl) (by decide) ?_
    refine lv_aload_n hx hb dM_answered_244 rfl (lv_at hl 2 rfl) ?_
    refine y_get C hw 30 0 1 (v := .ref (E.2.2.1 32 0)) at_30 rfl rfl ⟨by decide, by decide⟩ wM_13 rfl dM_answered_245 ?_
    refine lv_iload hx hb dM_answered_248 (lv_at hl 6 rfl) ?_
    obtain ⟨g32, hf⟩ := x_g hf
    refine y_zld C hw 32 0 at_32 rfl g32 dM_answered_250 ?_
    refine lv_if_eq (tgt := 260) hx hb dM_answered_251 (by decide) (fun c33 => ?_) (fun c33 => ?_)
    · replace hf := x_ip c33 hf
      refine lv_lconst (v := 0) hx hb dM_answered_260 (by decide) ?_
      obtain rfl := Option.some.inj hf
      exact x_lret C hw dM_answered_261
    · replace hf := x_in c33 hf
      refine lv_iload hx hb dM_answered_254 (lv_at hl 0 rfl) ?_
      refine lv_i2l hx hb dM_answered_256 rfl ?_
      refine lv_goto (tgt := 261) hx hb dM_answered_257 (by decide) ?_
      obtain rfl := Option.some.inj hf
      exact x_lret C hw dM_answered_261
  · replace hf := x_in c31 hf
    by_cases c34 : (s30 49 0 ((t1 + t0).toNatClampNeg)) = 1
    · replace hf := x_ip c34 hf
      refine lv_tableIn (tgt := 262) hx hb dM_answered_219 (by rw [c34]; decide) (by rw [c34]; decide) (by rw [c34]; rfl) (by decide) ?_
      refine lv_ldc2 (v := 1099511627776) hx hb C.own (C.tb wM_176) dM_answered_262 ?_
      refine lv_iload hx hb dM_answered_265 (lv_at hl 0 rfl) ?_
      refine lv_i2l hx hb dM_answered_267 rfl ?_
      refine lv_ladd hx hb dM_answered_268 ?_
      obtain rfl := Option.some.inj hf
      exact x_lret C hw dM_answered_269
    · replace hf := x_in c34 hf
      by_cases c35 : (s30 49 0 ((t1 + t0).toNatClampNeg)) = 2
      · replace hf := x_ip c35 hf
        refine lv_tableIn (tgt := 270) hx hb dM_answered_219 (by rw [c35]; decide) (by rw [c35]; decide) (by rw [c35]; rfl) (by decide) ?_
        refine lv_iload hx hb dM_answered_270 (lv_at hl 0 rfl) ?_
        refine lv_if_ne (tgt := 281) hx hb dM_answered_272 (by decide) (fun c36 => ?_) (fun c36 => ?_)
        · replace hf := x_in c36 hf
          refine lv_iload hx hb dM_answered_281 (lv_at hl 5 rfl) ?_
          refine lv_i2l hx hb dM_answered_283 rfl ?_
          obtain rfl := Option.some.inj hf
          exact x_lret C hw dM_answered_284
        · replace hf := x_ip c36 hf
          refine lv_iload hx hb dM_answered_275 (lv_at hl 4 rfl) ?_
          refine lv_i2l hx hb dM_answered_277 rfl ?_
          refine lv_goto (tgt := 284) hx hb dM_answered_278 (by decide) ?_
          obtain rfl := Option.some.inj hf
          exact x_lret C hw dM_answered_284
      · replace hf := x_in c35 hf
        refine lv_tableOut (tgt := 285) hx hb dM_answered_219 (by have nc31 := lv_neT c31 (a := 0) (by decide); have nc34 := lv_neT c34 (a := 1) (by decide); have nc35 := lv_neT c35 (a := 2) (by decide); omega) (by decide) ?_
        refine lv_iload hx hb dM_answered_285 (lv_at hl 7 rfl) ?_
        refine lv_i2l hx hb dM_answered_287 rfl ?_
        obtain rfl := Option.some.inj hf
        exact x_lret C hw dM_answered_288
set_option maxHeartbeats 4000000 in
set_option maxRecDepth 100000 in
theorem wM_answered_71b {p : Program} {l : Launch} {e : Env} {R : Room} {s : State} {m : MethodId} {args : Array Value} {below : List Frame} {meth : Method} {c : Code} {E : xE} {A : Nat → Prop} {σ : xS} (C : xC p s m args meth c R E A bM_answered 11 yM_answered (some .long) 2 0 0) (N : Nat) (τ : yS) (rec71 : yS → Int32 → Int32 → Int32 → Int32 → Int32 → Int32 → Int32 → Int32 → Option (Int64 × yS)) (hrec71 : ∀ (τ : yS) (a1 : Int32) (a2 : Int32) (a3 : Int32) (a4 : Int32) (a5 : Int32) (a6 : Int32) (a7 : Int32) (a8 : Int32) (res : Int64 × yS), rec71 τ a1 a2 a3 a4 a5 a6 a7 a8 = some res → ∀ (H : Heap) (locs : List Loc) (ls : Array Slot), xW E A s σ τ H locs → lv_has ls 11 [(0, .ref (E.2.2.1 30 0)), (1, .int a1), (2, .int a2), (3, .int a3), (4, .int a4), (5, .int a5), (6, .int a6), (7, .int a7), (8, .int a8)] → W p l e R s m args below meth c H locs 0 0 (MQ below (xQ E A (some (.long res.1)) σ res.2) args s 0 0 A) (F0 m 71 ls [])) (a1 : Int32) (a2 : Int32) (a3 : Int32) (a4 : Int32) (a5 : Int32) (a6 : Int32) (a7 : Int32) (a8 : Int32) (res : Int64 × yS) (hf : fM_answered_71b N rec71 τ a1 a2 a3 a4 a5 a6 a7 a8 = some res) (H : Heap) (locs : List Loc) (ls : Array Slot) (hw : xW E A s σ τ H locs) (hl : lv_has ls 11 [(0, .ref (E.2.2.1 30 0)), (1, .int a1), (2, .int a2), (3, .int a3), (4, .int a4), (5, .int a5), (6, .int a6), (7, .int a7), (8, .int a8)]) : W p l e R s m args below meth c H locs 0 0 (MQ below (xQ E A (some (.long res.1)) σ res.2) args s 0 0 A) (F0 m 71 ls []) := by
  have hx := C.1
  have hb := C.2.1
  unfold fM_answered_71b at hf
  refine lv_iload hx hb dM_answered_71 (lv_at hl 8 rfl) ?_
  refine lv_if_lt (tgt := 295) hx hb dM_answered_73 (by decide) (fun c37 => ?_) (fun c37 => ?_)
  · replace hf := x_ip c37 hf
    refine lv_aload_n hx hb dM_answered_295 rfl (lv_at hl 0 rfl) ?_
    refine y_get C hw 30 0 3 (v := .ref (E.2.2.1 34 0)) at_30 rfl rfl ⟨by decide, by decide⟩ wM_20 rfl dM_answered_296 ?_
    refine lv_iload_n hx hb dM_answered_299 rfl (lv_at hl 2 rfl) ?_
    obtain ⟨g38, hf⟩ := x_g hf
    refine y_ild C hw 34 0 at_34 rfl g38 dM_answered_300 ?_
    refine lv_if_ne (tgt := 308) hx hb dM_answered_301 (by decide) (fun c39 => ?_) (fun c39 => ?_)
    · replace hf := x_in c39 hf
      refine lv_aload_n hx hb dM_answered_308 rfl (lv_at hl 0 rfl) ?_
      refine y_get C hw 30 0 3 (v := .ref (E.2.2.1 34 0)) at_30 rfl rfl ⟨by decide, by decide⟩ wM_20 rfl dM_answered_309 ?_
      refine lv_iload_n hx hb dM_answered_312 rfl (lv_at hl 2 rfl) ?_
      refine y_ild C hw 34 0 at_34 rfl g38 dM_answered_313 ?_
      refine lv_iconst (v := 1) hx hb dM_answered_314 (by decide) ?_
      refine lv_icmp_ne (tgt := 324) hx hb dM_answered_315 (by decide) (fun c40 => ?_) (fun c40 => ?_)
      · replace hf := x_in c40 hf
        refine lv_ldc2 (v := 2199023255552) hx hb C.own (C.tb wM_178) dM_answered_324 ?_
        obtain rfl := Option.some.inj hf
        exact x_lret C hw dM_answered_327
      · replace hf := x_ip c40 hf
        refine lv_iload hx hb dM_answered_318 (lv_at hl 7 rfl) ?_
        refine lv_i2l hx hb dM_answered_320 rfl ?_
        refine lv_goto (tgt := 327) hx hb dM_answered_321 (by decide) ?_
        obtain rfl := Option.some.inj hf
        exact x_lret C hw dM_answered_327
    · replace hf := x_ip c39 hf
      refine lv_lconst (v := 0) hx hb dM_answered_304 (by decide) ?_
      refine lv_goto (tgt := 327) hx hb dM_answered_305 (by decide) ?_
      obtain rfl := Option.some.inj hf
      exact x_lret C hw dM_answered_327
  · replace hf := x_in c37 hf
    refine lv_aload_n hx hb dM_answered_76 rfl (lv_at hl 0 rfl) ?_
    refine y_get C hw 30 0 28 (v := .ref (E.2.2.1 51 0)) at_30 rfl rfl ⟨by decide, by decide⟩ wM_71 rfl dM_answered_77 ?_
    refine lv_iload hx hb dM_answered_80 (lv_at hl 8 rfl) ?_
    obtain ⟨g41, hf⟩ := x_g hf
    refine y_zld C hw 51 0 at_51 rfl g41 dM_answered_82 ?_
    refine lv_if_ne (tgt := 289) hx hb dM_answered_83 (by decide) (fun c42 => ?_) (fun c42 => ?_)
    · replace hf := x_in c42 hf
      exact wM_answered_289 C N τ rec71 hrec71 a1 a2 a3 a4 a5 a6 a7 a8 res hf H locs ls hw (lv_sub hl [0, 1, 2, 3, 4, 5, 6, 7, 8] rfl)
    · replace hf := x_ip c42 hf
      refine lv_aload_n hx hb dM_answered_86 rfl (lv_at hl 0 rfl) ?_
      refine y_get C hw 30 0 24 (v := .ref (E.2.2.1 47 0)) at_30 rfl rfl ⟨by decide, by decide⟩ wM_59 rfl dM_answered_87 ?_
      refine lv_iload hx hb dM_answered_90 (lv_at hl 8 rfl) ?_
      obtain ⟨g43, hf⟩ := x_g hf
      refine y_ild C hw 47 0 at_47 rfl g43 dM_answered_92 ?_
      refine lv_if_eq (tgt := 289) hx hb dM_answered_93 (by decide) (fun c44 => ?_) (fun c44 => ?_)
      · replace hf := x_ip c44 hf
        exact wM_answered_289 C N τ rec71 hrec71 a1 a2 a3 a4 a5 a6 a7 a8 res hf H locs ls hw (lv_sub hl [0, 1, 2, 3, 4, 5, 6, 7, 8] rfl)
      · replace hf := x_in c44 hf
        refine lv_aload_n hx hb dM_answered_96 rfl (lv_at hl 0 rfl) ?_
        refine y_get C hw 30 0 22 (v := .ref (E.2.2.1 45 0)) at_30 rfl rfl ⟨by decide, by decide⟩ wM_53 rfl dM_answered_97 ?_
        refine lv_iload hx hb dM_answered_100 (lv_at hl 8 rfl) ?_
        refine y_ild C hw 45 0 at_45 rfl g41 dM_answered_102 ?_
        refine lv_iload_n hx hb dM_answered_103 rfl (lv_at hl 2 rfl) ?_
        refine lv_icmp_ne (tgt := 289) hx hb dM_answered_104 (by decide) (fun c45 => ?_) (fun c45 => ?_)
        · replace hf := x_in c45 hf
          exact wM_answered_289 C N τ rec71 hrec71 a1 a2 a3 a4 a5 a6 a7 a8 res hf H locs ls hw (lv_sub hl [0, 1, 2, 3, 4, 5, 6, 7, 8] rfl)
        · replace hf := x_ip c45 hf
          refine lv_aload_n hx hb dM_answered_107 rfl (lv_at hl 0 rfl) ?_
          refine y_get C hw 30 0 23 (v := .ref (E.2.2.1 46 0)) at_30 rfl rfl ⟨by decide, by decide⟩ wM_56 rfl dM_answered_108 ?_
          refine lv_iload hx hb dM_answered_111 (lv_at hl 8 rfl) ?_
          refine y_ild C hw 46 0 at_46 rfl g41 dM_answered_113 ?_
          refine lv_iload_n hx hb dM_answered_114 rfl (lv_at hl 3 rfl) ?_
          refine lv_icmp_ne (tgt := 289) hx hb dM_answered_115 (by decide) (fun c46 => ?_) (fun c46 => ?_)
          · replace hf := x_in c46 hf
            exact wM_answered_289 C N τ rec71 hrec71 a1 a2 a3 a4 a5 a6 a7 a8 res hf H locs ls hw (lv_sub hl [0, 1, 2, 3, 4, 5, 6, 7, 8] rfl)
          · replace hf := x_ip c46 hf
            refine lv_aload_n hx hb dM_answered_118 rfl (lv_at hl 0 rfl) ?_
            refine lv_bipush (v := 88) hx hb dM_answered_119 (by decide) ?_
            refine lv_iconst (v := 2) hx hb dM_answered_121 (by decide) ?_
            refine lv_iload hx hb dM_answered_122 (lv_at hl 8 rfl) ?_
            refine lv_imul hx hb dM_answered_124 ?_
            refine lv_iadd hx hb dM_answered_125 ?_
            refine lv_iload hx hb dM_answered_126 (lv_at hl 6 rfl) ?_
            refine lv_iload hx hb dM_answered_128 (lv_at hl 4 rfl) ?_
            refine lv_iload hx hb dM_answered_130 (lv_at hl 5 rfl) ?_
            obtain ⟨r48, h47, hf⟩ := x_p hf
            refine x_callV (As := [.int (88 + (2 * a8)), .int a6, .int a4, .int a5]) (rest := []) (st1 := [.int r48]) C hw (cM_matchesCall l E N τ σ (88 + (2 * a8)) a6 a4 a5 r48 h47) kM_172 (x_recvY C hw 30 0 at_30 rfl rfl) (by decide) rfl rfl hl.1 (lv_room (Nat.le_of_ble_eq_true rfl)) dM_answered_132 ⟨by decide, by decide⟩ rfl (fun H locs hw => ?_)
            refine lv_if_ne (tgt := 141) hx hb dM_answered_135 (by decide) (fun c49 => ?_) (fun c49 => ?_)
            · replace hf := x_in c49 hf
              refine lv_iconst (v := 4) hx hb dM_answered_141 (by decide) ?_
              refine lv_iload hx hb dM_answered_142 (lv_at hl 8 rfl) ?_
              refine lv_imul hx hb dM_answered_144 ?_
              refine lv_aload_n hx hb dM_answered_145 rfl (lv_at hl 0 rfl) ?_
              refine y_get C hw 30 0 25 (v := .ref (E.2.2.1 48 0)) at_30 rfl rfl ⟨by decide, by decide⟩ wM_62 rfl dM_answered_146 ?_
              refine lv_iload hx hb dM_answered_149 (lv_at hl 8 rfl) ?_
              refine y_ild C hw 48 0 at_48 rfl g41 dM_answered_151 ?_
              refine lv_aload_n hx hb dM_answered_152 rfl (lv_at hl 0 rfl) ?_
              refine y_get C hw 30 0 24 (v := .ref (E.2.2.1 47 0)) at_30 rfl rfl ⟨by decide, by decide⟩ wM_59 rfl dM_answered_153 ?_
              refine lv_iload hx hb dM_answered_156 (lv_at hl 8 rfl) ?_
              refine y_ild C hw 47 0 at_47 rfl g43 dM_answered_158 ?_
              refine lv_icmp_ge (tgt := 172) hx hb dM_answered_159 (by decide) (fun c50 => ?_) (fun c50 => ?_)
              · replace hf := x_ip c50 hf
                refine lv_aload_n hx hb dM_answered_172 rfl (lv_at hl 0 rfl) ?_
                refine y_get C hw 30 0 24 (v := .ref (E.2.2.1 47 0)) at_30 rfl rfl ⟨by decide, by decide⟩ wM_59 rfl dM_answered_173 ?_
                refine lv_iload hx hb dM_answered_176 (lv_at hl 8 rfl) ?_
                refine y_ild C hw 47 0 at_47 rfl g43 dM_answered_178 ?_
                refine lv_iconst (v := 1) hx hb dM_answered_179 (by decide) ?_
                refine lv_isub hx hb dM_answered_180 ?_
                exact wM_answered_181 C N τ a1 a4 a5 a6 a7 a8 ((τ 47 0 a8.toNatClampNeg) - 1) (4 * a8) res hf H locs ls hw (lv_sub hl [0, 1, 4, 5, 6, 7, 8] rfl)
              · replace hf := x_in c50 hf
                refine lv_aload_n hx hb dM_answered_162 rfl (lv_at hl 0 rfl) ?_
                refine y_get C hw 30 0 25 (v := .ref (E.2.2.1 48 0)) at_30 rfl rfl ⟨by decide, by decide⟩ wM_62 rfl dM_answered_163 ?_
                refine lv_iload hx hb dM_answered_166 (lv_at hl 8 rfl) ?_
                refine y_ild C hw 48 0 at_48 rfl g41 dM_answered_168 ?_
                refine lv_goto (tgt := 181) hx hb dM_answered_169 (by decide) ?_
                exact wM_answered_181 C N τ a1 a4 a5 a6 a7 a8 (τ 48 0 a8.toNatClampNeg) (4 * a8) res hf H locs ls hw (lv_sub hl [0, 1, 4, 5, 6, 7, 8] rfl)
            · replace hf := x_ip c49 hf
              refine lv_goto (tgt := 289) hx hb dM_answered_138 (by decide) ?_
              exact wM_answered_289 C N τ rec71 hrec71 a1 a2 a3 a4 a5 a6 a7 a8 res hf H locs ls hw (lv_sub hl [0, 1, 2, 3, 4, 5, 6, 7, 8] rfl)
set_option maxHeartbeats 4000000 in
set_option maxRecDepth 100000 in
theorem wM_answered_71 {p : Program} {l : Launch} {e : Env} {R : Room} {s : State} {m : MethodId} {args : Array Value} {below : List Frame} {meth : Method} {c : Code} {E : xE} {A : Nat → Prop} {σ : xS} (C : xC p s m args meth c R E A bM_answered 11 yM_answered (some .long) 2 0 0) (N : Nat) (n : Nat) : ∀ (τ : yS) (a1 : Int32) (a2 : Int32) (a3 : Int32) (a4 : Int32) (a5 : Int32) (a6 : Int32) (a7 : Int32) (a8 : Int32) (res : Int64 × yS), fM_answered_71 N n τ a1 a2 a3 a4 a5 a6 a7 a8 = some res → ∀ (H : Heap) (locs : List Loc) (ls : Array Slot), xW E A s σ τ H locs → lv_has ls 11 [(0, .ref (E.2.2.1 30 0)), (1, .int a1), (2, .int a2), (3, .int a3), (4, .int a4), (5, .int a5), (6, .int a6), (7, .int a7), (8, .int a8)] → W p l e R s m args below meth c H locs 0 0 (MQ below (xQ E A (some (.long res.1)) σ res.2) args s 0 0 A) (F0 m 71 ls []) := by
  induction n with
  | zero => intro τ a1 a2 a3 a4 a5 a6 a7 a8 res hf; cases hf
  | succ n ih =>
    intro τ a1 a2 a3 a4 a5 a6 a7 a8 res hf H locs ls hw hl
    exact wM_answered_71b C N τ (fM_answered_71 N n) ih a1 a2 a3 a4 a5 a6 a7 a8 res hf H locs ls hw hl
set_option maxHeartbeats 4000000 in
set_option maxRecDepth 100000 in
theorem wM_answered_61 {p : Program} {l : Launch} {e : Env} {R : Room} {s : State} {m : MethodId} {args : Array Value} {below : List Frame} {meth : Method} {c : Code} {E : xE} {A : Nat → Prop} {σ : xS} (C : xC p s m args meth c R E A bM_answered 11 yM_answered (some .long) 2 0 0) (N : Nat) (τ : yS) (a1 : Int32) (a2 : Int32) (a3 : Int32) (a4 : Int32) (a5 : Int32) (a6 : Int32) (t0 : Int32) (res : Int64 × yS) (hf : fM_answered_61 N τ a1 a2 a3 a4 a5 a6 t0 = some res) (H : Heap) (locs : List Loc) (ls : Array Slot) (hw : xW E A s σ τ H locs) (hl : lv_has ls 11 [(0, .ref (E.2.2.1 30 0)), (1, .int a1), (2, .int a2), (3, .int a3), (4, .int a4), (5, .int a5), (6, .int a6)]) : W p l e R s m args below meth c H locs 0 0 (MQ below (xQ E A (some (.long res.1)) σ res.2) args s 0 0 A) (F0 m 61 ls [.int t0]) := by
  have hx := C.1
  have hb := C.2.1
  unfold fM_answered_61 at hf
  refine lv_istore (lv' := [(7, .int t0), (0, .ref (E.2.2.1 30 0)), (1, .int a1), (2, .int a2), (3, .int a3), (4, .int a4), (5, .int a5), (6, .int a6)]) hx hb dM_answered_61 hl (by decide) rfl (fun ls hl => ?_)
  refine lv_aload_n hx hb dM_answered_63 rfl (lv_at hl 1 rfl) ?_
  refine y_get C hw 30 0 29 (v := .int (τ 30 0 29)) at_30 rfl rfl ⟨by decide, by decide⟩ wM_93 rfl dM_answered_64 ?_
  refine lv_iconst (v := 1) hx hb dM_answered_67 (by decide) ?_
  refine lv_isub hx hb dM_answered_68 ?_
  refine lv_istore (lv' := [(8, .int ((τ 30 0 29) - 1)), (7, .int t0), (0, .ref (E.2.2.1 30 0)), (1, .int a1), (2, .int a2), (3, .int a3), (4, .int a4), (5, .int a5), (6, .int a6)]) hx hb dM_answered_69 hl (by decide) rfl (fun ls hl => ?_)
  exact wM_answered_71 C N N τ a1 a2 a3 a4 a5 a6 t0 ((τ 30 0 29) - 1) res hf H locs ls hw (lv_sub hl [2, 3, 4, 5, 6, 7, 8, 1, 0] rfl)
set_option maxHeartbeats 4000000 in
set_option maxRecDepth 100000 in
theorem cM_answered (l : Launch) (E : xE) (N : Nat) (τ : yS) (σ : xS) (a1 : Int32) (res : Int64 × yS) (hf : fM_answered N τ a1 = some res) : xM l E yM_answered bM_answered 11 (some .long) 2 0 0 [.ref (E.2.2.1 30 0), .int a1] σ τ (some (.long res.1)) σ res.2 := by
  refine x_met (by decide) (Nat.le_of_ble_eq_true rfl) (fun p e R s m args below meth c A ls H locs C hw hl => ?_)
  have hl : lv_has ls 11 [(0, .ref (E.2.2.1 30 0)), (1, .int a1)] := hl
  have hx := C.1
  have hb := C.2.1
  unfold fM_answered at hf
  refine lv_aload_n hx hb dM_answered_0 rfl (lv_at hl 0 rfl) ?_
  refine y_get C hw 30 0 14 (v := .ref (E.2.2.1 39 0)) at_30 rfl rfl ⟨by decide, by decide⟩ wM_35 rfl dM_answered_1 ?_
  refine lv_iload_n hx hb dM_answered_4 rfl (lv_at hl 1 rfl) ?_
  obtain ⟨g51, hf⟩ := x_g hf
  refine y_ild C hw 39 0 at_39 rfl g51 dM_answered_5 ?_
  refine lv_istore_n (lv' := [(2, .int (τ 39 0 a1.toNatClampNeg)), (0, .ref (E.2.2.1 30 0)), (1, .int a1)]) hx hb dM_answered_6 rfl hl (by decide) rfl (fun ls hl => ?_)
  refine lv_aload_n hx hb dM_answered_7 rfl (lv_at hl 1 rfl) ?_
  refine y_get C hw 30 0 15 (v := .ref (E.2.2.1 40 0)) at_30 rfl rfl ⟨by decide, by decide⟩ wM_38 rfl dM_answered_8 ?_
  refine lv_iload_n hx hb dM_answered_11 rfl (lv_at hl 2 rfl) ?_
  refine y_ild C hw 40 0 at_40 rfl g51 dM_answered_12 ?_
  refine lv_istore_n (lv' := [(3, .int (τ 40 0 a1.toNatClampNeg)), (2, .int (τ 39 0 a1.toNatClampNeg)), (0, .ref (E.2.2.1 30 0)), (1, .int a1)]) hx hb dM_answered_13 rfl hl (by decide) rfl (fun ls hl => ?_)
  refine lv_aload_n hx hb dM_answered_14 rfl (lv_at hl 2 rfl) ?_
  refine y_get C hw 30 0 16 (v := .ref (E.2.2.1 41 0)) at_30 rfl rfl ⟨by decide, by decide⟩ wM_41 rfl dM_answered_15 ?_
  refine lv_iload_n hx hb dM_answered_18 rfl (lv_at hl 3 rfl) ?_
  refine y_ild C hw 41 0 at_41 rfl g51 dM_answered_19 ?_
  refine lv_istore (lv' := [(4, .int (τ 41 0 a1.toNatClampNeg)), (3, .int (τ 40 0 a1.toNatClampNeg)), (2, .int (τ 39 0 a1.toNatClampNeg)), (0, .ref (E.2.2.1 30 0)), (1, .int a1)]) hx hb dM_answered_20 hl (by decide) rfl (fun ls hl => ?_)
  refine lv_aload_n hx hb dM_answered_22 rfl (lv_at hl 3 rfl) ?_
  refine y_get C hw 30 0 17 (v := .ref (E.2.2.1 42 0)) at_30 rfl rfl ⟨by decide, by decide⟩ wM_44 rfl dM_answered_23 ?_
  refine lv_iload_n hx hb dM_answered_26 rfl (lv_at hl 4 rfl) ?_
  refine y_ild C hw 42 0 at_42 rfl g51 dM_answered_27 ?_
  refine lv_istore (lv' := [(5, .int (τ 42 0 a1.toNatClampNeg)), (4, .int (τ 41 0 a1.toNatClampNeg)), (3, .int (τ 40 0 a1.toNatClampNeg)), (2, .int (τ 39 0 a1.toNatClampNeg)), (0, .ref (E.2.2.1 30 0)), (1, .int a1)]) hx hb dM_answered_28 hl (by decide) rfl (fun ls hl => ?_)
  refine lv_aload_n hx hb dM_answered_30 rfl (lv_at hl 4 rfl) ?_
  refine lv_iload_n hx hb dM_answered_31 rfl (lv_at hl 3 rfl) ?_
  refine lv_iload_n hx hb dM_answered_32 rfl (lv_at hl 2 rfl) ?_
  obtain ⟨r53, h52, hf⟩ := x_p hf
  refine x_callV (As := [.int (τ 39 0 a1.toNatClampNeg), .int (τ 40 0 a1.toNatClampNeg)]) (rest := []) (st1 := [.int r53]) C hw (cM_shape l E τ σ (τ 39 0 a1.toNatClampNeg) (τ 40 0 a1.toNatClampNeg) r53 h52) kM_135 (x_recvY C hw 30 0 at_30 rfl rfl) (by decide) rfl rfl hl.1 (lv_room (Nat.le_of_ble_eq_true rfl)) dM_answered_33 ⟨by decide, by decide⟩ rfl (fun H locs hw => ?_)
  refine lv_istore (lv' := [(6, .int r53), (5, .int (τ 42 0 a1.toNatClampNeg)), (4, .int (τ 41 0 a1.toNatClampNeg)), (3, .int (τ 40 0 a1.toNatClampNeg)), (2, .int (τ 39 0 a1.toNatClampNeg)), (0, .ref (E.2.2.1 30 0)), (1, .int a1)]) hx hb dM_answered_36 hl (by decide) rfl (fun ls hl => ?_)
  refine lv_aload_n hx hb dM_answered_38 rfl (lv_at hl 5 rfl) ?_
  refine y_get C hw 30 0 1 (v := .ref (E.2.2.1 32 0)) at_30 rfl rfl ⟨by decide, by decide⟩ wM_13 rfl dM_answered_39 ?_
  refine lv_iload hx hb dM_answered_42 (lv_at hl 0 rfl) ?_
  obtain ⟨g54, hf⟩ := x_g hf
  refine y_zld C hw 32 0 at_32 rfl g54 dM_answered_44 ?_
  refine lv_if_eq (tgt := 60) hx hb dM_answered_45 (by decide) (fun c55 => ?_) (fun c55 => ?_)
  · replace hf := x_ip c55 hf
    refine lv_iconst (v := 0) hx hb dM_answered_60 (by decide) ?_
    exact wM_answered_61 C N τ a1 (τ 39 0 a1.toNatClampNeg) (τ 40 0 a1.toNatClampNeg) (τ 41 0 a1.toNatClampNeg) (τ 42 0 a1.toNatClampNeg) r53 0 res hf H locs ls hw (lv_sub hl [5, 6, 4, 3, 2, 1, 0] rfl)
  · replace hf := x_in c55 hf
    refine lv_aload_n hx hb dM_answered_48 rfl (lv_at hl 5 rfl) ?_
    refine lv_iload_n hx hb dM_answered_49 rfl (lv_at hl 3 rfl) ?_
    refine lv_iload hx hb dM_answered_50 (lv_at hl 2 rfl) ?_
    refine lv_iload hx hb dM_answered_52 (lv_at hl 1 rfl) ?_
    refine x_callV (As := [.int (τ 40 0 a1.toNatClampNeg), .int (τ 41 0 a1.toNatClampNeg), .int (τ 42 0 a1.toNatClampNeg)]) (rest := []) (st1 := [.int (fM_real (τ 40 0 a1.toNatClampNeg) (τ 41 0 a1.toNatClampNeg) (τ 42 0 a1.toNatClampNeg))]) C hw (cM_real l E τ σ (τ 40 0 a1.toNatClampNeg) (τ 41 0 a1.toNatClampNeg) (τ 42 0 a1.toNatClampNeg)) kM_168 (x_recvY C hw 30 0 at_30 rfl rfl) (by decide) rfl rfl hl.1 (lv_room (Nat.le_of_ble_eq_true rfl)) dM_answered_54 ⟨by decide, by decide⟩ rfl (fun H locs hw => ?_)
    refine lv_goto (tgt := 61) hx hb dM_answered_57 (by decide) ?_
    exact wM_answered_61 C N τ a1 (τ 39 0 a1.toNatClampNeg) (τ 40 0 a1.toNatClampNeg) (τ 41 0 a1.toNatClampNeg) (τ 42 0 a1.toNatClampNeg) r53 (fM_real (τ 40 0 a1.toNatClampNeg) (τ 41 0 a1.toNatClampNeg) (τ 42 0 a1.toNatClampNeg)) res hf H locs ls hw (lv_sub hl [5, 6, 4, 3, 2, 1, 0] rfl)
