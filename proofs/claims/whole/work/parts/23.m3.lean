-- StandInsModel check (II)Z
set_option maxRecDepth 100000 in
theorem dM_check_Z2_0 : decode bM_check_Z2 0 = .ok (.aload_n 0, 1) := by decide +kernel
set_option maxRecDepth 100000 in
theorem dM_check_Z2_1 : decode bM_check_Z2 1 = .ok (.iload_n 1, 1) := by decide +kernel
set_option maxRecDepth 100000 in
theorem dM_check_Z2_2 : decode bM_check_Z2 2 = .ok (.iload_n 2, 1) := by decide +kernel
set_option maxRecDepth 100000 in
theorem dM_check_Z2_3 : decode bM_check_Z2 3 = .ok (.invokevirtual 135, 3) := by decide +kernel
set_option maxRecDepth 100000 in
theorem dM_check_Z2_6 : decode bM_check_Z2 6 = .ok (.istore_n 3, 1) := by decide +kernel
set_option maxRecDepth 100000 in
theorem dM_check_Z2_7 : decode bM_check_Z2 7 = .ok (.iconst 0, 1) := by decide +kernel
set_option maxRecDepth 100000 in
theorem dM_check_Z2_8 : decode bM_check_Z2 8 = .ok (.istore 4, 2) := by decide +kernel
set_option maxRecDepth 100000 in
theorem dM_check_Z2_10 : decode bM_check_Z2 10 = .ok (.aload_n 0, 1) := by decide +kernel
set_option maxRecDepth 100000 in
theorem dM_check_Z2_11 : decode bM_check_Z2 11 = .ok (.iconst 0, 1) := by decide +kernel
set_option maxRecDepth 100000 in
theorem dM_check_Z2_12 : decode bM_check_Z2 12 = .ok (.putfield 180, 3) := by decide +kernel
set_option maxRecDepth 100000 in
theorem dM_check_Z2_15 : decode bM_check_Z2 15 = .ok (.iconst 0, 1) := by decide +kernel
set_option maxRecDepth 100000 in
theorem dM_check_Z2_16 : decode bM_check_Z2 16 = .ok (.istore 5, 2) := by decide +kernel
set_option maxRecDepth 100000 in
theorem dM_check_Z2_18 : decode bM_check_Z2 18 = .ok (.iload 5, 2) := by decide +kernel
set_option maxRecDepth 100000 in
theorem dM_check_Z2_20 : decode bM_check_Z2 20 = .ok (.aload_n 0, 1) := by decide +kernel
set_option maxRecDepth 100000 in
theorem dM_check_Z2_21 : decode bM_check_Z2 21 = .ok (.getfield 130, 3) := by decide +kernel
set_option maxRecDepth 100000 in
theorem dM_check_Z2_24 : decode bM_check_Z2 24 = .ok (.if_icmp .ge 143, 3) := by decide +kernel
set_option maxRecDepth 100000 in
theorem dM_check_Z2_27 : decode bM_check_Z2 27 = .ok (.aload_n 0, 1) := by decide +kernel
set_option maxRecDepth 100000 in
theorem dM_check_Z2_28 : decode bM_check_Z2 28 = .ok (.getfield 35, 3) := by decide +kernel
set_option maxRecDepth 100000 in
theorem dM_check_Z2_31 : decode bM_check_Z2 31 = .ok (.iload 5, 2) := by decide +kernel
set_option maxRecDepth 100000 in
theorem dM_check_Z2_33 : decode bM_check_Z2 33 = .ok (.iaload, 1) := by decide +kernel
set_option maxRecDepth 100000 in
theorem dM_check_Z2_34 : decode bM_check_Z2 34 = .ok (.iload_n 1, 1) := by decide +kernel
set_option maxRecDepth 100000 in
theorem dM_check_Z2_35 : decode bM_check_Z2 35 = .ok (.if_icmp .ne 6, 3) := by decide +kernel
set_option maxRecDepth 100000 in
theorem dM_check_Z2_38 : decode bM_check_Z2 38 = .ok (.iinc 4 1, 3) := by decide +kernel
set_option maxRecDepth 100000 in
theorem dM_check_Z2_41 : decode bM_check_Z2 41 = .ok (.aload_n 0, 1) := by decide +kernel
set_option maxRecDepth 100000 in
theorem dM_check_Z2_42 : decode bM_check_Z2 42 = .ok (.getfield 35, 3) := by decide +kernel
set_option maxRecDepth 100000 in
theorem dM_check_Z2_45 : decode bM_check_Z2 45 = .ok (.iload 5, 2) := by decide +kernel
set_option maxRecDepth 100000 in
theorem dM_check_Z2_47 : decode bM_check_Z2 47 = .ok (.iaload, 1) := by decide +kernel
set_option maxRecDepth 100000 in
theorem dM_check_Z2_48 : decode bM_check_Z2 48 = .ok (.iload_n 1, 1) := by decide +kernel
set_option maxRecDepth 100000 in
theorem dM_check_Z2_49 : decode bM_check_Z2 49 = .ok (.if_icmp .ne 64, 3) := by decide +kernel
set_option maxRecDepth 100000 in
theorem dM_check_Z2_52 : decode bM_check_Z2 52 = .ok (.aload_n 0, 1) := by decide +kernel
set_option maxRecDepth 100000 in
theorem dM_check_Z2_53 : decode bM_check_Z2 53 = .ok (.getfield 38, 3) := by decide +kernel
set_option maxRecDepth 100000 in
theorem dM_check_Z2_56 : decode bM_check_Z2 56 = .ok (.iload 5, 2) := by decide +kernel
set_option maxRecDepth 100000 in
theorem dM_check_Z2_58 : decode bM_check_Z2 58 = .ok (.iaload, 1) := by decide +kernel
set_option maxRecDepth 100000 in
theorem dM_check_Z2_59 : decode bM_check_Z2 59 = .ok (.iload_n 2, 1) := by decide +kernel
set_option maxRecDepth 100000 in
theorem dM_check_Z2_60 : decode bM_check_Z2 60 = .ok (.if_icmp .ne 53, 3) := by decide +kernel
set_option maxRecDepth 100000 in
theorem dM_check_Z2_63 : decode bM_check_Z2 63 = .ok (.aload_n 0, 1) := by decide +kernel
set_option maxRecDepth 100000 in
theorem dM_check_Z2_64 : decode bM_check_Z2 64 = .ok (.getfield 183, 3) := by decide +kernel
set_option maxRecDepth 100000 in
theorem dM_check_Z2_67 : decode bM_check_Z2 67 = .ok (.iconst 4, 1) := by decide +kernel
set_option maxRecDepth 100000 in
theorem dM_check_Z2_68 : decode bM_check_Z2 68 = .ok (.if_icmp .ne 17, 3) := by decide +kernel
set_option maxRecDepth 100000 in
theorem dM_check_Z2_71 : decode bM_check_Z2 71 = .ok (.aload_n 0, 1) := by decide +kernel
set_option maxRecDepth 100000 in
theorem dM_check_Z2_72 : decode bM_check_Z2 72 = .ok (.getfield 32, 3) := by decide +kernel
set_option maxRecDepth 100000 in
theorem dM_check_Z2_75 : decode bM_check_Z2 75 = .ok (.iload 5, 2) := by decide +kernel
set_option maxRecDepth 100000 in
theorem dM_check_Z2_77 : decode bM_check_Z2 77 = .ok (.iaload, 1) := by decide +kernel
set_option maxRecDepth 100000 in
theorem dM_check_Z2_78 : decode bM_check_Z2 78 = .ok (.aload_n 0, 1) := by decide +kernel
set_option maxRecDepth 100000 in
theorem dM_check_Z2_79 : decode bM_check_Z2 79 = .ok (.getfield 74, 3) := by decide +kernel
set_option maxRecDepth 100000 in
theorem dM_check_Z2_82 : decode bM_check_Z2 82 = .ok (.if_icmp .le 31, 3) := by decide +kernel
set_option maxRecDepth 100000 in
theorem dM_check_Z2_85 : decode bM_check_Z2 85 = .ok (.aload_n 0, 1) := by decide +kernel
set_option maxRecDepth 100000 in
theorem dM_check_Z2_86 : decode bM_check_Z2 86 = .ok (.bipush 6, 2) := by decide +kernel
set_option maxRecDepth 100000 in
theorem dM_check_Z2_88 : decode bM_check_Z2 88 = .ok (.iload_n 3, 1) := by decide +kernel
set_option maxRecDepth 100000 in
theorem dM_check_Z2_89 : decode bM_check_Z2 89 = .ok (.aload_n 0, 1) := by decide +kernel
set_option maxRecDepth 100000 in
theorem dM_check_Z2_90 : decode bM_check_Z2 90 = .ok (.getfield 41, 3) := by decide +kernel
set_option maxRecDepth 100000 in
theorem dM_check_Z2_93 : decode bM_check_Z2 93 = .ok (.iload 5, 2) := by decide +kernel
set_option maxRecDepth 100000 in
theorem dM_check_Z2_95 : decode bM_check_Z2 95 = .ok (.iaload, 1) := by decide +kernel
set_option maxRecDepth 100000 in
theorem dM_check_Z2_96 : decode bM_check_Z2 96 = .ok (.aload_n 0, 1) := by decide +kernel
set_option maxRecDepth 100000 in
theorem dM_check_Z2_97 : decode bM_check_Z2 97 = .ok (.getfield 44, 3) := by decide +kernel
set_option maxRecDepth 100000 in
theorem dM_check_Z2_100 : decode bM_check_Z2 100 = .ok (.iload 5, 2) := by decide +kernel
set_option maxRecDepth 100000 in
theorem dM_check_Z2_102 : decode bM_check_Z2 102 = .ok (.iaload, 1) := by decide +kernel
set_option maxRecDepth 100000 in
theorem dM_check_Z2_103 : decode bM_check_Z2 103 = .ok (.invokevirtual 172, 3) := by decide +kernel
set_option maxRecDepth 100000 in
theorem dM_check_Z2_106 : decode bM_check_Z2 106 = .ok (.ifCond .eq 7, 3) := by decide +kernel
set_option maxRecDepth 100000 in
theorem dM_check_Z2_109 : decode bM_check_Z2 109 = .ok (.iconst 1, 1) := by decide +kernel
set_option maxRecDepth 100000 in
theorem dM_check_Z2_110 : decode bM_check_Z2 110 = .ok (.goto 4, 3) := by decide +kernel
set_option maxRecDepth 100000 in
theorem dM_check_Z2_113 : decode bM_check_Z2 113 = .ok (.iconst 0, 1) := by decide +kernel
set_option maxRecDepth 100000 in
theorem dM_check_Z2_114 : decode bM_check_Z2 114 = .ok (.istore 6, 2) := by decide +kernel
set_option maxRecDepth 100000 in
theorem dM_check_Z2_116 : decode bM_check_Z2 116 = .ok (.iload 6, 2) := by decide +kernel
set_option maxRecDepth 100000 in
theorem dM_check_Z2_118 : decode bM_check_Z2 118 = .ok (.ifCond .ne 6, 3) := by decide +kernel
set_option maxRecDepth 100000 in
theorem dM_check_Z2_121 : decode bM_check_Z2 121 = .ok (.goto 40, 3) := by decide +kernel
set_option maxRecDepth 100000 in
theorem dM_check_Z2_124 : decode bM_check_Z2 124 = .ok (.aload_n 0, 1) := by decide +kernel
set_option maxRecDepth 100000 in
theorem dM_check_Z2_125 : decode bM_check_Z2 125 = .ok (.getfield 78, 3) := by decide +kernel
set_option maxRecDepth 100000 in
theorem dM_check_Z2_128 : decode bM_check_Z2 128 = .ok (.aload_n 0, 1) := by decide +kernel
set_option maxRecDepth 100000 in
theorem dM_check_Z2_129 : decode bM_check_Z2 129 = .ok (.getfield 180, 3) := by decide +kernel
set_option maxRecDepth 100000 in
theorem dM_check_Z2_132 : decode bM_check_Z2 132 = .ok (.iload 5, 2) := by decide +kernel
set_option maxRecDepth 100000 in
theorem dM_check_Z2_134 : decode bM_check_Z2 134 = .ok (.iastore, 1) := by decide +kernel
set_option maxRecDepth 100000 in
theorem dM_check_Z2_135 : decode bM_check_Z2 135 = .ok (.aload_n 0, 1) := by decide +kernel
set_option maxRecDepth 100000 in
theorem dM_check_Z2_136 : decode bM_check_Z2 136 = .ok (.getfield 81, 3) := by decide +kernel
set_option maxRecDepth 100000 in
theorem dM_check_Z2_139 : decode bM_check_Z2 139 = .ok (.aload_n 0, 1) := by decide +kernel
set_option maxRecDepth 100000 in
theorem dM_check_Z2_140 : decode bM_check_Z2 140 = .ok (.getfield 180, 3) := by decide +kernel
set_option maxRecDepth 100000 in
theorem dM_check_Z2_143 : decode bM_check_Z2 143 = .ok (.aload_n 0, 1) := by decide +kernel
set_option maxRecDepth 100000 in
theorem dM_check_Z2_144 : decode bM_check_Z2 144 = .ok (.getfield 32, 3) := by decide +kernel
set_option maxRecDepth 100000 in
theorem dM_check_Z2_147 : decode bM_check_Z2 147 = .ok (.iload 5, 2) := by decide +kernel
set_option maxRecDepth 100000 in
theorem dM_check_Z2_149 : decode bM_check_Z2 149 = .ok (.iaload, 1) := by decide +kernel
set_option maxRecDepth 100000 in
theorem dM_check_Z2_150 : decode bM_check_Z2 150 = .ok (.iastore, 1) := by decide +kernel
set_option maxRecDepth 100000 in
theorem dM_check_Z2_151 : decode bM_check_Z2 151 = .ok (.aload_n 0, 1) := by decide +kernel
set_option maxRecDepth 100000 in
theorem dM_check_Z2_152 : decode bM_check_Z2 152 = .ok (.dup, 1) := by decide +kernel
set_option maxRecDepth 100000 in
theorem dM_check_Z2_153 : decode bM_check_Z2 153 = .ok (.getfield 180, 3) := by decide +kernel
set_option maxRecDepth 100000 in
theorem dM_check_Z2_156 : decode bM_check_Z2 156 = .ok (.iconst 1, 1) := by decide +kernel
set_option maxRecDepth 100000 in
theorem dM_check_Z2_157 : decode bM_check_Z2 157 = .ok (.iadd, 1) := by decide +kernel
set_option maxRecDepth 100000 in
theorem dM_check_Z2_158 : decode bM_check_Z2 158 = .ok (.putfield 180, 3) := by decide +kernel
set_option maxRecDepth 100000 in
theorem dM_check_Z2_161 : decode bM_check_Z2 161 = .ok (.iinc 5 1, 3) := by decide +kernel
set_option maxRecDepth 100000 in
theorem dM_check_Z2_164 : decode bM_check_Z2 164 = .ok (.goto (-146), 3) := by decide +kernel
set_option maxRecDepth 100000 in
theorem dM_check_Z2_167 : decode bM_check_Z2 167 = .ok (.aload_n 0, 1) := by decide +kernel
set_option maxRecDepth 100000 in
theorem dM_check_Z2_168 : decode bM_check_Z2 168 = .ok (.iconst 1, 1) := by decide +kernel
set_option maxRecDepth 100000 in
theorem dM_check_Z2_169 : decode bM_check_Z2 169 = .ok (.putfield 186, 3) := by decide +kernel
set_option maxRecDepth 100000 in
theorem dM_check_Z2_172 : decode bM_check_Z2 172 = .ok (.aload_n 0, 1) := by decide +kernel
set_option maxRecDepth 100000 in
theorem dM_check_Z2_173 : decode bM_check_Z2 173 = .ok (.aload_n 0, 1) := by decide +kernel
set_option maxRecDepth 100000 in
theorem dM_check_Z2_174 : decode bM_check_Z2 174 = .ok (.getfield 183, 3) := by decide +kernel
set_option maxRecDepth 100000 in
theorem dM_check_Z2_177 : decode bM_check_Z2 177 = .ok (.ifCond .ne 22, 3) := by decide +kernel
set_option maxRecDepth 100000 in
theorem dM_check_Z2_180 : decode bM_check_Z2 180 = .ok (.aload_n 0, 1) := by decide +kernel
set_option maxRecDepth 100000 in
theorem dM_check_Z2_181 : decode bM_check_Z2 181 = .ok (.getfield 180, 3) := by decide +kernel
set_option maxRecDepth 100000 in
theorem dM_check_Z2_184 : decode bM_check_Z2 184 = .ok (.aload_n 0, 1) := by decide +kernel
set_option maxRecDepth 100000 in
theorem dM_check_Z2_185 : decode bM_check_Z2 185 = .ok (.getfield 190, 3) := by decide +kernel
set_option maxRecDepth 100000 in
theorem dM_check_Z2_188 : decode bM_check_Z2 188 = .ok (.if_icmp .ne 7, 3) := by decide +kernel
set_option maxRecDepth 100000 in
theorem dM_check_Z2_191 : decode bM_check_Z2 191 = .ok (.iconst 1, 1) := by decide +kernel
set_option maxRecDepth 100000 in
theorem dM_check_Z2_192 : decode bM_check_Z2 192 = .ok (.goto 80, 3) := by decide +kernel
set_option maxRecDepth 100000 in
theorem dM_check_Z2_195 : decode bM_check_Z2 195 = .ok (.iconst 0, 1) := by decide +kernel
set_option maxRecDepth 100000 in
theorem dM_check_Z2_196 : decode bM_check_Z2 196 = .ok (.goto 76, 3) := by decide +kernel
set_option maxRecDepth 100000 in
theorem dM_check_Z2_199 : decode bM_check_Z2 199 = .ok (.aload_n 0, 1) := by decide +kernel
set_option maxRecDepth 100000 in
theorem dM_check_Z2_200 : decode bM_check_Z2 200 = .ok (.getfield 183, 3) := by decide +kernel
set_option maxRecDepth 100000 in
theorem dM_check_Z2_203 : decode bM_check_Z2 203 = .ok (.iconst 2, 1) := by decide +kernel
set_option maxRecDepth 100000 in
theorem dM_check_Z2_204 : decode bM_check_Z2 204 = .ok (.if_icmp .ne 22, 3) := by decide +kernel
set_option maxRecDepth 100000 in
theorem dM_check_Z2_207 : decode bM_check_Z2 207 = .ok (.aload_n 0, 1) := by decide +kernel
set_option maxRecDepth 100000 in
theorem dM_check_Z2_208 : decode bM_check_Z2 208 = .ok (.getfield 180, 3) := by decide +kernel
set_option maxRecDepth 100000 in
theorem dM_check_Z2_211 : decode bM_check_Z2 211 = .ok (.aload_n 0, 1) := by decide +kernel
set_option maxRecDepth 100000 in
theorem dM_check_Z2_212 : decode bM_check_Z2 212 = .ok (.getfield 190, 3) := by decide +kernel
set_option maxRecDepth 100000 in
theorem dM_check_Z2_215 : decode bM_check_Z2 215 = .ok (.if_icmp .gt 7, 3) := by decide +kernel
set_option maxRecDepth 100000 in
theorem dM_check_Z2_218 : decode bM_check_Z2 218 = .ok (.iconst 1, 1) := by decide +kernel
set_option maxRecDepth 100000 in
theorem dM_check_Z2_219 : decode bM_check_Z2 219 = .ok (.goto 53, 3) := by decide +kernel
set_option maxRecDepth 100000 in
theorem dM_check_Z2_222 : decode bM_check_Z2 222 = .ok (.iconst 0, 1) := by decide +kernel
set_option maxRecDepth 100000 in
theorem dM_check_Z2_223 : decode bM_check_Z2 223 = .ok (.goto 49, 3) := by decide +kernel
set_option maxRecDepth 100000 in
theorem dM_check_Z2_226 : decode bM_check_Z2 226 = .ok (.aload_n 0, 1) := by decide +kernel
set_option maxRecDepth 100000 in
theorem dM_check_Z2_227 : decode bM_check_Z2 227 = .ok (.getfield 183, 3) := by decide +kernel
set_option maxRecDepth 100000 in
theorem dM_check_Z2_230 : decode bM_check_Z2 230 = .ok (.iconst 3, 1) := by decide +kernel
set_option maxRecDepth 100000 in
theorem dM_check_Z2_231 : decode bM_check_Z2 231 = .ok (.if_icmp .ne 25, 3) := by decide +kernel
set_option maxRecDepth 100000 in
theorem dM_check_Z2_234 : decode bM_check_Z2 234 = .ok (.aload_n 0, 1) := by decide +kernel
set_option maxRecDepth 100000 in
theorem dM_check_Z2_235 : decode bM_check_Z2 235 = .ok (.getfield 180, 3) := by decide +kernel
set_option maxRecDepth 100000 in
theorem dM_check_Z2_238 : decode bM_check_Z2 238 = .ok (.iconst 1, 1) := by decide +kernel
set_option maxRecDepth 100000 in
theorem dM_check_Z2_239 : decode bM_check_Z2 239 = .ok (.if_icmp .ne 13, 3) := by decide +kernel
set_option maxRecDepth 100000 in
theorem dM_check_Z2_242 : decode bM_check_Z2 242 = .ok (.iload 4, 2) := by decide +kernel
set_option maxRecDepth 100000 in
theorem dM_check_Z2_244 : decode bM_check_Z2 244 = .ok (.iconst 1, 1) := by decide +kernel
set_option maxRecDepth 100000 in
theorem dM_check_Z2_245 : decode bM_check_Z2 245 = .ok (.if_icmp .ne 7, 3) := by decide +kernel
set_option maxRecDepth 100000 in
theorem dM_check_Z2_248 : decode bM_check_Z2 248 = .ok (.iconst 1, 1) := by decide +kernel
set_option maxRecDepth 100000 in
theorem dM_check_Z2_249 : decode bM_check_Z2 249 = .ok (.goto 23, 3) := by decide +kernel
set_option maxRecDepth 100000 in
theorem dM_check_Z2_252 : decode bM_check_Z2 252 = .ok (.iconst 0, 1) := by decide +kernel
set_option maxRecDepth 100000 in
theorem dM_check_Z2_253 : decode bM_check_Z2 253 = .ok (.goto 19, 3) := by decide +kernel
set_option maxRecDepth 100000 in
theorem dM_check_Z2_256 : decode bM_check_Z2 256 = .ok (.aload_n 0, 1) := by decide +kernel
set_option maxRecDepth 100000 in
theorem dM_check_Z2_257 : decode bM_check_Z2 257 = .ok (.getfield 180, 3) := by decide +kernel
set_option maxRecDepth 100000 in
theorem dM_check_Z2_260 : decode bM_check_Z2 260 = .ok (.aload_n 0, 1) := by decide +kernel
set_option maxRecDepth 100000 in
theorem dM_check_Z2_261 : decode bM_check_Z2 261 = .ok (.getfield 190, 3) := by decide +kernel
set_option maxRecDepth 100000 in
theorem dM_check_Z2_264 : decode bM_check_Z2 264 = .ok (.if_icmp .lt 7, 3) := by decide +kernel
set_option maxRecDepth 100000 in
theorem dM_check_Z2_267 : decode bM_check_Z2 267 = .ok (.iconst 1, 1) := by decide +kernel
set_option maxRecDepth 100000 in
theorem dM_check_Z2_268 : decode bM_check_Z2 268 = .ok (.goto 4, 3) := by decide +kernel
set_option maxRecDepth 100000 in
theorem dM_check_Z2_271 : decode bM_check_Z2 271 = .ok (.iconst 0, 1) := by decide +kernel
set_option maxRecDepth 100000 in
theorem dM_check_Z2_272 : decode bM_check_Z2 272 = .ok (.putfield 193, 3) := by decide +kernel
set_option maxRecDepth 100000 in
theorem dM_check_Z2_275 : decode bM_check_Z2 275 = .ok (.aload_n 0, 1) := by decide +kernel
set_option maxRecDepth 100000 in
theorem dM_check_Z2_276 : decode bM_check_Z2 276 = .ok (.getfield 193, 3) := by decide +kernel
set_option maxRecDepth 100000 in
theorem dM_check_Z2_279 : decode bM_check_Z2 279 = .ok (.ifCond .ne 5, 3) := by decide +kernel
set_option maxRecDepth 100000 in
theorem dM_check_Z2_282 : decode bM_check_Z2 282 = .ok (.iconst 0, 1) := by decide +kernel
set_option maxRecDepth 100000 in
theorem dM_check_Z2_283 : decode bM_check_Z2 283 = .ok (.ireturn, 1) := by decide +kernel
set_option maxRecDepth 100000 in
theorem dM_check_Z2_284 : decode bM_check_Z2 284 = .ok (.aload_n 0, 1) := by decide +kernel
set_option maxRecDepth 100000 in
theorem dM_check_Z2_285 : decode bM_check_Z2 285 = .ok (.getfield 183, 3) := by decide +kernel
set_option maxRecDepth 100000 in
theorem dM_check_Z2_288 : decode bM_check_Z2 288 = .ok (.iconst 4, 1) := by decide +kernel
set_option maxRecDepth 100000 in
theorem dM_check_Z2_289 : decode bM_check_Z2 289 = .ok (.if_icmp .ne 31, 3) := by decide +kernel
set_option maxRecDepth 100000 in
theorem dM_check_Z2_292 : decode bM_check_Z2 292 = .ok (.aload_n 0, 1) := by decide +kernel
set_option maxRecDepth 100000 in
theorem dM_check_Z2_293 : decode bM_check_Z2 293 = .ok (.aload_n 0, 1) := by decide +kernel
set_option maxRecDepth 100000 in
theorem dM_check_Z2_294 : decode bM_check_Z2 294 = .ok (.getfield 190, 3) := by decide +kernel
set_option maxRecDepth 100000 in
theorem dM_check_Z2_297 : decode bM_check_Z2 297 = .ok (.putfield 180, 3) := by decide +kernel
set_option maxRecDepth 100000 in
theorem dM_check_Z2_300 : decode bM_check_Z2 300 = .ok (.aload_n 0, 1) := by decide +kernel
set_option maxRecDepth 100000 in
theorem dM_check_Z2_301 : decode bM_check_Z2 301 = .ok (.aload_n 0, 1) := by decide +kernel
set_option maxRecDepth 100000 in
theorem dM_check_Z2_302 : decode bM_check_Z2 302 = .ok (.getfield 32, 3) := by decide +kernel
set_option maxRecDepth 100000 in
theorem dM_check_Z2_305 : decode bM_check_Z2 305 = .ok (.aload_n 0, 1) := by decide +kernel
set_option maxRecDepth 100000 in
theorem dM_check_Z2_306 : decode bM_check_Z2 306 = .ok (.getfield 78, 3) := by decide +kernel
set_option maxRecDepth 100000 in
theorem dM_check_Z2_309 : decode bM_check_Z2 309 = .ok (.aload_n 0, 1) := by decide +kernel
set_option maxRecDepth 100000 in
theorem dM_check_Z2_310 : decode bM_check_Z2 310 = .ok (.getfield 180, 3) := by decide +kernel
set_option maxRecDepth 100000 in
theorem dM_check_Z2_313 : decode bM_check_Z2 313 = .ok (.iconst 1, 1) := by decide +kernel
set_option maxRecDepth 100000 in
theorem dM_check_Z2_314 : decode bM_check_Z2 314 = .ok (.isub, 1) := by decide +kernel
set_option maxRecDepth 100000 in
theorem dM_check_Z2_315 : decode bM_check_Z2 315 = .ok (.iaload, 1) := by decide +kernel
set_option maxRecDepth 100000 in
theorem dM_check_Z2_316 : decode bM_check_Z2 316 = .ok (.iaload, 1) := by decide +kernel
set_option maxRecDepth 100000 in
theorem dM_check_Z2_317 : decode bM_check_Z2 317 = .ok (.putfield 74, 3) := by decide +kernel
set_option maxRecDepth 100000 in
theorem dM_check_Z2_320 : decode bM_check_Z2 320 = .ok (.iconst 0, 1) := by decide +kernel
set_option maxRecDepth 100000 in
theorem dM_check_Z2_321 : decode bM_check_Z2 321 = .ok (.istore 5, 2) := by decide +kernel
set_option maxRecDepth 100000 in
theorem dM_check_Z2_323 : decode bM_check_Z2 323 = .ok (.iload 5, 2) := by decide +kernel
set_option maxRecDepth 100000 in
theorem dM_check_Z2_325 : decode bM_check_Z2 325 = .ok (.aload_n 0, 1) := by decide +kernel
set_option maxRecDepth 100000 in
theorem dM_check_Z2_326 : decode bM_check_Z2 326 = .ok (.getfield 180, 3) := by decide +kernel
set_option maxRecDepth 100000 in
theorem dM_check_Z2_329 : decode bM_check_Z2 329 = .ok (.if_icmp .ge 108, 3) := by decide +kernel
set_option maxRecDepth 100000 in
theorem dM_check_Z2_332 : decode bM_check_Z2 332 = .ok (.aload_n 0, 1) := by decide +kernel
set_option maxRecDepth 100000 in
theorem dM_check_Z2_333 : decode bM_check_Z2 333 = .ok (.getfield 78, 3) := by decide +kernel
set_option maxRecDepth 100000 in
theorem dM_check_Z2_336 : decode bM_check_Z2 336 = .ok (.iload 5, 2) := by decide +kernel
set_option maxRecDepth 100000 in
theorem dM_check_Z2_338 : decode bM_check_Z2 338 = .ok (.iaload, 1) := by decide +kernel
set_option maxRecDepth 100000 in
theorem dM_check_Z2_339 : decode bM_check_Z2 339 = .ok (.istore 6, 2) := by decide +kernel
set_option maxRecDepth 100000 in
theorem dM_check_Z2_341 : decode bM_check_Z2 341 = .ok (.aload_n 0, 1) := by decide +kernel
set_option maxRecDepth 100000 in
theorem dM_check_Z2_342 : decode bM_check_Z2 342 = .ok (.getfield 50, 3) := by decide +kernel
set_option maxRecDepth 100000 in
theorem dM_check_Z2_345 : decode bM_check_Z2 345 = .ok (.iload 6, 2) := by decide +kernel
set_option maxRecDepth 100000 in
theorem dM_check_Z2_347 : decode bM_check_Z2 347 = .ok (.iconst 1, 1) := by decide +kernel
set_option maxRecDepth 100000 in
theorem dM_check_Z2_348 : decode bM_check_Z2 348 = .ok (.bastore, 1) := by decide +kernel
set_option maxRecDepth 100000 in
theorem dM_check_Z2_349 : decode bM_check_Z2 349 = .ok (.iconst 0, 1) := by decide +kernel
set_option maxRecDepth 100000 in
theorem dM_check_Z2_350 : decode bM_check_Z2 350 = .ok (.istore 7, 2) := by decide +kernel
set_option maxRecDepth 100000 in
theorem dM_check_Z2_352 : decode bM_check_Z2 352 = .ok (.iload 7, 2) := by decide +kernel
set_option maxRecDepth 100000 in
theorem dM_check_Z2_354 : decode bM_check_Z2 354 = .ok (.aload_n 0, 1) := by decide +kernel
set_option maxRecDepth 100000 in
theorem dM_check_Z2_355 : decode bM_check_Z2 355 = .ok (.getfield 7, 3) := by decide +kernel
set_option maxRecDepth 100000 in
theorem dM_check_Z2_358 : decode bM_check_Z2 358 = .ok (.iload_n 3, 1) := by decide +kernel
set_option maxRecDepth 100000 in
theorem dM_check_Z2_359 : decode bM_check_Z2 359 = .ok (.iaload, 1) := by decide +kernel
set_option maxRecDepth 100000 in
theorem dM_check_Z2_360 : decode bM_check_Z2 360 = .ok (.if_icmp .ge 71, 3) := by decide +kernel
set_option maxRecDepth 100000 in
theorem dM_check_Z2_363 : decode bM_check_Z2 363 = .ok (.aload_n 0, 1) := by decide +kernel
set_option maxRecDepth 100000 in
theorem dM_check_Z2_364 : decode bM_check_Z2 364 = .ok (.getfield 26, 3) := by decide +kernel
set_option maxRecDepth 100000 in
theorem dM_check_Z2_367 : decode bM_check_Z2 367 = .ok (.bipush 8, 2) := by decide +kernel
set_option maxRecDepth 100000 in
theorem dM_check_Z2_369 : decode bM_check_Z2 369 = .ok (.bipush 6, 2) := by decide +kernel
set_option maxRecDepth 100000 in
theorem dM_check_Z2_371 : decode bM_check_Z2 371 = .ok (.iload 7, 2) := by decide +kernel
set_option maxRecDepth 100000 in
theorem dM_check_Z2_373 : decode bM_check_Z2 373 = .ok (.iadd, 1) := by decide +kernel
set_option maxRecDepth 100000 in
theorem dM_check_Z2_374 : decode bM_check_Z2 374 = .ok (.imul, 1) := by decide +kernel
set_option maxRecDepth 100000 in
theorem dM_check_Z2_375 : decode bM_check_Z2 375 = .ok (.iaload, 1) := by decide +kernel
set_option maxRecDepth 100000 in
theorem dM_check_Z2_376 : decode bM_check_Z2 376 = .ok (.bipush 7, 2) := by decide +kernel
set_option maxRecDepth 100000 in
theorem dM_check_Z2_378 : decode bM_check_Z2 378 = .ok (.if_icmp .ne 47, 3) := by decide +kernel
set_option maxRecDepth 100000 in
theorem dM_check_Z2_381 : decode bM_check_Z2 381 = .ok (.aload_n 0, 1) := by decide +kernel
set_option maxRecDepth 100000 in
theorem dM_check_Z2_382 : decode bM_check_Z2 382 = .ok (.getfield 84, 3) := by decide +kernel
set_option maxRecDepth 100000 in
theorem dM_check_Z2_385 : decode bM_check_Z2 385 = .ok (.aload_n 0, 1) := by decide +kernel
set_option maxRecDepth 100000 in
theorem dM_check_Z2_386 : decode bM_check_Z2 386 = .ok (.getfield 196, 3) := by decide +kernel
set_option maxRecDepth 100000 in
theorem dM_check_Z2_389 : decode bM_check_Z2 389 = .ok (.bipush 12, 2) := by decide +kernel
set_option maxRecDepth 100000 in
theorem dM_check_Z2_391 : decode bM_check_Z2 391 = .ok (.irem, 1) := by decide +kernel
set_option maxRecDepth 100000 in
theorem dM_check_Z2_392 : decode bM_check_Z2 392 = .ok (.iload 7, 2) := by decide +kernel
set_option maxRecDepth 100000 in
theorem dM_check_Z2_394 : decode bM_check_Z2 394 = .ok (.ifCond .ne 13, 3) := by decide +kernel
set_option maxRecDepth 100000 in
theorem dM_check_Z2_397 : decode bM_check_Z2 397 = .ok (.aload_n 0, 1) := by decide +kernel
set_option maxRecDepth 100000 in
theorem dM_check_Z2_398 : decode bM_check_Z2 398 = .ok (.getfield 41, 3) := by decide +kernel
set_option maxRecDepth 100000 in
theorem dM_check_Z2_401 : decode bM_check_Z2 401 = .ok (.iload 6, 2) := by decide +kernel
set_option maxRecDepth 100000 in
theorem dM_check_Z2_403 : decode bM_check_Z2 403 = .ok (.iaload, 1) := by decide +kernel
set_option maxRecDepth 100000 in
theorem dM_check_Z2_404 : decode bM_check_Z2 404 = .ok (.goto 10, 3) := by decide +kernel
set_option maxRecDepth 100000 in
theorem dM_check_Z2_407 : decode bM_check_Z2 407 = .ok (.aload_n 0, 1) := by decide +kernel
set_option maxRecDepth 100000 in
theorem dM_check_Z2_408 : decode bM_check_Z2 408 = .ok (.getfield 44, 3) := by decide +kernel
set_option maxRecDepth 100000 in
theorem dM_check_Z2_411 : decode bM_check_Z2 411 = .ok (.iload 6, 2) := by decide +kernel
set_option maxRecDepth 100000 in
theorem dM_check_Z2_413 : decode bM_check_Z2 413 = .ok (.iaload, 1) := by decide +kernel
set_option maxRecDepth 100000 in
theorem dM_check_Z2_414 : decode bM_check_Z2 414 = .ok (.iastore, 1) := by decide +kernel
set_option maxRecDepth 100000 in
theorem dM_check_Z2_415 : decode bM_check_Z2 415 = .ok (.aload_n 0, 1) := by decide +kernel
set_option maxRecDepth 100000 in
theorem dM_check_Z2_416 : decode bM_check_Z2 416 = .ok (.dup, 1) := by decide +kernel
set_option maxRecDepth 100000 in
theorem dM_check_Z2_417 : decode bM_check_Z2 417 = .ok (.getfield 196, 3) := by decide +kernel
set_option maxRecDepth 100000 in
theorem dM_check_Z2_420 : decode bM_check_Z2 420 = .ok (.iconst 1, 1) := by decide +kernel
set_option maxRecDepth 100000 in
theorem dM_check_Z2_421 : decode bM_check_Z2 421 = .ok (.iadd, 1) := by decide +kernel
set_option maxRecDepth 100000 in
theorem dM_check_Z2_422 : decode bM_check_Z2 422 = .ok (.putfield 196, 3) := by decide +kernel
set_option maxRecDepth 100000 in
theorem dM_check_Z2_425 : decode bM_check_Z2 425 = .ok (.iinc 7 1, 3) := by decide +kernel
set_option maxRecDepth 100000 in
theorem dM_check_Z2_428 : decode bM_check_Z2 428 = .ok (.goto (-76), 3) := by decide +kernel
set_option maxRecDepth 100000 in
theorem dM_check_Z2_431 : decode bM_check_Z2 431 = .ok (.iinc 5 1, 3) := by decide +kernel
set_option maxRecDepth 100000 in
theorem dM_check_Z2_434 : decode bM_check_Z2 434 = .ok (.goto (-111), 3) := by decide +kernel
set_option maxRecDepth 100000 in
theorem dM_check_Z2_437 : decode bM_check_Z2 437 = .ok (.iconst 1, 1) := by decide +kernel
set_option maxRecDepth 100000 in
theorem dM_check_Z2_438 : decode bM_check_Z2 438 = .ok (.ireturn, 1) := by decide +kernel
def fM_check_Z2_425 (N : Nat) (rec323 : yS → Int32 → Int32 → Option (Int32 × yS)) (rec352 : yS → Int32 → Int32 → Int32 → Int32 → Option (Int32 × yS)) (τ : yS) (a3 : Int32) (a5 : Int32) (a6 : Int32) (a7 : Int32) : Option (Int32 × yS) :=
  rec352 τ a3 a5 a6 (a7 + 1)
def fM_check_Z2_414 (N : Nat) (rec323 : yS → Int32 → Int32 → Option (Int32 × yS)) (rec352 : yS → Int32 → Int32 → Int32 → Int32 → Option (Int32 × yS)) (τ : yS) (a3 : Int32) (a5 : Int32) (a6 : Int32) (a7 : Int32) (t0 : Int32) (t1 : Int32) : Option (Int32 × yS) :=
  if ¬ (t1 < 0 ∨ 12 ≤ t1.toNatClampNeg) then
  xl (y_si τ 54 0 t1.toNatClampNeg t0) fun s52 =>
  xl (y_si s52 30 0 36 ((s52 30 0 36) + 1)) fun s53 =>
  fM_check_Z2_425 N rec323 rec352 s53 a3 a5 a6 a7
  else none
def fM_check_Z2_352b (N : Nat) (rec323 : yS → Int32 → Int32 → Option (Int32 × yS)) (rec352 : yS → Int32 → Int32 → Int32 → Int32 → Option (Int32 × yS)) (τ : yS) (a3 : Int32) (a5 : Int32) (a6 : Int32) (a7 : Int32) : Option (Int32 × yS) :=
  if ¬ (a3 < 0 ∨ 12 ≤ a3.toNatClampNeg) then
  if (τ 31 0 a3.toNatClampNeg) ≤ a7 then
  (rec323 τ a3 (a5 + 1))
  else
  (if ¬ ((8 * (6 + a7)) < 0 ∨ 960 ≤ (8 * (6 + a7)).toNatClampNeg) then
  if (τ 36 0 ((8 * (6 + a7)).toNatClampNeg)) = 7 then
  (if a7 = 0 then
  (if ¬ (a6 < 0 ∨ 40 ≤ a6.toNatClampNeg) then
  fM_check_Z2_414 N rec323 rec352 τ a3 a5 a6 a7 (τ 41 0 a6.toNatClampNeg) ((τ 30 0 36) - (τ 30 0 36) / 12 * 12)
  else none)
  else
  (if ¬ (a6 < 0 ∨ 40 ≤ a6.toNatClampNeg) then
  fM_check_Z2_414 N rec323 rec352 τ a3 a5 a6 a7 (τ 42 0 a6.toNatClampNeg) ((τ 30 0 36) - (τ 30 0 36) / 12 * 12)
  else none))
  else
  (fM_check_Z2_425 N rec323 rec352 τ a3 a5 a6 a7)
  else none)
  else none
def fM_check_Z2_352 (N : Nat) (rec323 : yS → Int32 → Int32 → Option (Int32 × yS)) : Nat → yS → Int32 → Int32 → Int32 → Int32 → Option (Int32 × yS)
  | 0, _, _, _, _, _ => none
  | n + 1, τ, a3, a5, a6, a7 => fM_check_Z2_352b N rec323 (fM_check_Z2_352 N rec323 n) τ a3 a5 a6 a7
def fM_check_Z2_323b (N : Nat) (rec323 : yS → Int32 → Int32 → Option (Int32 × yS)) (τ : yS) (a3 : Int32) (a5 : Int32) : Option (Int32 × yS) :=
  if (τ 30 0 35) ≤ a5 then
  (some (1, τ))
  else
  (if ¬ (a5 < 0 ∨ 40 ≤ a5.toNatClampNeg) then
  if ¬ ((τ 52 0 a5.toNatClampNeg) < 0 ∨ 40 ≤ (τ 52 0 a5.toNatClampNeg).toNatClampNeg) then
  xl (y_si τ 44 0 ((τ 52 0 a5.toNatClampNeg).toNatClampNeg) 1) fun s64 =>
  fM_check_Z2_352 N rec323 N s64 a3 a5 (τ 52 0 a5.toNatClampNeg) 0
  else none
  else none)
def fM_check_Z2_323 (N : Nat) : Nat → yS → Int32 → Int32 → Option (Int32 × yS)
  | 0, _, _, _ => none
  | n + 1, τ, a3, a5 => fM_check_Z2_323b N (fM_check_Z2_323 N n) τ a3 a5
def fM_check_Z2_320 (N : Nat) (τ : yS) (a3 : Int32) : Option (Int32 × yS) :=
  fM_check_Z2_323 N N τ a3 0
def fM_check_Z2_272 (N : Nat) (τ : yS) (a3 : Int32) (t0 : Int32) : Option (Int32 × yS) :=
  if t0 = 0 ∨ t0 = 1 then
  xl (y_si τ 30 0 38 t0) fun s66 =>
  if (s66 30 0 38) = 0 then
  (some (0, s66))
  else
  (if (s66 30 0 11) = 4 then
  (xl (y_si s66 30 0 35 (s66 30 0 12)) fun s69 =>
  if ¬ (((s69 30 0 35) - 1) < 0 ∨ 40 ≤ ((s69 30 0 35) - 1).toNatClampNeg) then
  if ¬ ((s69 52 0 (((s69 30 0 35) - 1).toNatClampNeg)) < 0 ∨ 40 ≤ (s69 52 0 (((s69 30 0 35) - 1).toNatClampNeg)).toNatClampNeg) then
  xl (y_si s69 30 0 31 (s69 38 0 ((s69 52 0 (((s69 30 0 35) - 1).toNatClampNeg)).toNatClampNeg))) fun s72 =>
  fM_check_Z2_320 N s72 a3
  else none
  else none)
  else
  (fM_check_Z2_320 N s66 a3))
  else none
def fM_check_Z2_252 (N : Nat) (τ : yS) (a3 : Int32) : Option (Int32 × yS) :=
  fM_check_Z2_272 N τ a3 0
def fM_check_Z2_161 (N : Nat) (rec18 : yS → Int32 → Int32 → Int32 → Int32 → Int32 → Option (Int32 × yS)) (τ : yS) (a1 : Int32) (a2 : Int32) (a3 : Int32) (a4 : Int32) (a5 : Int32) : Option (Int32 × yS) :=
  rec18 τ a1 a2 a3 a4 (a5 + 1)
def fM_check_Z2_114 (N : Nat) (rec18 : yS → Int32 → Int32 → Int32 → Int32 → Int32 → Option (Int32 × yS)) (τ : yS) (a1 : Int32) (a2 : Int32) (a3 : Int32) (a4 : Int32) (a5 : Int32) (t0 : Int32) : Option (Int32 × yS) :=
  if t0 = 0 then
  (fM_check_Z2_161 N rec18 τ a1 a2 a3 a4 a5)
  else
  (if ¬ ((τ 30 0 35) < 0 ∨ 40 ≤ (τ 30 0 35).toNatClampNeg) then
  xl (y_si τ 52 0 ((τ 30 0 35).toNatClampNeg) a5) fun s75 =>
  if ¬ (a5 < 0 ∨ 40 ≤ a5.toNatClampNeg) then
  if ¬ ((s75 30 0 35) < 0 ∨ 40 ≤ (s75 30 0 35).toNatClampNeg) then
  xl (y_si s75 53 0 ((s75 30 0 35).toNatClampNeg) (s75 38 0 a5.toNatClampNeg)) fun s78 =>
  xl (y_si s78 30 0 35 ((s78 30 0 35) + 1)) fun s79 =>
  fM_check_Z2_161 N rec18 s79 a1 a2 a3 a4 a5
  else none
  else none
  else none)
def fM_check_Z2_113 (N : Nat) (rec18 : yS → Int32 → Int32 → Int32 → Int32 → Int32 → Option (Int32 × yS)) (τ : yS) (a1 : Int32) (a2 : Int32) (a3 : Int32) (a4 : Int32) (a5 : Int32) : Option (Int32 × yS) :=
  fM_check_Z2_114 N rec18 τ a1 a2 a3 a4 a5 0
def fM_check_Z2_85 (N : Nat) (rec18 : yS → Int32 → Int32 → Int32 → Int32 → Int32 → Option (Int32 × yS)) (τ : yS) (a1 : Int32) (a2 : Int32) (a3 : Int32) (a4 : Int32) (a5 : Int32) : Option (Int32 × yS) :=
  if ¬ (a5 < 0 ∨ 40 ≤ a5.toNatClampNeg) then
  xp (fM_matchesCall N τ 6 a3 (τ 41 0 a5.toNatClampNeg) (τ 42 0 a5.toNatClampNeg)) fun r82 =>
  if r82 = 0 then
  (fM_check_Z2_113 N rec18 τ a1 a2 a3 a4 a5)
  else
  (fM_check_Z2_114 N rec18 τ a1 a2 a3 a4 a5 1)
  else none
def fM_check_Z2_41 (N : Nat) (rec18 : yS → Int32 → Int32 → Int32 → Int32 → Int32 → Option (Int32 × yS)) (τ : yS) (a1 : Int32) (a2 : Int32) (a3 : Int32) (a4 : Int32) (a5 : Int32) : Option (Int32 × yS) :=
  if ¬ (a5 < 0 ∨ 40 ≤ a5.toNatClampNeg) then
  if (τ 39 0 a5.toNatClampNeg) = a1 then
  (if (τ 40 0 a5.toNatClampNeg) = a2 then
  (if (τ 30 0 11) = 4 then
  (if (τ 38 0 a5.toNatClampNeg) ≤ (τ 30 0 31) then
  (fM_check_Z2_113 N rec18 τ a1 a2 a3 a4 a5)
  else
  (fM_check_Z2_85 N rec18 τ a1 a2 a3 a4 a5))
  else
  (fM_check_Z2_85 N rec18 τ a1 a2 a3 a4 a5))
  else
  (fM_check_Z2_113 N rec18 τ a1 a2 a3 a4 a5))
  else
  (fM_check_Z2_113 N rec18 τ a1 a2 a3 a4 a5)
  else none
def fM_check_Z2_18b (N : Nat) (rec18 : yS → Int32 → Int32 → Int32 → Int32 → Int32 → Option (Int32 × yS)) (τ : yS) (a1 : Int32) (a2 : Int32) (a3 : Int32) (a4 : Int32) (a5 : Int32) : Option (Int32 × yS) :=
  if (τ 30 0 20) ≤ a5 then
  (xl (y_si τ 30 0 37 1) fun s90 =>
  if (s90 30 0 11) = 0 then
  (if (s90 30 0 35) = (s90 30 0 12) then
  (fM_check_Z2_272 N s90 a3 1)
  else
  (fM_check_Z2_272 N s90 a3 0))
  else
  (if (s90 30 0 11) = 2 then
  (if (s90 30 0 12) < (s90 30 0 35) then
  (fM_check_Z2_272 N s90 a3 0)
  else
  (fM_check_Z2_272 N s90 a3 1))
  else
  (if (s90 30 0 11) = 3 then
  (if (s90 30 0 35) = 1 then
  (if a4 = 1 then
  (fM_check_Z2_272 N s90 a3 1)
  else
  (fM_check_Z2_252 N s90 a3))
  else
  (fM_check_Z2_252 N s90 a3))
  else
  (if (s90 30 0 35) < (s90 30 0 12) then
  (fM_check_Z2_272 N s90 a3 0)
  else
  (fM_check_Z2_272 N s90 a3 1)))))
  else
  (if ¬ (a5 < 0 ∨ 40 ≤ a5.toNatClampNeg) then
  if (τ 39 0 a5.toNatClampNeg) = a1 then
  (fM_check_Z2_41 N rec18 τ a1 a2 a3 (a4 + 1) a5)
  else
  (fM_check_Z2_41 N rec18 τ a1 a2 a3 a4 a5)
  else none)
def fM_check_Z2_18 (N : Nat) : Nat → yS → Int32 → Int32 → Int32 → Int32 → Int32 → Option (Int32 × yS)
  | 0, _, _, _, _, _, _ => none
  | n + 1, τ, a1, a2, a3, a4, a5 => fM_check_Z2_18b N (fM_check_Z2_18 N n) τ a1 a2 a3 a4 a5
def fM_check_Z2 (N : Nat) (τ : yS) (a1 : Int32) (a2 : Int32) : Option (Int32 × yS) :=
  xp (fM_shape τ a1 a2) fun r102 =>
  xl (y_si τ 30 0 35 0) fun s103 =>
  fM_check_Z2_18 N N s103 a1 a2 r102 0 0
set_option maxHeartbeats 4000000 in
set_option maxRecDepth 100000 in
theorem wM_check_Z2_425 {p : Program} {l : Launch} {e : Env} {R : Room} {s : State} {m : MethodId} {args : Array Value} {below : List Frame} {meth : Method} {c : Code} {E : xE} {A : Nat → Prop} {σ : xS} (C : xC p s m args meth c R E A bM_check_Z2 8 yM_check_Z2 (some .boolean) 2 0 0) (N : Nat) (τ : yS) (rec323 : yS → Int32 → Int32 → Option (Int32 × yS)) (hrec323 : ∀ (τ : yS) (a3 : Int32) (a5 : Int32) (res : Int32 × yS), rec323 τ a3 a5 = some res → ∀ (H : Heap) (locs : List Loc) (ls : Array Slot), xW E A s σ τ H locs → lv_has ls 8 [(0, .ref (E.2.2.1 30 0)), (3, .int a3), (5, .int a5)] → W p l e R s m args below meth c H locs 0 0 (MQ below (xQ E A (some (.int res.1)) σ res.2) args s 0 0 A) (F0 m 323 ls [])) (rec352 : yS → Int32 → Int32 → Int32 → Int32 → Option (Int32 × yS)) (hrec352 : ∀ (τ : yS) (a3 : Int32) (a5 : Int32) (a6 : Int32) (a7 : Int32) (res : Int32 × yS), rec352 τ a3 a5 a6 a7 = some res → ∀ (H : Heap) (locs : List Loc) (ls : Array Slot), xW E A s σ τ H locs → lv_has ls 8 [(0, .ref (E.2.2.1 30 0)), (3, .int a3), (5, .int a5), (6, .int a6), (7, .int a7)] → W p l e R s m args below meth c H locs 0 0 (MQ below (xQ E A (some (.int res.1)) σ res.2) args s 0 0 A) (F0 m 352 ls [])) (a3 : Int32) (a5 : Int32) (a6 : Int32) (a7 : Int32) (res : Int32 × yS) (hf : fM_check_Z2_425 N rec323 rec352 τ a3 a5 a6 a7 = some res) (H : Heap) (locs : List Loc) (ls : Array Slot) (hw : xW E A s σ τ H locs) (hl : lv_has ls 8 [(0, .ref (E.2.2.1 30 0)), (3, .int a3), (5, .int a5), (6, .int a6), (7, .int a7)]) : W p l e R s m args below meth c H locs 0 0 (MQ below (xQ E A (some (.int res.1)) σ res.2) args s 0 0 A) (F0 m 425 ls []) := by
  have hx := C.1
  have hb := C.2.1
  unfold fM_check_Z2_425 at hf
  refine lv_iinc (v := a7 + 1) (lv' := [(7, .int (a7 + 1)), (0, .ref (E.2.2.1 30 0)), (3, .int a3), (5, .int a5), (6, .int a6)]) hx hb dM_check_Z2_425 hl (k := 4) rfl rfl (by decide) rfl (fun ls hl => ?_)
  refine lv_goto (tgt := 352) hx hb dM_check_Z2_428 (by decide) ?_
  exact hrec352 τ a3 a5 a6 (a7 + 1) res hf H locs ls hw (lv_sub hl [1, 2, 3, 4, 0] rfl)
set_option maxHeartbeats 4000000 in
set_option maxRecDepth 100000 in
theorem wM_check_Z2_414 {p : Program} {l : Launch} {e : Env} {R : Room} {s : State} {m : MethodId} {args : Array Value} {below : List Frame} {meth : Method} {c : Code} {E : xE} {A : Nat → Prop} {σ : xS} (C : xC p s m args meth c R E A bM_check_Z2 8 yM_check_Z2 (some .boolean) 2 0 0) (N : Nat) (τ : yS) (rec323 : yS → Int32 → Int32 → Option (Int32 × yS)) (hrec323 : ∀ (τ : yS) (a3 : Int32) (a5 : Int32) (res : Int32 × yS), rec323 τ a3 a5 = some res → ∀ (H : Heap) (locs : List Loc) (ls : Array Slot), xW E A s σ τ H locs → lv_has ls 8 [(0, .ref (E.2.2.1 30 0)), (3, .int a3), (5, .int a5)] → W p l e R s m args below meth c H locs 0 0 (MQ below (xQ E A (some (.int res.1)) σ res.2) args s 0 0 A) (F0 m 323 ls [])) (rec352 : yS → Int32 → Int32 → Int32 → Int32 → Option (Int32 × yS)) (hrec352 : ∀ (τ : yS) (a3 : Int32) (a5 : Int32) (a6 : Int32) (a7 : Int32) (res : Int32 × yS), rec352 τ a3 a5 a6 a7 = some res → ∀ (H : Heap) (locs : List Loc) (ls : Array Slot), xW E A s σ τ H locs → lv_has ls 8 [(0, .ref (E.2.2.1 30 0)), (3, .int a3), (5, .int a5), (6, .int a6), (7, .int a7)] → W p l e R s m args below meth c H locs 0 0 (MQ below (xQ E A (some (.int res.1)) σ res.2) args s 0 0 A) (F0 m 352 ls [])) (a3 : Int32) (a5 : Int32) (a6 : Int32) (a7 : Int32) (t0 : Int32) (t1 : Int32) (res : Int32 × yS) (hf : fM_check_Z2_414 N rec323 rec352 τ a3 a5 a6 a7 t0 t1 = some res) (H : Heap) (locs : List Loc) (ls : Array Slot) (hw : xW E A s σ τ H locs) (hl : lv_has ls 8 [(0, .ref (E.2.2.1 30 0)), (3, .int a3), (5, .int a5), (6, .int a6), (7, .int a7)]) : W p l e R s m args below meth c H locs 0 0 (MQ below (xQ E A (some (.int res.1)) σ res.2) args s 0 0 A) (F0 m 414 ls [.int t0, .int t1, .ref (E.2.2.1 54 0)]) := by
  have hx := C.1
  have hb := C.2.1
  unfold fM_check_Z2_414 at hf
  obtain ⟨g51, hf⟩ := x_g hf
  refine y_ist C hw 54 0 at_54 rfl rfl g51 dM_check_Z2_414 (fun H locs hw => ?_)
  obtain ⟨s52, es52, hf⟩ := x_l hf
  rw [← es52] at hw
  refine lv_aload_n hx hb dM_check_Z2_415 rfl (lv_at hl 0 rfl) ?_
  refine lv_dup hx hb dM_check_Z2_416 rfl ?_
  refine y_get C hw 30 0 36 (v := .int (s52 30 0 36)) at_30 rfl rfl ⟨by decide, by decide⟩ wM_196 rfl dM_check_Z2_417 ?_
  refine lv_iconst (v := 1) hx hb dM_check_Z2_420 (by decide) ?_
  refine lv_iadd hx hb dM_check_Z2_421 ?_
  refine y_puti C hw 30 0 36 at_30 rfl rfl rfl ⟨rfl, rfl⟩ ⟨by decide, by decide⟩ (Nat.le_of_ble_eq_true rfl) wM_196 dM_check_Z2_422 (fun H locs hw => ?_)
  obtain ⟨s53, es53, hf⟩ := x_l hf
  rw [← es53] at hw
  exact wM_check_Z2_425 C N s53 rec323 hrec323 rec352 hrec352 a3 a5 a6 a7 res hf H locs ls hw (lv_sub hl [0, 1, 2, 3, 4] rfl)
set_option maxHeartbeats 4000000 in
set_option maxRecDepth 100000 in
theorem wM_check_Z2_352b {p : Program} {l : Launch} {e : Env} {R : Room} {s : State} {m : MethodId} {args : Array Value} {below : List Frame} {meth : Method} {c : Code} {E : xE} {A : Nat → Prop} {σ : xS} (C : xC p s m args meth c R E A bM_check_Z2 8 yM_check_Z2 (some .boolean) 2 0 0) (N : Nat) (τ : yS) (rec323 : yS → Int32 → Int32 → Option (Int32 × yS)) (hrec323 : ∀ (τ : yS) (a3 : Int32) (a5 : Int32) (res : Int32 × yS), rec323 τ a3 a5 = some res → ∀ (H : Heap) (locs : List Loc) (ls : Array Slot), xW E A s σ τ H locs → lv_has ls 8 [(0, .ref (E.2.2.1 30 0)), (3, .int a3), (5, .int a5)] → W p l e R s m args below meth c H locs 0 0 (MQ below (xQ E A (some (.int res.1)) σ res.2) args s 0 0 A) (F0 m 323 ls [])) (rec352 : yS → Int32 → Int32 → Int32 → Int32 → Option (Int32 × yS)) (hrec352 : ∀ (τ : yS) (a3 : Int32) (a5 : Int32) (a6 : Int32) (a7 : Int32) (res : Int32 × yS), rec352 τ a3 a5 a6 a7 = some res → ∀ (H : Heap) (locs : List Loc) (ls : Array Slot), xW E A s σ τ H locs → lv_has ls 8 [(0, .ref (E.2.2.1 30 0)), (3, .int a3), (5, .int a5), (6, .int a6), (7, .int a7)] → W p l e R s m args below meth c H locs 0 0 (MQ below (xQ E A (some (.int res.1)) σ res.2) args s 0 0 A) (F0 m 352 ls [])) (a3 : Int32) (a5 : Int32) (a6 : Int32) (a7 : Int32) (res : Int32 × yS) (hf : fM_check_Z2_352b N rec323 rec352 τ a3 a5 a6 a7 = some res) (H : Heap) (locs : List Loc) (ls : Array Slot) (hw : xW E A s σ τ H locs) (hl : lv_has ls 8 [(0, .ref (E.2.2.1 30 0)), (3, .int a3), (5, .int a5), (6, .int a6), (7, .int a7)]) : W p l e R s m args below meth c H locs 0 0 (MQ below (xQ E A (some (.int res.1)) σ res.2) args s 0 0 A) (F0 m 352 ls []) := by
  have hx := C.1
  have hb := C.2.1
  unfold fM_check_Z2_352b at hf
  refine lv_iload hx hb dM_check_Z2_352 (lv_at hl 4 rfl) ?_
  refine lv_aload_n hx hb dM_check_Z2_354 rfl (lv_at hl 0 rfl) ?_
  refine y_get C hw 30 0 0 (v := .ref (E.2.2.1 31 0)) at_30 rfl rfl ⟨by decide, by decide⟩ wM_7 rfl dM_check_Z2_355 ?_
  refine lv_iload_n hx hb dM_check_Z2_358 rfl (lv_at hl 1 rfl) ?_
  obtain ⟨g54, hf⟩ := x_g hf
  refine y_ild C hw 31 0 at_31 rfl g54 dM_check_Z2_359 ?_
  refine lv_icmp_ge (tgt := 431) hx hb dM_check_Z2_360 (by decide) (fun c55 => ?_) (fun c55 => ?_)
  · replace hf := x_ip c55 hf
    refine lv_iinc (v := a5 + 1) (lv' := [(5, .int (a5 + 1)), (0, .ref (E.2.2.1 30 0)), (3, .int a3), (6, .int a6), (7, .int a7)]) hx hb dM_check_Z2_431 hl (k := 2) rfl rfl (by decide) rfl (fun ls hl => ?_)
    refine lv_goto (tgt := 323) hx hb dM_check_Z2_434 (by decide) ?_
    exact hrec323 τ a3 (a5 + 1) res hf H locs ls hw (lv_sub hl [1, 2, 0] rfl)
  · replace hf := x_in c55 hf
    refine lv_aload_n hx hb dM_check_Z2_363 rfl (lv_at hl 0 rfl) ?_
    refine y_get C hw 30 0 6 (v := .ref (E.2.2.1 36 0)) at_30 rfl rfl ⟨by decide, by decide⟩ wM_26 rfl dM_check_Z2_364 ?_
    refine lv_bipush (v := 8) hx hb dM_check_Z2_367 (by decide) ?_
    refine lv_bipush (v := 6) hx hb dM_check_Z2_369 (by decide) ?_
    refine lv_iload hx hb dM_check_Z2_371 (lv_at hl 4 rfl) ?_
    refine lv_iadd hx hb dM_check_Z2_373 ?_
    refine lv_imul hx hb dM_check_Z2_374 ?_
    obtain ⟨g56, hf⟩ := x_g hf
    refine y_ild C hw 36 0 at_36 rfl g56 dM_check_Z2_375 ?_
    refine lv_bipush (v := 7) hx hb dM_check_Z2_376 (by decide) ?_
    refine lv_icmp_ne (tgt := 425) hx hb dM_check_Z2_378 (by decide) (fun c57 => ?_) (fun c57 => ?_)
    · replace hf := x_in c57 hf
      exact wM_check_Z2_425 C N τ rec323 hrec323 rec352 hrec352 a3 a5 a6 a7 res hf H locs ls hw (lv_sub hl [0, 1, 2, 3, 4] rfl)
    · replace hf := x_ip c57 hf
      refine lv_aload_n hx hb dM_check_Z2_381 rfl (lv_at hl 0 rfl) ?_
      refine y_get C hw 30 0 34 (v := .ref (E.2.2.1 54 0)) at_30 rfl rfl ⟨by decide, by decide⟩ wM_84 rfl dM_check_Z2_382 ?_
      refine lv_aload_n hx hb dM_check_Z2_385 rfl (lv_at hl 0 rfl) ?_
      refine y_get C hw 30 0 36 (v := .int (τ 30 0 36)) at_30 rfl rfl ⟨by decide, by decide⟩ wM_196 rfl dM_check_Z2_386 ?_
      refine lv_bipush (v := 12) hx hb dM_check_Z2_389 (by decide) ?_
      refine lv_irem hx hb dM_check_Z2_391 (by decide) ?_
      refine lv_iload hx hb dM_check_Z2_392 (lv_at hl 4 rfl) ?_
      refine lv_if_ne (tgt := 407) hx hb dM_check_Z2_394 (by decide) (fun c58 => ?_) (fun c58 => ?_)
      · replace hf := x_in c58 hf
        refine lv_aload_n hx hb dM_check_Z2_407 rfl (lv_at hl 0 rfl) ?_
        refine y_get C hw 30 0 17 (v := .ref (E.2.2.1 42 0)) at_30 rfl rfl ⟨by decide, by decide⟩ wM_44 rfl dM_check_Z2_408 ?_
        refine lv_iload hx hb dM_check_Z2_411 (lv_at hl 3 rfl) ?_
        obtain ⟨g59, hf⟩ := x_g hf
        refine y_ild C hw 42 0 at_42 rfl g59 dM_check_Z2_413 ?_
        exact wM_check_Z2_414 C N τ rec323 hrec323 rec352 hrec352 a3 a5 a6 a7 (τ 42 0 a6.toNatClampNeg) ((τ 30 0 36) - (τ 30 0 36) / 12 * 12) res hf H locs ls hw (lv_sub hl [0, 1, 2, 3, 4] rfl)
      · replace hf := x_ip c58 hf
        refine lv_aload_n hx hb dM_check_Z2_397 rfl (lv_at hl 0 rfl) ?_
        refine y_get C hw 30 0 16 (v := .ref (E.2.2.1 41 0)) at_30 rfl rfl ⟨by decide, by decide⟩ wM_41 rfl dM_check_Z2_398 ?_
        refine lv_iload hx hb dM_check_Z2_401 (lv_at hl 3 rfl) ?_
        obtain ⟨g60, hf⟩ := x_g hf
        refine y_ild C hw 41 0 at_41 rfl g60 dM_check_Z2_403 ?_
        refine lv_goto (tgt := 414) hx hb dM_check_Z2_404 (by decide) ?_
        exact wM_check_Z2_414 C N τ rec323 hrec323 rec352 hrec352 a3 a5 a6 a7 (τ 41 0 a6.toNatClampNeg) ((τ 30 0 36) - (τ 30 0 36) / 12 * 12) res hf H locs ls hw (lv_sub hl [0, 1, 2, 3, 4] rfl)
set_option maxHeartbeats 4000000 in
set_option maxRecDepth 100000 in
theorem wM_check_Z2_352 {p : Program} {l : Launch} {e : Env} {R : Room} {s : State} {m : MethodId} {args : Array Value} {below : List Frame} {meth : Method} {c : Code} {E : xE} {A : Nat → Prop} {σ : xS} (C : xC p s m args meth c R E A bM_check_Z2 8 yM_check_Z2 (some .boolean) 2 0 0) (N : Nat) (rec323 : yS → Int32 → Int32 → Option (Int32 × yS)) (hrec323 : ∀ (τ : yS) (a3 : Int32) (a5 : Int32) (res : Int32 × yS), rec323 τ a3 a5 = some res → ∀ (H : Heap) (locs : List Loc) (ls : Array Slot), xW E A s σ τ H locs → lv_has ls 8 [(0, .ref (E.2.2.1 30 0)), (3, .int a3), (5, .int a5)] → W p l e R s m args below meth c H locs 0 0 (MQ below (xQ E A (some (.int res.1)) σ res.2) args s 0 0 A) (F0 m 323 ls [])) (n : Nat) : ∀ (τ : yS) (a3 : Int32) (a5 : Int32) (a6 : Int32) (a7 : Int32) (res : Int32 × yS), fM_check_Z2_352 N rec323 n τ a3 a5 a6 a7 = some res → ∀ (H : Heap) (locs : List Loc) (ls : Array Slot), xW E A s σ τ H locs → lv_has ls 8 [(0, .ref (E.2.2.1 30 0)), (3, .int a3), (5, .int a5), (6, .int a6), (7, .int a7)] → W p l e R s m args below meth c H locs 0 0 (MQ below (xQ E A (some (.int res.1)) σ res.2) args s 0 0 A) (F0 m 352 ls []) := by
  induction n with
  | zero => intro τ a3 a5 a6 a7 res hf; cases hf
  | succ n ih =>
    intro τ a3 a5 a6 a7 res hf H locs ls hw hl
    exact wM_check_Z2_352b C N τ rec323 hrec323 (fM_check_Z2_352 N rec323 n) ih a3 a5 a6 a7 res hf H locs ls hw hl
set_option maxHeartbeats 4000000 in
set_option maxRecDepth 100000 in
theorem wM_check_Z2_323b {p : Program} {l : Launch} {e : Env} {R : Room} {s : State} {m : MethodId} {args : Array Value} {below : List Frame} {meth : Method} {c : Code} {E : xE} {A : Nat → Prop} {σ : xS} (C : xC p s m args meth c R E A bM_check_Z2 8 yM_check_Z2 (some .boolean) 2 0 0) (N : Nat) (τ : yS) (rec323 : yS → Int32 → Int32 → Option (Int32 × yS)) (hrec323 : ∀ (τ : yS) (a3 : Int32) (a5 : Int32) (res : Int32 × yS), rec323 τ a3 a5 = some res → ∀ (H : Heap) (locs : List Loc) (ls : Array Slot), xW E A s σ τ H locs → lv_has ls 8 [(0, .ref (E.2.2.1 30 0)), (3, .int a3), (5, .int a5)] → W p l e R s m args below meth c H locs 0 0 (MQ below (xQ E A (some (.int res.1)) σ res.2) args s 0 0 A) (F0 m 323 ls [])) (a3 : Int32) (a5 : Int32) (res : Int32 × yS) (hf : fM_check_Z2_323b N rec323 τ a3 a5 = some res) (H : Heap) (locs : List Loc) (ls : Array Slot) (hw : xW E A s σ τ H locs) (hl : lv_has ls 8 [(0, .ref (E.2.2.1 30 0)), (3, .int a3), (5, .int a5)]) : W p l e R s m args below meth c H locs 0 0 (MQ below (xQ E A (some (.int res.1)) σ res.2) args s 0 0 A) (F0 m 323 ls []) := by
  have hx := C.1
  have hb := C.2.1
  unfold fM_check_Z2_323b at hf
  refine lv_iload hx hb dM_check_Z2_323 (lv_at hl 2 rfl) ?_
  refine lv_aload_n hx hb dM_check_Z2_325 rfl (lv_at hl 0 rfl) ?_
  refine y_get C hw 30 0 35 (v := .int (τ 30 0 35)) at_30 rfl rfl ⟨by decide, by decide⟩ wM_180 rfl dM_check_Z2_326 ?_
  refine lv_icmp_ge (tgt := 437) hx hb dM_check_Z2_329 (by decide) (fun c61 => ?_) (fun c61 => ?_)
  · replace hf := x_ip c61 hf
    refine lv_iconst (v := 1) hx hb dM_check_Z2_437 (by decide) ?_
    obtain rfl := Option.some.inj hf
    exact x_zret C hw (x_nz (v := 1) (Or.inr rfl)) dM_check_Z2_438
  · replace hf := x_in c61 hf
    refine lv_aload_n hx hb dM_check_Z2_332 rfl (lv_at hl 0 rfl) ?_
    refine y_get C hw 30 0 32 (v := .ref (E.2.2.1 52 0)) at_30 rfl rfl ⟨by decide, by decide⟩ wM_78 rfl dM_check_Z2_333 ?_
    refine lv_iload hx hb dM_check_Z2_336 (lv_at hl 2 rfl) ?_
    obtain ⟨g62, hf⟩ := x_g hf
    refine y_ild C hw 52 0 at_52 rfl g62 dM_check_Z2_338 ?_
    refine lv_istore (lv' := [(6, .int (τ 52 0 a5.toNatClampNeg)), (0, .ref (E.2.2.1 30 0)), (3, .int a3), (5, .int a5)]) hx hb dM_check_Z2_339 hl (by decide) rfl (fun ls hl => ?_)
    refine lv_aload_n hx hb dM_check_Z2_341 rfl (lv_at hl 1 rfl) ?_
    refine y_get C hw 30 0 19 (v := .ref (E.2.2.1 44 0)) at_30 rfl rfl ⟨by decide, by decide⟩ wM_50 rfl dM_check_Z2_342 ?_
    refine lv_iload hx hb dM_check_Z2_345 (lv_at hl 0 rfl) ?_
    refine lv_iconst (v := 1) hx hb dM_check_Z2_347 (by decide) ?_
    obtain ⟨g63, hf⟩ := x_g hf
    refine y_zst C hw 44 0 at_44 (by decide) rfl rfl g63 dM_check_Z2_348 (fun H locs hw => ?_)
    obtain ⟨s64, es64, hf⟩ := x_l hf
    rw [← es64] at hw
    refine lv_iconst (v := 0) hx hb dM_check_Z2_349 (by decide) ?_
    refine lv_istore (lv' := [(7, .int 0), (6, .int (τ 52 0 a5.toNatClampNeg)), (0, .ref (E.2.2.1 30 0)), (3, .int a3), (5, .int a5)]) hx hb dM_check_Z2_350 hl (by decide) rfl (fun ls hl => ?_)
    exact wM_check_Z2_352 C N rec323 hrec323 N s64 a3 a5 (τ 52 0 a5.toNatClampNeg) 0 res hf H locs ls hw (lv_sub hl [2, 3, 4, 1, 0] rfl)
set_option maxHeartbeats 4000000 in
set_option maxRecDepth 100000 in
theorem wM_check_Z2_323 {p : Program} {l : Launch} {e : Env} {R : Room} {s : State} {m : MethodId} {args : Array Value} {below : List Frame} {meth : Method} {c : Code} {E : xE} {A : Nat → Prop} {σ : xS} (C : xC p s m args meth c R E A bM_check_Z2 8 yM_check_Z2 (some .boolean) 2 0 0) (N : Nat) (n : Nat) : ∀ (τ : yS) (a3 : Int32) (a5 : Int32) (res : Int32 × yS), fM_check_Z2_323 N n τ a3 a5 = some res → ∀ (H : Heap) (locs : List Loc) (ls : Array Slot), xW E A s σ τ H locs → lv_has ls 8 [(0, .ref (E.2.2.1 30 0)), (3, .int a3), (5, .int a5)] → W p l e R s m args below meth c H locs 0 0 (MQ below (xQ E A (some (.int res.1)) σ res.2) args s 0 0 A) (F0 m 323 ls []) := by
  induction n with
  | zero => intro τ a3 a5 res hf; cases hf
  | succ n ih =>
    intro τ a3 a5 res hf H locs ls hw hl
    exact wM_check_Z2_323b C N τ (fM_check_Z2_323 N n) ih a3 a5 res hf H locs ls hw hl
set_option maxHeartbeats 4000000 in
set_option maxRecDepth 100000 in
theorem wM_check_Z2_320 {p : Program} {l : Launch} {e : Env} {R : Room} {s : State} {m : MethodId} {args : Array Value} {below : List Frame} {meth : Method} {c : Code} {E : xE} {A : Nat → Prop} {σ : xS} (C : xC p s m args meth c R E A bM_check_Z2 8 yM_check_Z2 (some .boolean) 2 0 0) (N : Nat) (τ : yS) (a3 : Int32) (res : Int32 × yS) (hf : fM_check_Z2_320 N τ a3 = some res) (H : Heap) (locs : List Loc) (ls : Array Slot) (hw : xW E A s σ τ H locs) (hl : lv_has ls 8 [(0, .ref (E.2.2.1 30 0)), (3, .int a3)]) : W p l e R s m args below meth c H locs 0 0 (MQ below (xQ E A (some (.int res.1)) σ res.2) args s 0 0 A) (F0 m 320 ls []) := by
  have hx := C.1
  have hb := C.2.1
  unfold fM_check_Z2_320 at hf
  refine lv_iconst (v := 0) hx hb dM_check_Z2_320 (by decide) ?_
  refine lv_istore (lv' := [(5, .int 0), (0, .ref (E.2.2.1 30 0)), (3, .int a3)]) hx hb dM_check_Z2_321 hl (by decide) rfl (fun ls hl => ?_)
  exact wM_check_Z2_323 C N N τ a3 0 res hf H locs ls hw (lv_sub hl [1, 2, 0] rfl)
set_option maxHeartbeats 4000000 in
set_option maxRecDepth 100000 in
theorem wM_check_Z2_272 {p : Program} {l : Launch} {e : Env} {R : Room} {s : State} {m : MethodId} {args : Array Value} {below : List Frame} {meth : Method} {c : Code} {E : xE} {A : Nat → Prop} {σ : xS} (C : xC p s m args meth c R E A bM_check_Z2 8 yM_check_Z2 (some .boolean) 2 0 0) (N : Nat) (τ : yS) (a3 : Int32) (t0 : Int32) (res : Int32 × yS) (hf : fM_check_Z2_272 N τ a3 t0 = some res) (H : Heap) (locs : List Loc) (ls : Array Slot) (hw : xW E A s σ τ H locs) (hl : lv_has ls 8 [(0, .ref (E.2.2.1 30 0)), (3, .int a3)]) : W p l e R s m args below meth c H locs 0 0 (MQ below (xQ E A (some (.int res.1)) σ res.2) args s 0 0 A) (F0 m 272 ls [.int t0, .ref (E.2.2.1 30 0)]) := by
  have hx := C.1
  have hb := C.2.1
  unfold fM_check_Z2_272 at hf
  obtain ⟨g65, hf⟩ := x_g hf
  refine y_putz C hw 30 0 38 at_30 g65 rfl rfl rfl ⟨rfl, rfl⟩ ⟨by decide, by decide⟩ (Nat.le_of_ble_eq_true rfl) wM_193 dM_check_Z2_272 (fun H locs hw => ?_)
  obtain ⟨s66, es66, hf⟩ := x_l hf
  rw [← es66] at hw
  refine lv_aload_n hx hb dM_check_Z2_275 rfl (lv_at hl 0 rfl) ?_
  refine y_get C hw 30 0 38 (v := .int (s66 30 0 38)) at_30 rfl rfl ⟨by decide, by decide⟩ wM_193 rfl dM_check_Z2_276 ?_
  refine lv_if_ne (tgt := 284) hx hb dM_check_Z2_279 (by decide) (fun c67 => ?_) (fun c67 => ?_)
  · replace hf := x_in c67 hf
    refine lv_aload_n hx hb dM_check_Z2_284 rfl (lv_at hl 0 rfl) ?_
    refine y_get C hw 30 0 11 (v := .int (s66 30 0 11)) at_30 rfl rfl ⟨by decide, by decide⟩ wM_183 rfl dM_check_Z2_285 ?_
    refine lv_iconst (v := 4) hx hb dM_check_Z2_288 (by decide) ?_
    refine lv_icmp_ne (tgt := 320) hx hb dM_check_Z2_289 (by decide) (fun c68 => ?_) (fun c68 => ?_)
    · replace hf := x_in c68 hf
      exact wM_check_Z2_320 C N s66 a3 res hf H locs ls hw (lv_sub hl [0, 1] rfl)
    · replace hf := x_ip c68 hf
      refine lv_aload_n hx hb dM_check_Z2_292 rfl (lv_at hl 0 rfl) ?_
      refine lv_aload_n hx hb dM_check_Z2_293 rfl (lv_at hl 0 rfl) ?_
      refine y_get C hw 30 0 12 (v := .int (s66 30 0 12)) at_30 rfl rfl ⟨by decide, by decide⟩ wM_190 rfl dM_check_Z2_294 ?_
      refine y_puti C hw 30 0 35 at_30 rfl rfl rfl ⟨rfl, rfl⟩ ⟨by decide, by decide⟩ (Nat.le_of_ble_eq_true rfl) wM_180 dM_check_Z2_297 (fun H locs hw => ?_)
      obtain ⟨s69, es69, hf⟩ := x_l hf
      rw [← es69] at hw
      refine lv_aload_n hx hb dM_check_Z2_300 rfl (lv_at hl 0 rfl) ?_
      refine lv_aload_n hx hb dM_check_Z2_301 rfl (lv_at hl 0 rfl) ?_
      refine y_get C hw 30 0 13 (v := .ref (E.2.2.1 38 0)) at_30 rfl rfl ⟨by decide, by decide⟩ wM_32 rfl dM_check_Z2_302 ?_
      refine lv_aload_n hx hb dM_check_Z2_305 rfl (lv_at hl 0 rfl) ?_
      refine y_get C hw 30 0 32 (v := .ref (E.2.2.1 52 0)) at_30 rfl rfl ⟨by decide, by decide⟩ wM_78 rfl dM_check_Z2_306 ?_
      refine lv_aload_n hx hb dM_check_Z2_309 rfl (lv_at hl 0 rfl) ?_
      refine y_get C hw 30 0 35 (v := .int (s69 30 0 35)) at_30 rfl rfl ⟨by decide, by decide⟩ wM_180 rfl dM_check_Z2_310 ?_
      refine lv_iconst (v := 1) hx hb dM_check_Z2_313 (by decide) ?_
      refine lv_isub hx hb dM_check_Z2_314 ?_
      obtain ⟨g70, hf⟩ := x_g hf
      refine y_ild C hw 52 0 at_52 rfl g70 dM_check_Z2_315 ?_
      obtain ⟨g71, hf⟩ := x_g hf
      refine y_ild C hw 38 0 at_38 rfl g71 dM_check_Z2_316 ?_
      refine y_puti C hw 30 0 31 at_30 rfl rfl rfl ⟨rfl, rfl⟩ ⟨by decide, by decide⟩ (Nat.le_of_ble_eq_true rfl) wM_74 dM_check_Z2_317 (fun H locs hw => ?_)
      obtain ⟨s72, es72, hf⟩ := x_l hf
      rw [← es72] at hw
      exact wM_check_Z2_320 C N s72 a3 res hf H locs ls hw (lv_sub hl [0, 1] rfl)
  · replace hf := x_ip c67 hf
    refine lv_iconst (v := 0) hx hb dM_check_Z2_282 (by decide) ?_
    obtain rfl := Option.some.inj hf
    exact x_zret C hw (x_nz (v := 0) (Or.inl rfl)) dM_check_Z2_283
set_option maxHeartbeats 4000000 in
set_option maxRecDepth 100000 in
theorem wM_check_Z2_252 {p : Program} {l : Launch} {e : Env} {R : Room} {s : State} {m : MethodId} {args : Array Value} {below : List Frame} {meth : Method} {c : Code} {E : xE} {A : Nat → Prop} {σ : xS} (C : xC p s m args meth c R E A bM_check_Z2 8 yM_check_Z2 (some .boolean) 2 0 0) (N : Nat) (τ : yS) (a3 : Int32) (res : Int32 × yS) (hf : fM_check_Z2_252 N τ a3 = some res) (H : Heap) (locs : List Loc) (ls : Array Slot) (hw : xW E A s σ τ H locs) (hl : lv_has ls 8 [(0, .ref (E.2.2.1 30 0)), (3, .int a3)]) : W p l e R s m args below meth c H locs 0 0 (MQ below (xQ E A (some (.int res.1)) σ res.2) args s 0 0 A) (F0 m 252 ls [.ref (E.2.2.1 30 0)]) := by
  have hx := C.1
  have hb := C.2.1
  unfold fM_check_Z2_252 at hf
  refine lv_iconst (v := 0) hx hb dM_check_Z2_252 (by decide) ?_
  refine lv_goto (tgt := 272) hx hb dM_check_Z2_253 (by decide) ?_
  exact wM_check_Z2_272 C N τ a3 0 res hf H locs ls hw (lv_sub hl [0, 1] rfl)
set_option maxHeartbeats 4000000 in
set_option maxRecDepth 100000 in
theorem wM_check_Z2_161 {p : Program} {l : Launch} {e : Env} {R : Room} {s : State} {m : MethodId} {args : Array Value} {below : List Frame} {meth : Method} {c : Code} {E : xE} {A : Nat → Prop} {σ : xS} (C : xC p s m args meth c R E A bM_check_Z2 8 yM_check_Z2 (some .boolean) 2 0 0) (N : Nat) (τ : yS) (rec18 : yS → Int32 → Int32 → Int32 → Int32 → Int32 → Option (Int32 × yS)) (hrec18 : ∀ (τ : yS) (a1 : Int32) (a2 : Int32) (a3 : Int32) (a4 : Int32) (a5 : Int32) (res : Int32 × yS), rec18 τ a1 a2 a3 a4 a5 = some res → ∀ (H : Heap) (locs : List Loc) (ls : Array Slot), xW E A s σ τ H locs → lv_has ls 8 [(0, .ref (E.2.2.1 30 0)), (1, .int a1), (2, .int a2), (3, .int a3), (4, .int a4), (5, .int a5)] → W p l e R s m args below meth c H locs 0 0 (MQ below (xQ E A (some (.int res.1)) σ res.2) args s 0 0 A) (F0 m 18 ls [])) (a1 : Int32) (a2 : Int32) (a3 : Int32) (a4 : Int32) (a5 : Int32) (res : Int32 × yS) (hf : fM_check_Z2_161 N rec18 τ a1 a2 a3 a4 a5 = some res) (H : Heap) (locs : List Loc) (ls : Array Slot) (hw : xW E A s σ τ H locs) (hl : lv_has ls 8 [(0, .ref (E.2.2.1 30 0)), (1, .int a1), (2, .int a2), (3, .int a3), (4, .int a4), (5, .int a5)]) : W p l e R s m args below meth c H locs 0 0 (MQ below (xQ E A (some (.int res.1)) σ res.2) args s 0 0 A) (F0 m 161 ls []) := by
  have hx := C.1
  have hb := C.2.1
  unfold fM_check_Z2_161 at hf
  refine lv_iinc (v := a5 + 1) (lv' := [(5, .int (a5 + 1)), (0, .ref (E.2.2.1 30 0)), (1, .int a1), (2, .int a2), (3, .int a3), (4, .int a4)]) hx hb dM_check_Z2_161 hl (k := 5) rfl rfl (by decide) rfl (fun ls hl => ?_)
  refine lv_goto (tgt := 18) hx hb dM_check_Z2_164 (by decide) ?_
  exact hrec18 τ a1 a2 a3 a4 (a5 + 1) res hf H locs ls hw (lv_sub hl [1, 2, 3, 4, 5, 0] rfl)
set_option maxHeartbeats 4000000 in
set_option maxRecDepth 100000 in
theorem wM_check_Z2_114 {p : Program} {l : Launch} {e : Env} {R : Room} {s : State} {m : MethodId} {args : Array Value} {below : List Frame} {meth : Method} {c : Code} {E : xE} {A : Nat → Prop} {σ : xS} (C : xC p s m args meth c R E A bM_check_Z2 8 yM_check_Z2 (some .boolean) 2 0 0) (N : Nat) (τ : yS) (rec18 : yS → Int32 → Int32 → Int32 → Int32 → Int32 → Option (Int32 × yS)) (hrec18 : ∀ (τ : yS) (a1 : Int32) (a2 : Int32) (a3 : Int32) (a4 : Int32) (a5 : Int32) (res : Int32 × yS), rec18 τ a1 a2 a3 a4 a5 = some res → ∀ (H : Heap) (locs : List Loc) (ls : Array Slot), xW E A s σ τ H locs → lv_has ls 8 [(0, .ref (E.2.2.1 30 0)), (1, .int a1), (2, .int a2), (3, .int a3), (4, .int a4), (5, .int a5)] → W p l e R s m args below meth c H locs 0 0 (MQ below (xQ E A (some (.int res.1)) σ res.2) args s 0 0 A) (F0 m 18 ls [])) (a1 : Int32) (a2 : Int32) (a3 : Int32) (a4 : Int32) (a5 : Int32) (t0 : Int32) (res : Int32 × yS) (hf : fM_check_Z2_114 N rec18 τ a1 a2 a3 a4 a5 t0 = some res) (H : Heap) (locs : List Loc) (ls : Array Slot) (hw : xW E A s σ τ H locs) (hl : lv_has ls 8 [(0, .ref (E.2.2.1 30 0)), (1, .int a1), (2, .int a2), (3, .int a3), (4, .int a4), (5, .int a5)]) : W p l e R s m args below meth c H locs 0 0 (MQ below (xQ E A (some (.int res.1)) σ res.2) args s 0 0 A) (F0 m 114 ls [.int t0]) := by
  have hx := C.1
  have hb := C.2.1
  unfold fM_check_Z2_114 at hf
  refine lv_istore (lv' := [(6, .int t0), (0, .ref (E.2.2.1 30 0)), (1, .int a1), (2, .int a2), (3, .int a3), (4, .int a4), (5, .int a5)]) hx hb dM_check_Z2_114 hl (by decide) rfl (fun ls hl => ?_)
  refine lv_iload hx hb dM_check_Z2_116 (lv_at hl 0 rfl) ?_
  refine lv_if_ne (tgt := 124) hx hb dM_check_Z2_118 (by decide) (fun c73 => ?_) (fun c73 => ?_)
  · replace hf := x_in c73 hf
    refine lv_aload_n hx hb dM_check_Z2_124 rfl (lv_at hl 1 rfl) ?_
    refine y_get C hw 30 0 32 (v := .ref (E.2.2.1 52 0)) at_30 rfl rfl ⟨by decide, by decide⟩ wM_78 rfl dM_check_Z2_125 ?_
    refine lv_aload_n hx hb dM_check_Z2_128 rfl (lv_at hl 1 rfl) ?_
    refine y_get C hw 30 0 35 (v := .int (τ 30 0 35)) at_30 rfl rfl ⟨by decide, by decide⟩ wM_180 rfl dM_check_Z2_129 ?_
    refine lv_iload hx hb dM_check_Z2_132 (lv_at hl 6 rfl) ?_
    obtain ⟨g74, hf⟩ := x_g hf
    refine y_ist C hw 52 0 at_52 rfl rfl g74 dM_check_Z2_134 (fun H locs hw => ?_)
    obtain ⟨s75, es75, hf⟩ := x_l hf
    rw [← es75] at hw
    refine lv_aload_n hx hb dM_check_Z2_135 rfl (lv_at hl 1 rfl) ?_
    refine y_get C hw 30 0 33 (v := .ref (E.2.2.1 53 0)) at_30 rfl rfl ⟨by decide, by decide⟩ wM_81 rfl dM_check_Z2_136 ?_
    refine lv_aload_n hx hb dM_check_Z2_139 rfl (lv_at hl 1 rfl) ?_
    refine y_get C hw 30 0 35 (v := .int (s75 30 0 35)) at_30 rfl rfl ⟨by decide, by decide⟩ wM_180 rfl dM_check_Z2_140 ?_
    refine lv_aload_n hx hb dM_check_Z2_143 rfl (lv_at hl 1 rfl) ?_
    refine y_get C hw 30 0 13 (v := .ref (E.2.2.1 38 0)) at_30 rfl rfl ⟨by decide, by decide⟩ wM_32 rfl dM_check_Z2_144 ?_
    refine lv_iload hx hb dM_check_Z2_147 (lv_at hl 6 rfl) ?_
    obtain ⟨g76, hf⟩ := x_g hf
    refine y_ild C hw 38 0 at_38 rfl g76 dM_check_Z2_149 ?_
    obtain ⟨g77, hf⟩ := x_g hf
    refine y_ist C hw 53 0 at_53 rfl rfl g77 dM_check_Z2_150 (fun H locs hw => ?_)
    obtain ⟨s78, es78, hf⟩ := x_l hf
    rw [← es78] at hw
    refine lv_aload_n hx hb dM_check_Z2_151 rfl (lv_at hl 1 rfl) ?_
    refine lv_dup hx hb dM_check_Z2_152 rfl ?_
    refine y_get C hw 30 0 35 (v := .int (s78 30 0 35)) at_30 rfl rfl ⟨by decide, by decide⟩ wM_180 rfl dM_check_Z2_153 ?_
    refine lv_iconst (v := 1) hx hb dM_check_Z2_156 (by decide) ?_
    refine lv_iadd hx hb dM_check_Z2_157 ?_
    refine y_puti C hw 30 0 35 at_30 rfl rfl rfl ⟨rfl, rfl⟩ ⟨by decide, by decide⟩ (Nat.le_of_ble_eq_true rfl) wM_180 dM_check_Z2_158 (fun H locs hw => ?_)
    obtain ⟨s79, es79, hf⟩ := x_l hf
    rw [← es79] at hw
    exact wM_check_Z2_161 C N s79 rec18 hrec18 a1 a2 a3 a4 a5 res hf H locs ls hw (lv_sub hl [1, 2, 3, 4, 5, 6] rfl)
  · replace hf := x_ip c73 hf
    refine lv_goto (tgt := 161) hx hb dM_check_Z2_121 (by decide) ?_
    exact wM_check_Z2_161 C N τ rec18 hrec18 a1 a2 a3 a4 a5 res hf H locs ls hw (lv_sub hl [1, 2, 3, 4, 5, 6] rfl)
set_option maxHeartbeats 4000000 in
set_option maxRecDepth 100000 in
theorem wM_check_Z2_113 {p : Program} {l : Launch} {e : Env} {R : Room} {s : State} {m : MethodId} {args : Array Value} {below : List Frame} {meth : Method} {c : Code} {E : xE} {A : Nat → Prop} {σ : xS} (C : xC p s m args meth c R E A bM_check_Z2 8 yM_check_Z2 (some .boolean) 2 0 0) (N : Nat) (τ : yS) (rec18 : yS → Int32 → Int32 → Int32 → Int32 → Int32 → Option (Int32 × yS)) (hrec18 : ∀ (τ : yS) (a1 : Int32) (a2 : Int32) (a3 : Int32) (a4 : Int32) (a5 : Int32) (res : Int32 × yS), rec18 τ a1 a2 a3 a4 a5 = some res → ∀ (H : Heap) (locs : List Loc) (ls : Array Slot), xW E A s σ τ H locs → lv_has ls 8 [(0, .ref (E.2.2.1 30 0)), (1, .int a1), (2, .int a2), (3, .int a3), (4, .int a4), (5, .int a5)] → W p l e R s m args below meth c H locs 0 0 (MQ below (xQ E A (some (.int res.1)) σ res.2) args s 0 0 A) (F0 m 18 ls [])) (a1 : Int32) (a2 : Int32) (a3 : Int32) (a4 : Int32) (a5 : Int32) (res : Int32 × yS) (hf : fM_check_Z2_113 N rec18 τ a1 a2 a3 a4 a5 = some res) (H : Heap) (locs : List Loc) (ls : Array Slot) (hw : xW E A s σ τ H locs) (hl : lv_has ls 8 [(0, .ref (E.2.2.1 30 0)), (1, .int a1), (2, .int a2), (3, .int a3), (4, .int a4), (5, .int a5)]) : W p l e R s m args below meth c H locs 0 0 (MQ below (xQ E A (some (.int res.1)) σ res.2) args s 0 0 A) (F0 m 113 ls []) := by
  have hx := C.1
  have hb := C.2.1
  unfold fM_check_Z2_113 at hf
  refine lv_iconst (v := 0) hx hb dM_check_Z2_113 (by decide) ?_
  exact wM_check_Z2_114 C N τ rec18 hrec18 a1 a2 a3 a4 a5 0 res hf H locs ls hw (lv_sub hl [0, 1, 2, 3, 4, 5] rfl)
set_option maxHeartbeats 4000000 in
set_option maxRecDepth 100000 in
theorem wM_check_Z2_85 {p : Program} {l : Launch} {e : Env} {R : Room} {s : State} {m : MethodId} {args : Array Value} {below : List Frame} {meth : Method} {c : Code} {E : xE} {A : Nat → Prop} {σ : xS} (C : xC p s m args meth c R E A bM_check_Z2 8 yM_check_Z2 (some .boolean) 2 0 0) (N : Nat) (τ : yS) (rec18 : yS → Int32 → Int32 → Int32 → Int32 → Int32 → Option (Int32 × yS)) (hrec18 : ∀ (τ : yS) (a1 : Int32) (a2 : Int32) (a3 : Int32) (a4 : Int32) (a5 : Int32) (res : Int32 × yS), rec18 τ a1 a2 a3 a4 a5 = some res → ∀ (H : Heap) (locs : List Loc) (ls : Array Slot), xW E A s σ τ H locs → lv_has ls 8 [(0, .ref (E.2.2.1 30 0)), (1, .int a1), (2, .int a2), (3, .int a3), (4, .int a4), (5, .int a5)] → W p l e R s m args below meth c H locs 0 0 (MQ below (xQ E A (some (.int res.1)) σ res.2) args s 0 0 A) (F0 m 18 ls [])) (a1 : Int32) (a2 : Int32) (a3 : Int32) (a4 : Int32) (a5 : Int32) (res : Int32 × yS) (hf : fM_check_Z2_85 N rec18 τ a1 a2 a3 a4 a5 = some res) (H : Heap) (locs : List Loc) (ls : Array Slot) (hw : xW E A s σ τ H locs) (hl : lv_has ls 8 [(0, .ref (E.2.2.1 30 0)), (1, .int a1), (2, .int a2), (3, .int a3), (4, .int a4), (5, .int a5)]) : W p l e R s m args below meth c H locs 0 0 (MQ below (xQ E A (some (.int res.1)) σ res.2) args s 0 0 A) (F0 m 85 ls []) := by
  have hx := C.1
  have hb := C.2.1
  unfold fM_check_Z2_85 at hf
  refine lv_aload_n hx hb dM_check_Z2_85 rfl (lv_at hl 0 rfl) ?_
  refine lv_bipush (v := 6) hx hb dM_check_Z2_86 (by decide) ?_
  refine lv_iload_n hx hb dM_check_Z2_88 rfl (lv_at hl 3 rfl) ?_
  refine lv_aload_n hx hb dM_check_Z2_89 rfl (lv_at hl 0 rfl) ?_
  refine y_get C hw 30 0 16 (v := .ref (E.2.2.1 41 0)) at_30 rfl rfl ⟨by decide, by decide⟩ wM_41 rfl dM_check_Z2_90 ?_
  refine lv_iload hx hb dM_check_Z2_93 (lv_at hl 5 rfl) ?_
  obtain ⟨g80, hf⟩ := x_g hf
  refine y_ild C hw 41 0 at_41 rfl g80 dM_check_Z2_95 ?_
  refine lv_aload_n hx hb dM_check_Z2_96 rfl (lv_at hl 0 rfl) ?_
  refine y_get C hw 30 0 17 (v := .ref (E.2.2.1 42 0)) at_30 rfl rfl ⟨by decide, by decide⟩ wM_44 rfl dM_check_Z2_97 ?_
  refine lv_iload hx hb dM_check_Z2_100 (lv_at hl 5 rfl) ?_
  refine y_ild C hw 42 0 at_42 rfl g80 dM_check_Z2_102 ?_
  obtain ⟨r82, h81, hf⟩ := x_p hf
  refine x_callV (As := [.int 6, .int a3, .int (τ 41 0 a5.toNatClampNeg), .int (τ 42 0 a5.toNatClampNeg)]) (rest := []) (st1 := [.int r82]) C hw (cM_matchesCall l E N τ σ 6 a3 (τ 41 0 a5.toNatClampNeg) (τ 42 0 a5.toNatClampNeg) r82 h81) kM_172 (x_recvY C hw 30 0 at_30 rfl rfl) (by decide) rfl rfl hl.1 (lv_room (Nat.le_of_ble_eq_true rfl)) dM_check_Z2_103 ⟨by decide, by decide⟩ rfl (fun H locs hw => ?_)
  refine lv_if_eq (tgt := 113) hx hb dM_check_Z2_106 (by decide) (fun c83 => ?_) (fun c83 => ?_)
  · replace hf := x_ip c83 hf
    exact wM_check_Z2_113 C N τ rec18 hrec18 a1 a2 a3 a4 a5 res hf H locs ls hw (lv_sub hl [0, 1, 2, 3, 4, 5] rfl)
  · replace hf := x_in c83 hf
    refine lv_iconst (v := 1) hx hb dM_check_Z2_109 (by decide) ?_
    refine lv_goto (tgt := 114) hx hb dM_check_Z2_110 (by decide) ?_
    exact wM_check_Z2_114 C N τ rec18 hrec18 a1 a2 a3 a4 a5 1 res hf H locs ls hw (lv_sub hl [0, 1, 2, 3, 4, 5] rfl)
set_option maxHeartbeats 4000000 in
set_option maxRecDepth 100000 in
theorem wM_check_Z2_41 {p : Program} {l : Launch} {e : Env} {R : Room} {s : State} {m : MethodId} {args : Array Value} {below : List Frame} {meth : Method} {c : Code} {E : xE} {A : Nat → Prop} {σ : xS} (C : xC p s m args meth c R E A bM_check_Z2 8 yM_check_Z2 (some .boolean) 2 0 0) (N : Nat) (τ : yS) (rec18 : yS → Int32 → Int32 → Int32 → Int32 → Int32 → Option (Int32 × yS)) (hrec18 : ∀ (τ : yS) (a1 : Int32) (a2 : Int32) (a3 : Int32) (a4 : Int32) (a5 : Int32) (res : Int32 × yS), rec18 τ a1 a2 a3 a4 a5 = some res → ∀ (H : Heap) (locs : List Loc) (ls : Array Slot), xW E A s σ τ H locs → lv_has ls 8 [(0, .ref (E.2.2.1 30 0)), (1, .int a1), (2, .int a2), (3, .int a3), (4, .int a4), (5, .int a5)] → W p l e R s m args below meth c H locs 0 0 (MQ below (xQ E A (some (.int res.1)) σ res.2) args s 0 0 A) (F0 m 18 ls [])) (a1 : Int32) (a2 : Int32) (a3 : Int32) (a4 : Int32) (a5 : Int32) (res : Int32 × yS) (hf : fM_check_Z2_41 N rec18 τ a1 a2 a3 a4 a5 = some res) (H : Heap) (locs : List Loc) (ls : Array Slot) (hw : xW E A s σ τ H locs) (hl : lv_has ls 8 [(0, .ref (E.2.2.1 30 0)), (1, .int a1), (2, .int a2), (3, .int a3), (4, .int a4), (5, .int a5)]) : W p l e R s m args below meth c H locs 0 0 (MQ below (xQ E A (some (.int res.1)) σ res.2) args s 0 0 A) (F0 m 41 ls []) := by
  have hx := C.1
  have hb := C.2.1
  unfold fM_check_Z2_41 at hf
  refine lv_aload_n hx hb dM_check_Z2_41 rfl (lv_at hl 0 rfl) ?_
  refine y_get C hw 30 0 14 (v := .ref (E.2.2.1 39 0)) at_30 rfl rfl ⟨by decide, by decide⟩ wM_35 rfl dM_check_Z2_42 ?_
  refine lv_iload hx hb dM_check_Z2_45 (lv_at hl 5 rfl) ?_
  obtain ⟨g84, hf⟩ := x_g hf
  refine y_ild C hw 39 0 at_39 rfl g84 dM_check_Z2_47 ?_
  refine lv_iload_n hx hb dM_check_Z2_48 rfl (lv_at hl 1 rfl) ?_
  refine lv_icmp_ne (tgt := 113) hx hb dM_check_Z2_49 (by decide) (fun c85 => ?_) (fun c85 => ?_)
  · replace hf := x_in c85 hf
    exact wM_check_Z2_113 C N τ rec18 hrec18 a1 a2 a3 a4 a5 res hf H locs ls hw (lv_sub hl [0, 1, 2, 3, 4, 5] rfl)
  · replace hf := x_ip c85 hf
    refine lv_aload_n hx hb dM_check_Z2_52 rfl (lv_at hl 0 rfl) ?_
    refine y_get C hw 30 0 15 (v := .ref (E.2.2.1 40 0)) at_30 rfl rfl ⟨by decide, by decide⟩ wM_38 rfl dM_check_Z2_53 ?_
    refine lv_iload hx hb dM_check_Z2_56 (lv_at hl 5 rfl) ?_
    refine y_ild C hw 40 0 at_40 rfl g84 dM_check_Z2_58 ?_
    refine lv_iload_n hx hb dM_check_Z2_59 rfl (lv_at hl 2 rfl) ?_
    refine lv_icmp_ne (tgt := 113) hx hb dM_check_Z2_60 (by decide) (fun c86 => ?_) (fun c86 => ?_)
    · replace hf := x_in c86 hf
      exact wM_check_Z2_113 C N τ rec18 hrec18 a1 a2 a3 a4 a5 res hf H locs ls hw (lv_sub hl [0, 1, 2, 3, 4, 5] rfl)
    · replace hf := x_ip c86 hf
      refine lv_aload_n hx hb dM_check_Z2_63 rfl (lv_at hl 0 rfl) ?_
      refine y_get C hw 30 0 11 (v := .int (τ 30 0 11)) at_30 rfl rfl ⟨by decide, by decide⟩ wM_183 rfl dM_check_Z2_64 ?_
      refine lv_iconst (v := 4) hx hb dM_check_Z2_67 (by decide) ?_
      refine lv_icmp_ne (tgt := 85) hx hb dM_check_Z2_68 (by decide) (fun c87 => ?_) (fun c87 => ?_)
      · replace hf := x_in c87 hf
        exact wM_check_Z2_85 C N τ rec18 hrec18 a1 a2 a3 a4 a5 res hf H locs ls hw (lv_sub hl [0, 1, 2, 3, 4, 5] rfl)
      · replace hf := x_ip c87 hf
        refine lv_aload_n hx hb dM_check_Z2_71 rfl (lv_at hl 0 rfl) ?_
        refine y_get C hw 30 0 13 (v := .ref (E.2.2.1 38 0)) at_30 rfl rfl ⟨by decide, by decide⟩ wM_32 rfl dM_check_Z2_72 ?_
        refine lv_iload hx hb dM_check_Z2_75 (lv_at hl 5 rfl) ?_
        refine y_ild C hw 38 0 at_38 rfl g84 dM_check_Z2_77 ?_
        refine lv_aload_n hx hb dM_check_Z2_78 rfl (lv_at hl 0 rfl) ?_
        refine y_get C hw 30 0 31 (v := .int (τ 30 0 31)) at_30 rfl rfl ⟨by decide, by decide⟩ wM_74 rfl dM_check_Z2_79 ?_
        refine lv_icmp_le (tgt := 113) hx hb dM_check_Z2_82 (by decide) (fun c88 => ?_) (fun c88 => ?_)
        · replace hf := x_ip c88 hf
          exact wM_check_Z2_113 C N τ rec18 hrec18 a1 a2 a3 a4 a5 res hf H locs ls hw (lv_sub hl [0, 1, 2, 3, 4, 5] rfl)
        · replace hf := x_in c88 hf
          exact wM_check_Z2_85 C N τ rec18 hrec18 a1 a2 a3 a4 a5 res hf H locs ls hw (lv_sub hl [0, 1, 2, 3, 4, 5] rfl)
set_option maxHeartbeats 4000000 in
set_option maxRecDepth 100000 in
theorem wM_check_Z2_18b {p : Program} {l : Launch} {e : Env} {R : Room} {s : State} {m : MethodId} {args : Array Value} {below : List Frame} {meth : Method} {c : Code} {E : xE} {A : Nat → Prop} {σ : xS} (C : xC p s m args meth c R E A bM_check_Z2 8 yM_check_Z2 (some .boolean) 2 0 0) (N : Nat) (τ : yS) (rec18 : yS → Int32 → Int32 → Int32 → Int32 → Int32 → Option (Int32 × yS)) (hrec18 : ∀ (τ : yS) (a1 : Int32) (a2 : Int32) (a3 : Int32) (a4 : Int32) (a5 : Int32) (res : Int32 × yS), rec18 τ a1 a2 a3 a4 a5 = some res → ∀ (H : Heap) (locs : List Loc) (ls : Array Slot), xW E A s σ τ H locs → lv_has ls 8 [(0, .ref (E.2.2.1 30 0)), (1, .int a1), (2, .int a2), (3, .int a3), (4, .int a4), (5, .int a5)] → W p l e R s m args below meth c H locs 0 0 (MQ below (xQ E A (some (.int res.1)) σ res.2) args s 0 0 A) (F0 m 18 ls [])) (a1 : Int32) (a2 : Int32) (a3 : Int32) (a4 : Int32) (a5 : Int32) (res : Int32 × yS) (hf : fM_check_Z2_18b N rec18 τ a1 a2 a3 a4 a5 = some res) (H : Heap) (locs : List Loc) (ls : Array Slot) (hw : xW E A s σ τ H locs) (hl : lv_has ls 8 [(0, .ref (E.2.2.1 30 0)), (1, .int a1), (2, .int a2), (3, .int a3), (4, .int a4), (5, .int a5)]) : W p l e R s m args below meth c H locs 0 0 (MQ below (xQ E A (some (.int res.1)) σ res.2) args s 0 0 A) (F0 m 18 ls []) := by
  have hx := C.1
  have hb := C.2.1
  unfold fM_check_Z2_18b at hf
  refine lv_iload hx hb dM_check_Z2_18 (lv_at hl 5 rfl) ?_
  refine lv_aload_n hx hb dM_check_Z2_20 rfl (lv_at hl 0 rfl) ?_
  refine y_get C hw 30 0 20 (v := .int (τ 30 0 20)) at_30 rfl rfl ⟨by decide, by decide⟩ wM_130 rfl dM_check_Z2_21 ?_
  refine lv_icmp_ge (tgt := 167) hx hb dM_check_Z2_24 (by decide) (fun c89 => ?_) (fun c89 => ?_)
  · replace hf := x_ip c89 hf
    refine lv_aload_n hx hb dM_check_Z2_167 rfl (lv_at hl 0 rfl) ?_
    refine lv_iconst (v := 1) hx hb dM_check_Z2_168 (by decide) ?_
    refine y_putz C hw 30 0 37 at_30 (by decide) rfl rfl rfl ⟨rfl, rfl⟩ ⟨by decide, by decide⟩ (Nat.le_of_ble_eq_true rfl) wM_186 dM_check_Z2_169 (fun H locs hw => ?_)
    obtain ⟨s90, es90, hf⟩ := x_l hf
    rw [← es90] at hw
    refine lv_aload_n hx hb dM_check_Z2_172 rfl (lv_at hl 0 rfl) ?_
    refine lv_aload_n hx hb dM_check_Z2_173 rfl (lv_at hl 0 rfl) ?_
    refine y_get C hw 30 0 11 (v := .int (s90 30 0 11)) at_30 rfl rfl ⟨by decide, by decide⟩ wM_183 rfl dM_check_Z2_174 ?_
    refine lv_if_ne (tgt := 199) hx hb dM_check_Z2_177 (by decide) (fun c91 => ?_) (fun c91 => ?_)
    · replace hf := x_in c91 hf
      refine lv_aload_n hx hb dM_check_Z2_199 rfl (lv_at hl 0 rfl) ?_
      refine y_get C hw 30 0 11 (v := .int (s90 30 0 11)) at_30 rfl rfl ⟨by decide, by decide⟩ wM_183 rfl dM_check_Z2_200 ?_
      refine lv_iconst (v := 2) hx hb dM_check_Z2_203 (by decide) ?_
      refine lv_icmp_ne (tgt := 226) hx hb dM_check_Z2_204 (by decide) (fun c92 => ?_) (fun c92 => ?_)
      · replace hf := x_in c92 hf
        refine lv_aload_n hx hb dM_check_Z2_226 rfl (lv_at hl 0 rfl) ?_
        refine y_get C hw 30 0 11 (v := .int (s90 30 0 11)) at_30 rfl rfl ⟨by decide, by decide⟩ wM_183 rfl dM_check_Z2_227 ?_
        refine lv_iconst (v := 3) hx hb dM_check_Z2_230 (by decide) ?_
        refine lv_icmp_ne (tgt := 256) hx hb dM_check_Z2_231 (by decide) (fun c93 => ?_) (fun c93 => ?_)
        · replace hf := x_in c93 hf
          refine lv_aload_n hx hb dM_check_Z2_256 rfl (lv_at hl 0 rfl) ?_
          refine y_get C hw 30 0 35 (v := .int (s90 30 0 35)) at_30 rfl rfl ⟨by decide, by decide⟩ wM_180 rfl dM_check_Z2_257 ?_
          refine lv_aload_n hx hb dM_check_Z2_260 rfl (lv_at hl 0 rfl) ?_
          refine y_get C hw 30 0 12 (v := .int (s90 30 0 12)) at_30 rfl rfl ⟨by decide, by decide⟩ wM_190 rfl dM_check_Z2_261 ?_
          refine lv_icmp_lt (tgt := 271) hx hb dM_check_Z2_264 (by decide) (fun c94 => ?_) (fun c94 => ?_)
          · replace hf := x_ip c94 hf
            refine lv_iconst (v := 0) hx hb dM_check_Z2_271 (by decide) ?_
            exact wM_check_Z2_272 C N s90 a3 0 res hf H locs ls hw (lv_sub hl [0, 3] rfl)
          · replace hf := x_in c94 hf
            refine lv_iconst (v := 1) hx hb dM_check_Z2_267 (by decide) ?_
            refine lv_goto (tgt := 272) hx hb dM_check_Z2_268 (by decide) ?_
            exact wM_check_Z2_272 C N s90 a3 1 res hf H locs ls hw (lv_sub hl [0, 3] rfl)
        · replace hf := x_ip c93 hf
          refine lv_aload_n hx hb dM_check_Z2_234 rfl (lv_at hl 0 rfl) ?_
          refine y_get C hw 30 0 35 (v := .int (s90 30 0 35)) at_30 rfl rfl ⟨by decide, by decide⟩ wM_180 rfl dM_check_Z2_235 ?_
          refine lv_iconst (v := 1) hx hb dM_check_Z2_238 (by decide) ?_
          refine lv_icmp_ne (tgt := 252) hx hb dM_check_Z2_239 (by decide) (fun c95 => ?_) (fun c95 => ?_)
          · replace hf := x_in c95 hf
            exact wM_check_Z2_252 C N s90 a3 res hf H locs ls hw (lv_sub hl [0, 3] rfl)
          · replace hf := x_ip c95 hf
            refine lv_iload hx hb dM_check_Z2_242 (lv_at hl 4 rfl) ?_
            refine lv_iconst (v := 1) hx hb dM_check_Z2_244 (by decide) ?_
            refine lv_icmp_ne (tgt := 252) hx hb dM_check_Z2_245 (by decide) (fun c96 => ?_) (fun c96 => ?_)
            · replace hf := x_in c96 hf
              exact wM_check_Z2_252 C N s90 a3 res hf H locs ls hw (lv_sub hl [0, 3] rfl)
            · replace hf := x_ip c96 hf
              refine lv_iconst (v := 1) hx hb dM_check_Z2_248 (by decide) ?_
              refine lv_goto (tgt := 272) hx hb dM_check_Z2_249 (by decide) ?_
              exact wM_check_Z2_272 C N s90 a3 1 res hf H locs ls hw (lv_sub hl [0, 3] rfl)
      · replace hf := x_ip c92 hf
        refine lv_aload_n hx hb dM_check_Z2_207 rfl (lv_at hl 0 rfl) ?_
        refine y_get C hw 30 0 35 (v := .int (s90 30 0 35)) at_30 rfl rfl ⟨by decide, by decide⟩ wM_180 rfl dM_check_Z2_208 ?_
        refine lv_aload_n hx hb dM_check_Z2_211 rfl (lv_at hl 0 rfl) ?_
        refine y_get C hw 30 0 12 (v := .int (s90 30 0 12)) at_30 rfl rfl ⟨by decide, by decide⟩ wM_190 rfl dM_check_Z2_212 ?_
        refine lv_icmp_gt (tgt := 222) hx hb dM_check_Z2_215 (by decide) (fun c97 => ?_) (fun c97 => ?_)
        · replace hf := x_ip c97 hf
          refine lv_iconst (v := 0) hx hb dM_check_Z2_222 (by decide) ?_
          refine lv_goto (tgt := 272) hx hb dM_check_Z2_223 (by decide) ?_
          exact wM_check_Z2_272 C N s90 a3 0 res hf H locs ls hw (lv_sub hl [0, 3] rfl)
        · replace hf := x_in c97 hf
          refine lv_iconst (v := 1) hx hb dM_check_Z2_218 (by decide) ?_
          refine lv_goto (tgt := 272) hx hb dM_check_Z2_219 (by decide) ?_
          exact wM_check_Z2_272 C N s90 a3 1 res hf H locs ls hw (lv_sub hl [0, 3] rfl)
    · replace hf := x_ip c91 hf
      refine lv_aload_n hx hb dM_check_Z2_180 rfl (lv_at hl 0 rfl) ?_
      refine y_get C hw 30 0 35 (v := .int (s90 30 0 35)) at_30 rfl rfl ⟨by decide, by decide⟩ wM_180 rfl dM_check_Z2_181 ?_
      refine lv_aload_n hx hb dM_check_Z2_184 rfl (lv_at hl 0 rfl) ?_
      refine y_get C hw 30 0 12 (v := .int (s90 30 0 12)) at_30 rfl rfl ⟨by decide, by decide⟩ wM_190 rfl dM_check_Z2_185 ?_
      refine lv_icmp_ne (tgt := 195) hx hb dM_check_Z2_188 (by decide) (fun c98 => ?_) (fun c98 => ?_)
      · replace hf := x_in c98 hf
        refine lv_iconst (v := 0) hx hb dM_check_Z2_195 (by decide) ?_
        refine lv_goto (tgt := 272) hx hb dM_check_Z2_196 (by decide) ?_
        exact wM_check_Z2_272 C N s90 a3 0 res hf H locs ls hw (lv_sub hl [0, 3] rfl)
      · replace hf := x_ip c98 hf
        refine lv_iconst (v := 1) hx hb dM_check_Z2_191 (by decide) ?_
        refine lv_goto (tgt := 272) hx hb dM_check_Z2_192 (by decide) ?_
        exact wM_check_Z2_272 C N s90 a3 1 res hf H locs ls hw (lv_sub hl [0, 3] rfl)
  · replace hf := x_in c89 hf
    refine lv_aload_n hx hb dM_check_Z2_27 rfl (lv_at hl 0 rfl) ?_
    refine y_get C hw 30 0 14 (v := .ref (E.2.2.1 39 0)) at_30 rfl rfl ⟨by decide, by decide⟩ wM_35 rfl dM_check_Z2_28 ?_
    refine lv_iload hx hb dM_check_Z2_31 (lv_at hl 5 rfl) ?_
    obtain ⟨g99, hf⟩ := x_g hf
    refine y_ild C hw 39 0 at_39 rfl g99 dM_check_Z2_33 ?_
    refine lv_iload_n hx hb dM_check_Z2_34 rfl (lv_at hl 1 rfl) ?_
    refine lv_icmp_ne (tgt := 41) hx hb dM_check_Z2_35 (by decide) (fun c100 => ?_) (fun c100 => ?_)
    · replace hf := x_in c100 hf
      exact wM_check_Z2_41 C N τ rec18 hrec18 a1 a2 a3 a4 a5 res hf H locs ls hw (lv_sub hl [0, 1, 2, 3, 4, 5] rfl)
    · replace hf := x_ip c100 hf
      refine lv_iinc (v := a4 + 1) (lv' := [(4, .int (a4 + 1)), (0, .ref (E.2.2.1 30 0)), (1, .int a1), (2, .int a2), (3, .int a3), (5, .int a5)]) hx hb dM_check_Z2_38 hl (k := 4) rfl rfl (by decide) rfl (fun ls hl => ?_)
      exact wM_check_Z2_41 C N τ rec18 hrec18 a1 a2 a3 (a4 + 1) a5 res hf H locs ls hw (lv_sub hl [1, 2, 3, 4, 0, 5] rfl)
set_option maxHeartbeats 4000000 in
set_option maxRecDepth 100000 in
theorem wM_check_Z2_18 {p : Program} {l : Launch} {e : Env} {R : Room} {s : State} {m : MethodId} {args : Array Value} {below : List Frame} {meth : Method} {c : Code} {E : xE} {A : Nat → Prop} {σ : xS} (C : xC p s m args meth c R E A bM_check_Z2 8 yM_check_Z2 (some .boolean) 2 0 0) (N : Nat) (n : Nat) : ∀ (τ : yS) (a1 : Int32) (a2 : Int32) (a3 : Int32) (a4 : Int32) (a5 : Int32) (res : Int32 × yS), fM_check_Z2_18 N n τ a1 a2 a3 a4 a5 = some res → ∀ (H : Heap) (locs : List Loc) (ls : Array Slot), xW E A s σ τ H locs → lv_has ls 8 [(0, .ref (E.2.2.1 30 0)), (1, .int a1), (2, .int a2), (3, .int a3), (4, .int a4), (5, .int a5)] → W p l e R s m args below meth c H locs 0 0 (MQ below (xQ E A (some (.int res.1)) σ res.2) args s 0 0 A) (F0 m 18 ls []) := by
  induction n with
  | zero => intro τ a1 a2 a3 a4 a5 res hf; cases hf
  | succ n ih =>
    intro τ a1 a2 a3 a4 a5 res hf H locs ls hw hl
    exact wM_check_Z2_18b C N τ (fM_check_Z2_18 N n) ih a1 a2 a3 a4 a5 res hf H locs ls hw hl
set_option maxHeartbeats 4000000 in
set_option maxRecDepth 100000 in
theorem cM_check_Z2 (l : Launch) (E : xE) (N : Nat) (τ : yS) (σ : xS) (a1 : Int32) (a2 : Int32) (res : Int32 × yS) (hf : fM_check_Z2 N τ a1 a2 = some res) : xM l E yM_check_Z2 bM_check_Z2 8 (some .boolean) 2 0 0 [.ref (E.2.2.1 30 0), .int a1, .int a2] σ τ (some (.int res.1)) σ res.2 := by
  refine x_met (by decide) (Nat.le_of_ble_eq_true rfl) (fun p e R s m args below meth c A ls H locs C hw hl => ?_)
  have hl : lv_has ls 8 [(0, .ref (E.2.2.1 30 0)), (1, .int a1), (2, .int a2)] := hl
  have hx := C.1
  have hb := C.2.1
  unfold fM_check_Z2 at hf
  refine lv_aload_n hx hb dM_check_Z2_0 rfl (lv_at hl 0 rfl) ?_
  refine lv_iload_n hx hb dM_check_Z2_1 rfl (lv_at hl 1 rfl) ?_
  refine lv_iload_n hx hb dM_check_Z2_2 rfl (lv_at hl 2 rfl) ?_
  obtain ⟨r102, h101, hf⟩ := x_p hf
  refine x_callV (As := [.int a1, .int a2]) (rest := []) (st1 := [.int r102]) C hw (cM_shape l E τ σ a1 a2 r102 h101) kM_135 (x_recvY C hw 30 0 at_30 rfl rfl) (by decide) rfl rfl hl.1 (lv_room (Nat.le_of_ble_eq_true rfl)) dM_check_Z2_3 ⟨by decide, by decide⟩ rfl (fun H locs hw => ?_)
  refine lv_istore_n (lv' := [(3, .int r102), (0, .ref (E.2.2.1 30 0)), (1, .int a1), (2, .int a2)]) hx hb dM_check_Z2_6 rfl hl (by decide) rfl (fun ls hl => ?_)
  refine lv_iconst (v := 0) hx hb dM_check_Z2_7 (by decide) ?_
  refine lv_istore (lv' := [(4, .int 0), (3, .int r102), (0, .ref (E.2.2.1 30 0)), (1, .int a1), (2, .int a2)]) hx hb dM_check_Z2_8 hl (by decide) rfl (fun ls hl => ?_)
  refine lv_aload_n hx hb dM_check_Z2_10 rfl (lv_at hl 2 rfl) ?_
  refine lv_iconst (v := 0) hx hb dM_check_Z2_11 (by decide) ?_
  refine y_puti C hw 30 0 35 at_30 rfl rfl rfl ⟨rfl, rfl⟩ ⟨by decide, by decide⟩ (Nat.le_of_ble_eq_true rfl) wM_180 dM_check_Z2_12 (fun H locs hw => ?_)
  obtain ⟨s103, es103, hf⟩ := x_l hf
  rw [← es103] at hw
  refine lv_iconst (v := 0) hx hb dM_check_Z2_15 (by decide) ?_
  refine lv_istore (lv' := [(5, .int 0), (4, .int 0), (3, .int r102), (0, .ref (E.2.2.1 30 0)), (1, .int a1), (2, .int a2)]) hx hb dM_check_Z2_16 hl (by decide) rfl (fun ls hl => ?_)
  exact wM_check_Z2_18 C N N s103 a1 a2 r102 0 0 res hf H locs ls hw (lv_sub hl [3, 4, 5, 2, 1, 0] rfl)
-- StandInsModel note (IIII)V
set_option maxRecDepth 100000 in
theorem dM_note_0 : decode bM_note 0 = .ok (.aload_n 0, 1) := by decide +kernel
set_option maxRecDepth 100000 in
theorem dM_note_1 : decode bM_note 1 = .ok (.getfield 130, 3) := by decide +kernel
set_option maxRecDepth 100000 in
theorem dM_note_4 : decode bM_note 4 = .ok (.istore 5, 2) := by decide +kernel
set_option maxRecDepth 100000 in
theorem dM_note_6 : decode bM_note 6 = .ok (.aload_n 0, 1) := by decide +kernel
set_option maxRecDepth 100000 in
theorem dM_note_7 : decode bM_note 7 = .ok (.dup, 1) := by decide +kernel
set_option maxRecDepth 100000 in
theorem dM_note_8 : decode bM_note 8 = .ok (.getfield 130, 3) := by decide +kernel
set_option maxRecDepth 100000 in
theorem dM_note_11 : decode bM_note 11 = .ok (.iconst 1, 1) := by decide +kernel
set_option maxRecDepth 100000 in
theorem dM_note_12 : decode bM_note 12 = .ok (.iadd, 1) := by decide +kernel
set_option maxRecDepth 100000 in
theorem dM_note_13 : decode bM_note 13 = .ok (.putfield 130, 3) := by decide +kernel
set_option maxRecDepth 100000 in
theorem dM_note_16 : decode bM_note 16 = .ok (.aload_n 0, 1) := by decide +kernel
set_option maxRecDepth 100000 in
theorem dM_note_17 : decode bM_note 17 = .ok (.getfield 32, 3) := by decide +kernel
set_option maxRecDepth 100000 in
theorem dM_note_20 : decode bM_note 20 = .ok (.iload 5, 2) := by decide +kernel
set_option maxRecDepth 100000 in
theorem dM_note_22 : decode bM_note 22 = .ok (.aload_n 0, 1) := by decide +kernel
set_option maxRecDepth 100000 in
theorem dM_note_23 : decode bM_note 23 = .ok (.getfield 165, 3) := by decide +kernel
set_option maxRecDepth 100000 in
theorem dM_note_26 : decode bM_note 26 = .ok (.iastore, 1) := by decide +kernel
set_option maxRecDepth 100000 in
theorem dM_note_27 : decode bM_note 27 = .ok (.aload_n 0, 1) := by decide +kernel
set_option maxRecDepth 100000 in
theorem dM_note_28 : decode bM_note 28 = .ok (.dup, 1) := by decide +kernel
set_option maxRecDepth 100000 in
theorem dM_note_29 : decode bM_note 29 = .ok (.getfield 165, 3) := by decide +kernel
set_option maxRecDepth 100000 in
theorem dM_note_32 : decode bM_note 32 = .ok (.iconst 1, 1) := by decide +kernel
set_option maxRecDepth 100000 in
theorem dM_note_33 : decode bM_note 33 = .ok (.iadd, 1) := by decide +kernel
set_option maxRecDepth 100000 in
theorem dM_note_34 : decode bM_note 34 = .ok (.putfield 165, 3) := by decide +kernel
set_option maxRecDepth 100000 in
theorem dM_note_37 : decode bM_note 37 = .ok (.aload_n 0, 1) := by decide +kernel
set_option maxRecDepth 100000 in
theorem dM_note_38 : decode bM_note 38 = .ok (.getfield 35, 3) := by decide +kernel
set_option maxRecDepth 100000 in
theorem dM_note_41 : decode bM_note 41 = .ok (.iload 5, 2) := by decide +kernel
set_option maxRecDepth 100000 in
theorem dM_note_43 : decode bM_note 43 = .ok (.iload_n 1, 1) := by decide +kernel
set_option maxRecDepth 100000 in
theorem dM_note_44 : decode bM_note 44 = .ok (.iastore, 1) := by decide +kernel
set_option maxRecDepth 100000 in
theorem dM_note_45 : decode bM_note 45 = .ok (.aload_n 0, 1) := by decide +kernel
set_option maxRecDepth 100000 in
theorem dM_note_46 : decode bM_note 46 = .ok (.getfield 38, 3) := by decide +kernel
set_option maxRecDepth 100000 in
theorem dM_note_49 : decode bM_note 49 = .ok (.iload 5, 2) := by decide +kernel
set_option maxRecDepth 100000 in
theorem dM_note_51 : decode bM_note 51 = .ok (.iload_n 2, 1) := by decide +kernel
set_option maxRecDepth 100000 in
theorem dM_note_52 : decode bM_note 52 = .ok (.iastore, 1) := by decide +kernel
set_option maxRecDepth 100000 in
theorem dM_note_53 : decode bM_note 53 = .ok (.aload_n 0, 1) := by decide +kernel
set_option maxRecDepth 100000 in
theorem dM_note_54 : decode bM_note 54 = .ok (.getfield 41, 3) := by decide +kernel
set_option maxRecDepth 100000 in
theorem dM_note_57 : decode bM_note 57 = .ok (.iload 5, 2) := by decide +kernel
set_option maxRecDepth 100000 in
theorem dM_note_59 : decode bM_note 59 = .ok (.iload_n 3, 1) := by decide +kernel
set_option maxRecDepth 100000 in
theorem dM_note_60 : decode bM_note 60 = .ok (.iastore, 1) := by decide +kernel
set_option maxRecDepth 100000 in
theorem dM_note_61 : decode bM_note 61 = .ok (.aload_n 0, 1) := by decide +kernel
set_option maxRecDepth 100000 in
theorem dM_note_62 : decode bM_note 62 = .ok (.getfield 44, 3) := by decide +kernel
set_option maxRecDepth 100000 in
theorem dM_note_65 : decode bM_note 65 = .ok (.iload 5, 2) := by decide +kernel
set_option maxRecDepth 100000 in
theorem dM_note_67 : decode bM_note 67 = .ok (.iload 4, 2) := by decide +kernel
set_option maxRecDepth 100000 in
theorem dM_note_69 : decode bM_note 69 = .ok (.iastore, 1) := by decide +kernel
set_option maxRecDepth 100000 in
theorem dM_note_70 : decode bM_note 70 = .ok (.aload_n 0, 1) := by decide +kernel
set_option maxRecDepth 100000 in
theorem dM_note_71 : decode bM_note 71 = .ok (.getfield 50, 3) := by decide +kernel
set_option maxRecDepth 100000 in
theorem dM_note_74 : decode bM_note 74 = .ok (.iload 5, 2) := by decide +kernel
set_option maxRecDepth 100000 in
theorem dM_note_76 : decode bM_note 76 = .ok (.iconst 0, 1) := by decide +kernel
set_option maxRecDepth 100000 in
theorem dM_note_77 : decode bM_note 77 = .ok (.bastore, 1) := by decide +kernel
set_option maxRecDepth 100000 in
theorem dM_note_78 : decode bM_note 78 = .ok (.aload_n 0, 1) := by decide +kernel
set_option maxRecDepth 100000 in
theorem dM_note_79 : decode bM_note 79 = .ok (.getfield 47, 3) := by decide +kernel
set_option maxRecDepth 100000 in
theorem dM_note_82 : decode bM_note 82 = .ok (.iload 5, 2) := by decide +kernel
set_option maxRecDepth 100000 in
theorem dM_note_84 : decode bM_note 84 = .ok (.iconst (-1), 1) := by decide +kernel
set_option maxRecDepth 100000 in
theorem dM_note_85 : decode bM_note 85 = .ok (.iastore, 1) := by decide +kernel
set_option maxRecDepth 100000 in
theorem dM_note_86 : decode bM_note 86 = .ok (.aload_n 0, 1) := by decide +kernel
set_option maxRecDepth 100000 in
theorem dM_note_87 : decode bM_note 87 = .ok (.getfield 7, 3) := by decide +kernel
set_option maxRecDepth 100000 in
theorem dM_note_90 : decode bM_note 90 = .ok (.aload_n 0, 1) := by decide +kernel
set_option maxRecDepth 100000 in
theorem dM_note_91 : decode bM_note 91 = .ok (.iload_n 1, 1) := by decide +kernel
set_option maxRecDepth 100000 in
theorem dM_note_92 : decode bM_note 92 = .ok (.iload_n 2, 1) := by decide +kernel
set_option maxRecDepth 100000 in
theorem dM_note_93 : decode bM_note 93 = .ok (.invokevirtual 135, 3) := by decide +kernel
set_option maxRecDepth 100000 in
theorem dM_note_96 : decode bM_note 96 = .ok (.iaload, 1) := by decide +kernel
set_option maxRecDepth 100000 in
theorem dM_note_97 : decode bM_note 97 = .ok (.istore 6, 2) := by decide +kernel
set_option maxRecDepth 100000 in
theorem dM_note_99 : decode bM_note 99 = .ok (.aload_n 0, 1) := by decide +kernel
set_option maxRecDepth 100000 in
theorem dM_note_100 : decode bM_note 100 = .ok (.bipush 6, 2) := by decide +kernel
set_option maxRecDepth 100000 in
theorem dM_note_102 : decode bM_note 102 = .ok (.bipush 8, 2) := by decide +kernel
set_option maxRecDepth 100000 in
theorem dM_note_104 : decode bM_note 104 = .ok (.iconst 2, 1) := by decide +kernel
set_option maxRecDepth 100000 in
theorem dM_note_105 : decode bM_note 105 = .ok (.iload 5, 2) := by decide +kernel
set_option maxRecDepth 100000 in
theorem dM_note_107 : decode bM_note 107 = .ok (.imul, 1) := by decide +kernel
set_option maxRecDepth 100000 in
theorem dM_note_108 : decode bM_note 108 = .ok (.iadd, 1) := by decide +kernel
set_option maxRecDepth 100000 in
theorem dM_note_109 : decode bM_note 109 = .ok (.iload 6, 2) := by decide +kernel
set_option maxRecDepth 100000 in
theorem dM_note_111 : decode bM_note 111 = .ok (.invokevirtual 162, 3) := by decide +kernel
set_option maxRecDepth 100000 in
theorem dM_note_114 : decode bM_note 114 = .ok (.return_, 1) := by decide +kernel
def fM_note (N : Nat) (τ : yS) (a1 : Int32) (a2 : Int32) (a3 : Int32) (a4 : Int32) : Option (yS) :=
  xl (y_si τ 30 0 20 ((τ 30 0 20) + 1)) fun s1 =>
  if ¬ ((τ 30 0 20) < 0 ∨ 40 ≤ (τ 30 0 20).toNatClampNeg) then
  xl (y_si s1 38 0 ((τ 30 0 20).toNatClampNeg) (s1 30 0 21)) fun s3 =>
  xl (y_si s3 30 0 21 ((s3 30 0 21) + 1)) fun s4 =>
  xl (y_si s4 39 0 ((τ 30 0 20).toNatClampNeg) a1) fun s5 =>
  xl (y_si s5 40 0 ((τ 30 0 20).toNatClampNeg) a2) fun s6 =>
  xl (y_si s6 41 0 ((τ 30 0 20).toNatClampNeg) a3) fun s7 =>
  xl (y_si s7 42 0 ((τ 30 0 20).toNatClampNeg) a4) fun s8 =>
  xl (y_si s8 44 0 ((τ 30 0 20).toNatClampNeg) 0) fun s9 =>
  xl (y_si s9 43 0 ((τ 30 0 20).toNatClampNeg) (-1)) fun s10 =>
  xp (fM_shape s10 a1 a2) fun r12 =>
  if ¬ (r12 < 0 ∨ 12 ≤ r12.toNatClampNeg) then
  xp (fM_keep N s10 6 (8 + (2 * (τ 30 0 20))) (s10 31 0 r12.toNatClampNeg)) fun s15 =>
  some s15
  else none
  else none
set_option maxHeartbeats 4000000 in
set_option maxRecDepth 100000 in
theorem cM_note (l : Launch) (E : xE) (N : Nat) (τ : yS) (σ : xS) (a1 : Int32) (a2 : Int32) (a3 : Int32) (a4 : Int32) (res : yS) (hf : fM_note N τ a1 a2 a3 a4 = some res) : xM l E yM_note bM_note 7 none 2 0 0 [.ref (E.2.2.1 30 0), .int a1, .int a2, .int a3, .int a4] σ τ none σ res := by
  refine x_met (by decide) (Nat.le_of_ble_eq_true rfl) (fun p e R s m args below meth c A ls H locs C hw hl => ?_)
  have hl : lv_has ls 7 [(0, .ref (E.2.2.1 30 0)), (1, .int a1), (2, .int a2), (3, .int a3), (4, .int a4)] := hl
  have hx := C.1
  have hb := C.2.1
  unfold fM_note at hf
  refine lv_aload_n hx hb dM_note_0 rfl (lv_at hl 0 rfl) ?_
  refine y_get C hw 30 0 20 (v := .int (τ 30 0 20)) at_30 rfl rfl ⟨by decide, by decide⟩ wM_130 rfl dM_note_1 ?_
  refine lv_istore (lv' := [(5, .int (τ 30 0 20)), (0, .ref (E.2.2.1 30 0)), (1, .int a1), (2, .int a2), (3, .int a3), (4, .int a4)]) hx hb dM_note_4 hl (by decide) rfl (fun ls hl => ?_)
  refine lv_aload_n hx hb dM_note_6 rfl (lv_at hl 1 rfl) ?_
  refine lv_dup hx hb dM_note_7 rfl ?_
  refine y_get C hw 30 0 20 (v := .int (τ 30 0 20)) at_30 rfl rfl ⟨by decide, by decide⟩ wM_130 rfl dM_note_8 ?_
  refine lv_iconst (v := 1) hx hb dM_note_11 (by decide) ?_
  refine lv_iadd hx hb dM_note_12 ?_
  refine y_puti C hw 30 0 20 at_30 rfl rfl rfl ⟨rfl, rfl⟩ ⟨by decide, by decide⟩ (Nat.le_of_ble_eq_true rfl) wM_130 dM_note_13 (fun H locs hw => ?_)
  obtain ⟨s1, es1, hf⟩ := x_l hf
  rw [← es1] at hw
  refine lv_aload_n hx hb dM_note_16 rfl (lv_at hl 1 rfl) ?_
  refine y_get C hw 30 0 13 (v := .ref (E.2.2.1 38 0)) at_30 rfl rfl ⟨by decide, by decide⟩ wM_32 rfl dM_note_17 ?_
  refine lv_iload hx hb dM_note_20 (lv_at hl 0 rfl) ?_
  refine lv_aload_n hx hb dM_note_22 rfl (lv_at hl 1 rfl) ?_
  refine y_get C hw 30 0 21 (v := .int (s1 30 0 21)) at_30 rfl rfl ⟨by decide, by decide⟩ wM_165 rfl dM_note_23 ?_
  obtain ⟨g2, hf⟩ := x_g hf
  refine y_ist C hw 38 0 at_38 rfl rfl g2 dM_note_26 (fun H locs hw => ?_)
  obtain ⟨s3, es3, hf⟩ := x_l hf
  rw [← es3] at hw
  refine lv_aload_n hx hb dM_note_27 rfl (lv_at hl 1 rfl) ?_
  refine lv_dup hx hb dM_note_28 rfl ?_
  refine y_get C hw 30 0 21 (v := .int (s3 30 0 21)) at_30 rfl rfl ⟨by decide, by decide⟩ wM_165 rfl dM_note_29 ?_
  refine lv_iconst (v := 1) hx hb dM_note_32 (by decide) ?_
  refine lv_iadd hx hb dM_note_33 ?_
  refine y_puti C hw 30 0 21 at_30 rfl rfl rfl ⟨rfl, rfl⟩ ⟨by decide, by decide⟩ (Nat.le_of_ble_eq_true rfl) wM_165 dM_note_34 (fun H locs hw => ?_)
  obtain ⟨s4, es4, hf⟩ := x_l hf
  rw [← es4] at hw
  refine lv_aload_n hx hb dM_note_37 rfl (lv_at hl 1 rfl) ?_
  refine y_get C hw 30 0 14 (v := .ref (E.2.2.1 39 0)) at_30 rfl rfl ⟨by decide, by decide⟩ wM_35 rfl dM_note_38 ?_
  refine lv_iload hx hb dM_note_41 (lv_at hl 0 rfl) ?_
  refine lv_iload_n hx hb dM_note_43 rfl (lv_at hl 2 rfl) ?_
  refine y_ist C hw 39 0 at_39 rfl rfl g2 dM_note_44 (fun H locs hw => ?_)
  obtain ⟨s5, es5, hf⟩ := x_l hf
  rw [← es5] at hw
  refine lv_aload_n hx hb dM_note_45 rfl (lv_at hl 1 rfl) ?_
  refine y_get C hw 30 0 15 (v := .ref (E.2.2.1 40 0)) at_30 rfl rfl ⟨by decide, by decide⟩ wM_38 rfl dM_note_46 ?_
  refine lv_iload hx hb dM_note_49 (lv_at hl 0 rfl) ?_
  refine lv_iload_n hx hb dM_note_51 rfl (lv_at hl 3 rfl) ?_
  refine y_ist C hw 40 0 at_40 rfl rfl g2 dM_note_52 (fun H locs hw => ?_)
  obtain ⟨s6, es6, hf⟩ := x_l hf
  rw [← es6] at hw
  refine lv_aload_n hx hb dM_note_53 rfl (lv_at hl 1 rfl) ?_
  refine y_get C hw 30 0 16 (v := .ref (E.2.2.1 41 0)) at_30 rfl rfl ⟨by decide, by decide⟩ wM_41 rfl dM_note_54 ?_
  refine lv_iload hx hb dM_note_57 (lv_at hl 0 rfl) ?_
  refine lv_iload_n hx hb dM_note_59 rfl (lv_at hl 4 rfl) ?_
  refine y_ist C hw 41 0 at_41 rfl rfl g2 dM_note_60 (fun H locs hw => ?_)
  obtain ⟨s7, es7, hf⟩ := x_l hf
  rw [← es7] at hw
  refine lv_aload_n hx hb dM_note_61 rfl (lv_at hl 1 rfl) ?_
  refine y_get C hw 30 0 17 (v := .ref (E.2.2.1 42 0)) at_30 rfl rfl ⟨by decide, by decide⟩ wM_44 rfl dM_note_62 ?_
  refine lv_iload hx hb dM_note_65 (lv_at hl 0 rfl) ?_
  refine lv_iload hx hb dM_note_67 (lv_at hl 5 rfl) ?_
  refine y_ist C hw 42 0 at_42 rfl rfl g2 dM_note_69 (fun H locs hw => ?_)
  obtain ⟨s8, es8, hf⟩ := x_l hf
  rw [← es8] at hw
  refine lv_aload_n hx hb dM_note_70 rfl (lv_at hl 1 rfl) ?_
  refine y_get C hw 30 0 19 (v := .ref (E.2.2.1 44 0)) at_30 rfl rfl ⟨by decide, by decide⟩ wM_50 rfl dM_note_71 ?_
  refine lv_iload hx hb dM_note_74 (lv_at hl 0 rfl) ?_
  refine lv_iconst (v := 0) hx hb dM_note_76 (by decide) ?_
  refine y_zst C hw 44 0 at_44 (by decide) rfl rfl g2 dM_note_77 (fun H locs hw => ?_)
  obtain ⟨s9, es9, hf⟩ := x_l hf
  rw [← es9] at hw
  refine lv_aload_n hx hb dM_note_78 rfl (lv_at hl 1 rfl) ?_
  refine y_get C hw 30 0 18 (v := .ref (E.2.2.1 43 0)) at_30 rfl rfl ⟨by decide, by decide⟩ wM_47 rfl dM_note_79 ?_
  refine lv_iload hx hb dM_note_82 (lv_at hl 0 rfl) ?_
  refine lv_iconst (v := (-1)) hx hb dM_note_84 (by decide) ?_
  refine y_ist C hw 43 0 at_43 rfl rfl g2 dM_note_85 (fun H locs hw => ?_)
  obtain ⟨s10, es10, hf⟩ := x_l hf
  rw [← es10] at hw
  refine lv_aload_n hx hb dM_note_86 rfl (lv_at hl 1 rfl) ?_
  refine y_get C hw 30 0 0 (v := .ref (E.2.2.1 31 0)) at_30 rfl rfl ⟨by decide, by decide⟩ wM_7 rfl dM_note_87 ?_
  refine lv_aload_n hx hb dM_note_90 rfl (lv_at hl 1 rfl) ?_
  refine lv_iload_n hx hb dM_note_91 rfl (lv_at hl 2 rfl) ?_
  refine lv_iload_n hx hb dM_note_92 rfl (lv_at hl 3 rfl) ?_
  obtain ⟨r12, h11, hf⟩ := x_p hf
  refine x_callV (As := [.int a1, .int a2]) (rest := [.ref (E.2.2.1 31 0)]) (st1 := [.int r12, .ref (E.2.2.1 31 0)]) C hw (cM_shape l E s10 σ a1 a2 r12 h11) kM_135 (x_recvY C hw 30 0 at_30 rfl rfl) (by decide) rfl rfl hl.1 (lv_room (Nat.le_of_ble_eq_true rfl)) dM_note_93 ⟨by decide, by decide⟩ rfl (fun H locs hw => ?_)
  obtain ⟨g13, hf⟩ := x_g hf
  refine y_ild C hw 31 0 at_31 rfl g13 dM_note_96 ?_
  refine lv_istore (lv' := [(6, .int (s10 31 0 r12.toNatClampNeg)), (5, .int (τ 30 0 20)), (0, .ref (E.2.2.1 30 0)), (1, .int a1), (2, .int a2), (3, .int a3), (4, .int a4)]) hx hb dM_note_97 hl (by decide) rfl (fun ls hl => ?_)
  refine lv_aload_n hx hb dM_note_99 rfl (lv_at hl 2 rfl) ?_
  refine lv_bipush (v := 6) hx hb dM_note_100 (by decide) ?_
  refine lv_bipush (v := 8) hx hb dM_note_102 (by decide) ?_
  refine lv_iconst (v := 2) hx hb dM_note_104 (by decide) ?_
  refine lv_iload hx hb dM_note_105 (lv_at hl 1 rfl) ?_
  refine lv_imul hx hb dM_note_107 ?_
  refine lv_iadd hx hb dM_note_108 ?_
  refine lv_iload hx hb dM_note_109 (lv_at hl 0 rfl) ?_
  obtain ⟨s15, h14, hf⟩ := x_p hf
  refine x_callV (As := [.int 6, .int (8 + (2 * (τ 30 0 20))), .int (s10 31 0 r12.toNatClampNeg)]) (rest := []) (st1 := []) C hw (cM_keep l E N s10 σ 6 (8 + (2 * (τ 30 0 20))) (s10 31 0 r12.toNatClampNeg) s15 h14) kM_162 (x_recvY C hw 30 0 at_30 rfl rfl) (by decide) rfl rfl hl.1 (lv_room (Nat.le_of_ble_eq_true rfl)) dM_note_111 ⟨by decide, by decide⟩ rfl (fun H locs hw => ?_)
  obtain rfl := Option.some.inj hf
  exact x_vret C hw dM_note_114
