/-! THE CLAIM OUT OF ONE WALK OF THE LAW'S BODY. Your part is whole_start (and what it stands on); all else here is the same for every law, but numbers. -/
def R_law : String := "StandInsLaw"
def lw_P (b : Addr) (xs : List Int32) (args : Array Value) (s : State) : Prop := args = #[.ref b] ∧ s.IntsAt b xs ∧ xs.length ≤ 2560 ∧ (Jvm.Cond.and given_1 narrow_1).before args s = true
def lw_Q (_ : Array Value) (s : State) (o : Outcome) (t : State) : Prop := o = .returned (some (.int 1)) ∧ Framed s o t [] 607491 7279775
def lw_Z (below : List Frame) (a : Array Value) (s : State) : State → Prop := fun t => ∃ o, t.status = .running ∧ Ended t below o ∧ lw_Q a s o t
/-- the law's own end, with 1 on the stack, nothing written that was there before, its room as the claim has it -/
theorem lw_ret {p : Program} {l : Launch} {e : Env} {s : State} {m : MethodId} {below : List Frame} {meth : Method} {c : Code} {b : Nat} (hx : p.tables.exec = Jvm.exec) (hb : c.code = code) (hr : meth.sig.returnType = ret) (hlocks : meth.locks = false) {pc : Nat} {H : Heap} {ls : Array Slot} (hdg : decode code pc = .ok (.ireturn, 1)) : W p l e room_1 s m #[Value.ref b] below meth c H [] 607491 7279775 (lw_Z below #[Value.ref b] s) (F0 m pc ls [.int 1]) := by
  intro T hT X
  obtain ⟨fs, hret, hrun, hended, hW, hframe⟩ := X.leave (v := some (.int 1)) (hlocks := hlocks) (fun h => by rw [hr] at h; cases h)
  have hmeth' : T.vm.method? m = some meth := X.method'
  refine ⟨T.setFrames fs, ?_, .returned (some (.int 1)), hrun, hended, rfl, ⟨_, rfl⟩, hW, hframe⟩
  jvm_step X.here [X.here.top, hx, hb, hdg, hmeth', hr, ret, narrow_b1]
  (try refine ⟨rfl, ?_⟩); (try refine ⟨rfl, ?_⟩)
  first | (intro acts; rw [hret _ acts rfl rfl rfl]) | rw [hret _ _ rfl rfl rfl]
  exact Steps.refl _
/-- what holds at the law's entry: the machine, the code, the tables' words (any of lw_tbl by 'hts w (by decide +kernel)'), the script of L ints xs at the cell b, what the Statement gives of the start (any of its parts by flat_of_before) -/
def lw_At (p : Program) (s : State) (m : MethodId) (meth : Method) (c : Code) (b L : Nat) (xs : Nat → Int32) : Prop :=
  p.tables.exec = Jvm.exec ∧ c.code = code ∧ meth.sig.returnType = ret ∧ c.maxLocals = 4 ∧ s.vm.findClass R_law = some m.cls ∧ (∀ w ∈ lw_tbl, w.before #[Value.ref b] s = true) ∧ va_X b L xs s s.heap ∧ b < s.heap.size ∧ meth.locks = false ∧ (Jvm.Cond.and given_1 narrow_1).before #[Value.ref b] s = true
set_option maxRecDepth 100000 in
theorem dL_0 : decode code 0 = .ok (.new 7, 3) := by decide +kernel
set_option maxRecDepth 100000 in
theorem dL_3 : decode code 3 = .ok (.dup, 1) := by decide +kernel
set_option maxRecDepth 100000 in
theorem dL_4 : decode code 4 = .ok (.invokespecial 9, 3) := by decide +kernel
set_option maxRecDepth 100000 in
theorem dL_7 : decode code 7 = .ok (.astore_n 1, 1) := by decide +kernel
set_option maxRecDepth 100000 in
theorem dL_8 : decode code 8 = .ok (.new 10, 3) := by decide +kernel
set_option maxRecDepth 100000 in
theorem dL_11 : decode code 11 = .ok (.dup, 1) := by decide +kernel
set_option maxRecDepth 100000 in
theorem dL_12 : decode code 12 = .ok (.invokespecial 12, 3) := by decide +kernel
set_option maxRecDepth 100000 in
theorem dL_15 : decode code 15 = .ok (.astore_n 2, 1) := by decide +kernel
set_option maxRecDepth 100000 in
theorem dL_16 : decode code 16 = .ok (.iconst 0, 1) := by decide +kernel
set_option maxRecDepth 100000 in
theorem dL_17 : decode code 17 = .ok (.istore_n 3, 1) := by decide +kernel
set_option maxRecDepth 100000 in
theorem dL_18 : decode code 18 = .ok (.iload_n 3, 1) := by decide +kernel
set_option maxRecDepth 100000 in
theorem dL_19 : decode code 19 = .ok (.aload_n 0, 1) := by decide +kernel
set_option maxRecDepth 100000 in
theorem dL_20 : decode code 20 = .ok (.arraylength, 1) := by decide +kernel
set_option maxRecDepth 100000 in
theorem dL_21 : decode code 21 = .ok (.iconst 5, 1) := by decide +kernel
set_option maxRecDepth 100000 in
theorem dL_22 : decode code 22 = .ok (.isub, 1) := by decide +kernel
set_option maxRecDepth 100000 in
theorem dL_23 : decode code 23 = .ok (.if_icmp .gt 563, 3) := by decide +kernel
set_option maxRecDepth 100000 in
theorem dL_26 : decode code 26 = .ok (.aload_n 0, 1) := by decide +kernel
set_option maxRecDepth 100000 in
theorem dL_27 : decode code 27 = .ok (.iload_n 3, 1) := by decide +kernel
set_option maxRecDepth 100000 in
theorem dL_28 : decode code 28 = .ok (.iaload, 1) := by decide +kernel
set_option maxRecDepth 100000 in
theorem dL_29 : decode code 29 = .ok (.bipush 15, 2) := by decide +kernel
set_option maxRecDepth 100000 in
theorem dL_31 : decode code 31 = .ok (.iand, 1) := by decide +kernel
set_option maxRecDepth 100000 in
theorem dL_32 : decode code 32 = .ok (.tableswitch 548 0 14 #[76, 145, 178, 211, 265, 278, 311, 334, 377, 400, 413, 446, 479, 502, 525], 76) := by decide +kernel
set_option maxRecDepth 100000 in
theorem dL_108 : decode code 108 = .ok (.aload_n 1, 1) := by decide +kernel
set_option maxRecDepth 100000 in
theorem dL_109 : decode code 109 = .ok (.aload_n 0, 1) := by decide +kernel
set_option maxRecDepth 100000 in
theorem dL_110 : decode code 110 = .ok (.iload_n 3, 1) := by decide +kernel
set_option maxRecDepth 100000 in
theorem dL_111 : decode code 111 = .ok (.iconst 1, 1) := by decide +kernel
set_option maxRecDepth 100000 in
theorem dL_112 : decode code 112 = .ok (.iadd, 1) := by decide +kernel
set_option maxRecDepth 100000 in
theorem dL_113 : decode code 113 = .ok (.iaload, 1) := by decide +kernel
set_option maxRecDepth 100000 in
theorem dL_114 : decode code 114 = .ok (.aload_n 0, 1) := by decide +kernel
set_option maxRecDepth 100000 in
theorem dL_115 : decode code 115 = .ok (.iload_n 3, 1) := by decide +kernel
set_option maxRecDepth 100000 in
theorem dL_116 : decode code 116 = .ok (.iconst 2, 1) := by decide +kernel
set_option maxRecDepth 100000 in
theorem dL_117 : decode code 117 = .ok (.iadd, 1) := by decide +kernel
set_option maxRecDepth 100000 in
theorem dL_118 : decode code 118 = .ok (.iaload, 1) := by decide +kernel
set_option maxRecDepth 100000 in
theorem dL_119 : decode code 119 = .ok (.aload_n 0, 1) := by decide +kernel
set_option maxRecDepth 100000 in
theorem dL_120 : decode code 120 = .ok (.iload_n 3, 1) := by decide +kernel
set_option maxRecDepth 100000 in
theorem dL_121 : decode code 121 = .ok (.iconst 3, 1) := by decide +kernel
set_option maxRecDepth 100000 in
theorem dL_122 : decode code 122 = .ok (.iadd, 1) := by decide +kernel
set_option maxRecDepth 100000 in
theorem dL_123 : decode code 123 = .ok (.iaload, 1) := by decide +kernel
set_option maxRecDepth 100000 in
theorem dL_124 : decode code 124 = .ok (.aload_n 0, 1) := by decide +kernel
set_option maxRecDepth 100000 in
theorem dL_125 : decode code 125 = .ok (.iload_n 3, 1) := by decide +kernel
set_option maxRecDepth 100000 in
theorem dL_126 : decode code 126 = .ok (.iconst 4, 1) := by decide +kernel
set_option maxRecDepth 100000 in
theorem dL_127 : decode code 127 = .ok (.iadd, 1) := by decide +kernel
set_option maxRecDepth 100000 in
theorem dL_128 : decode code 128 = .ok (.iaload, 1) := by decide +kernel
set_option maxRecDepth 100000 in
theorem dL_129 : decode code 129 = .ok (.ifCond .eq 7, 3) := by decide +kernel
set_option maxRecDepth 100000 in
theorem dL_132 : decode code 132 = .ok (.iconst 1, 1) := by decide +kernel
set_option maxRecDepth 100000 in
theorem dL_133 : decode code 133 = .ok (.goto 4, 3) := by decide +kernel
set_option maxRecDepth 100000 in
theorem dL_136 : decode code 136 = .ok (.iconst 0, 1) := by decide +kernel
set_option maxRecDepth 100000 in
theorem dL_137 : decode code 137 = .ok (.invokevirtual 13, 3) := by decide +kernel
set_option maxRecDepth 100000 in
theorem dL_140 : decode code 140 = .ok (.aload_n 2, 1) := by decide +kernel
set_option maxRecDepth 100000 in
theorem dL_141 : decode code 141 = .ok (.aload_n 0, 1) := by decide +kernel
set_option maxRecDepth 100000 in
theorem dL_142 : decode code 142 = .ok (.iload_n 3, 1) := by decide +kernel
set_option maxRecDepth 100000 in
theorem dL_143 : decode code 143 = .ok (.iconst 1, 1) := by decide +kernel
set_option maxRecDepth 100000 in
theorem dL_144 : decode code 144 = .ok (.iadd, 1) := by decide +kernel
set_option maxRecDepth 100000 in
theorem dL_145 : decode code 145 = .ok (.iaload, 1) := by decide +kernel
set_option maxRecDepth 100000 in
theorem dL_146 : decode code 146 = .ok (.aload_n 0, 1) := by decide +kernel
set_option maxRecDepth 100000 in
theorem dL_147 : decode code 147 = .ok (.iload_n 3, 1) := by decide +kernel
set_option maxRecDepth 100000 in
theorem dL_148 : decode code 148 = .ok (.iconst 2, 1) := by decide +kernel
set_option maxRecDepth 100000 in
theorem dL_149 : decode code 149 = .ok (.iadd, 1) := by decide +kernel
set_option maxRecDepth 100000 in
theorem dL_150 : decode code 150 = .ok (.iaload, 1) := by decide +kernel
set_option maxRecDepth 100000 in
theorem dL_151 : decode code 151 = .ok (.aload_n 0, 1) := by decide +kernel
set_option maxRecDepth 100000 in
theorem dL_152 : decode code 152 = .ok (.iload_n 3, 1) := by decide +kernel
set_option maxRecDepth 100000 in
theorem dL_153 : decode code 153 = .ok (.iconst 3, 1) := by decide +kernel
set_option maxRecDepth 100000 in
theorem dL_154 : decode code 154 = .ok (.iadd, 1) := by decide +kernel
set_option maxRecDepth 100000 in
theorem dL_155 : decode code 155 = .ok (.iaload, 1) := by decide +kernel
set_option maxRecDepth 100000 in
theorem dL_156 : decode code 156 = .ok (.aload_n 0, 1) := by decide +kernel
set_option maxRecDepth 100000 in
theorem dL_157 : decode code 157 = .ok (.iload_n 3, 1) := by decide +kernel
set_option maxRecDepth 100000 in
theorem dL_158 : decode code 158 = .ok (.iconst 4, 1) := by decide +kernel
set_option maxRecDepth 100000 in
theorem dL_159 : decode code 159 = .ok (.iadd, 1) := by decide +kernel
set_option maxRecDepth 100000 in
theorem dL_160 : decode code 160 = .ok (.iaload, 1) := by decide +kernel
set_option maxRecDepth 100000 in
theorem dL_161 : decode code 161 = .ok (.ifCond .eq 7, 3) := by decide +kernel
set_option maxRecDepth 100000 in
theorem dL_164 : decode code 164 = .ok (.iconst 1, 1) := by decide +kernel
set_option maxRecDepth 100000 in
theorem dL_165 : decode code 165 = .ok (.goto 4, 3) := by decide +kernel
set_option maxRecDepth 100000 in
theorem dL_168 : decode code 168 = .ok (.iconst 0, 1) := by decide +kernel
set_option maxRecDepth 100000 in
theorem dL_169 : decode code 169 = .ok (.invokevirtual 17, 3) := by decide +kernel
set_option maxRecDepth 100000 in
theorem dL_172 : decode code 172 = .ok (.if_icmp .eq 408, 3) := by decide +kernel
set_option maxRecDepth 100000 in
theorem dL_175 : decode code 175 = .ok (.iconst 0, 1) := by decide +kernel
set_option maxRecDepth 100000 in
theorem dL_176 : decode code 176 = .ok (.ireturn, 1) := by decide +kernel
set_option maxRecDepth 100000 in
theorem dL_177 : decode code 177 = .ok (.aload_n 1, 1) := by decide +kernel
set_option maxRecDepth 100000 in
theorem dL_178 : decode code 178 = .ok (.aload_n 0, 1) := by decide +kernel
set_option maxRecDepth 100000 in
theorem dL_179 : decode code 179 = .ok (.iload_n 3, 1) := by decide +kernel
set_option maxRecDepth 100000 in
theorem dL_180 : decode code 180 = .ok (.iconst 1, 1) := by decide +kernel
set_option maxRecDepth 100000 in
theorem dL_181 : decode code 181 = .ok (.iadd, 1) := by decide +kernel
set_option maxRecDepth 100000 in
theorem dL_182 : decode code 182 = .ok (.iaload, 1) := by decide +kernel
set_option maxRecDepth 100000 in
theorem dL_183 : decode code 183 = .ok (.aload_n 0, 1) := by decide +kernel
set_option maxRecDepth 100000 in
theorem dL_184 : decode code 184 = .ok (.iload_n 3, 1) := by decide +kernel
set_option maxRecDepth 100000 in
theorem dL_185 : decode code 185 = .ok (.iconst 2, 1) := by decide +kernel
set_option maxRecDepth 100000 in
theorem dL_186 : decode code 186 = .ok (.iadd, 1) := by decide +kernel
set_option maxRecDepth 100000 in
theorem dL_187 : decode code 187 = .ok (.iaload, 1) := by decide +kernel
set_option maxRecDepth 100000 in
theorem dL_188 : decode code 188 = .ok (.invokevirtual 18, 3) := by decide +kernel
set_option maxRecDepth 100000 in
theorem dL_191 : decode code 191 = .ok (.aload_n 2, 1) := by decide +kernel
set_option maxRecDepth 100000 in
theorem dL_192 : decode code 192 = .ok (.aload_n 0, 1) := by decide +kernel
set_option maxRecDepth 100000 in
theorem dL_193 : decode code 193 = .ok (.iload_n 3, 1) := by decide +kernel
set_option maxRecDepth 100000 in
theorem dL_194 : decode code 194 = .ok (.iconst 1, 1) := by decide +kernel
set_option maxRecDepth 100000 in
theorem dL_195 : decode code 195 = .ok (.iadd, 1) := by decide +kernel
set_option maxRecDepth 100000 in
theorem dL_196 : decode code 196 = .ok (.iaload, 1) := by decide +kernel
set_option maxRecDepth 100000 in
theorem dL_197 : decode code 197 = .ok (.aload_n 0, 1) := by decide +kernel
set_option maxRecDepth 100000 in
theorem dL_198 : decode code 198 = .ok (.iload_n 3, 1) := by decide +kernel
set_option maxRecDepth 100000 in
theorem dL_199 : decode code 199 = .ok (.iconst 2, 1) := by decide +kernel
set_option maxRecDepth 100000 in
theorem dL_200 : decode code 200 = .ok (.iadd, 1) := by decide +kernel
set_option maxRecDepth 100000 in
theorem dL_201 : decode code 201 = .ok (.iaload, 1) := by decide +kernel
set_option maxRecDepth 100000 in
theorem dL_202 : decode code 202 = .ok (.invokevirtual 22, 3) := by decide +kernel
set_option maxRecDepth 100000 in
theorem dL_205 : decode code 205 = .ok (.if_icmp .eq 375, 3) := by decide +kernel
set_option maxRecDepth 100000 in
theorem dL_208 : decode code 208 = .ok (.iconst 0, 1) := by decide +kernel
set_option maxRecDepth 100000 in
theorem dL_209 : decode code 209 = .ok (.ireturn, 1) := by decide +kernel
set_option maxRecDepth 100000 in
theorem dL_210 : decode code 210 = .ok (.aload_n 1, 1) := by decide +kernel
set_option maxRecDepth 100000 in
theorem dL_211 : decode code 211 = .ok (.aload_n 0, 1) := by decide +kernel
set_option maxRecDepth 100000 in
theorem dL_212 : decode code 212 = .ok (.iload_n 3, 1) := by decide +kernel
set_option maxRecDepth 100000 in
theorem dL_213 : decode code 213 = .ok (.iconst 1, 1) := by decide +kernel
set_option maxRecDepth 100000 in
theorem dL_214 : decode code 214 = .ok (.iadd, 1) := by decide +kernel
set_option maxRecDepth 100000 in
theorem dL_215 : decode code 215 = .ok (.iaload, 1) := by decide +kernel
set_option maxRecDepth 100000 in
theorem dL_216 : decode code 216 = .ok (.aload_n 0, 1) := by decide +kernel
set_option maxRecDepth 100000 in
theorem dL_217 : decode code 217 = .ok (.iload_n 3, 1) := by decide +kernel
set_option maxRecDepth 100000 in
theorem dL_218 : decode code 218 = .ok (.iconst 2, 1) := by decide +kernel
set_option maxRecDepth 100000 in
theorem dL_219 : decode code 219 = .ok (.iadd, 1) := by decide +kernel
set_option maxRecDepth 100000 in
theorem dL_220 : decode code 220 = .ok (.iaload, 1) := by decide +kernel
set_option maxRecDepth 100000 in
theorem dL_221 : decode code 221 = .ok (.invokevirtual 23, 3) := by decide +kernel
set_option maxRecDepth 100000 in
theorem dL_224 : decode code 224 = .ok (.aload_n 2, 1) := by decide +kernel
set_option maxRecDepth 100000 in
theorem dL_225 : decode code 225 = .ok (.aload_n 0, 1) := by decide +kernel
set_option maxRecDepth 100000 in
theorem dL_226 : decode code 226 = .ok (.iload_n 3, 1) := by decide +kernel
set_option maxRecDepth 100000 in
theorem dL_227 : decode code 227 = .ok (.iconst 1, 1) := by decide +kernel
set_option maxRecDepth 100000 in
theorem dL_228 : decode code 228 = .ok (.iadd, 1) := by decide +kernel
set_option maxRecDepth 100000 in
theorem dL_229 : decode code 229 = .ok (.iaload, 1) := by decide +kernel
set_option maxRecDepth 100000 in
theorem dL_230 : decode code 230 = .ok (.aload_n 0, 1) := by decide +kernel
set_option maxRecDepth 100000 in
theorem dL_231 : decode code 231 = .ok (.iload_n 3, 1) := by decide +kernel
set_option maxRecDepth 100000 in
theorem dL_232 : decode code 232 = .ok (.iconst 2, 1) := by decide +kernel
set_option maxRecDepth 100000 in
theorem dL_233 : decode code 233 = .ok (.iadd, 1) := by decide +kernel
set_option maxRecDepth 100000 in
theorem dL_234 : decode code 234 = .ok (.iaload, 1) := by decide +kernel
set_option maxRecDepth 100000 in
theorem dL_235 : decode code 235 = .ok (.invokevirtual 26, 3) := by decide +kernel
set_option maxRecDepth 100000 in
theorem dL_238 : decode code 238 = .ok (.if_icmp .eq 342, 3) := by decide +kernel
set_option maxRecDepth 100000 in
theorem dL_241 : decode code 241 = .ok (.iconst 0, 1) := by decide +kernel
set_option maxRecDepth 100000 in
theorem dL_242 : decode code 242 = .ok (.ireturn, 1) := by decide +kernel
set_option maxRecDepth 100000 in
theorem dL_243 : decode code 243 = .ok (.aload_n 1, 1) := by decide +kernel
set_option maxRecDepth 100000 in
theorem dL_244 : decode code 244 = .ok (.aload_n 0, 1) := by decide +kernel
set_option maxRecDepth 100000 in
theorem dL_245 : decode code 245 = .ok (.iload_n 3, 1) := by decide +kernel
set_option maxRecDepth 100000 in
theorem dL_246 : decode code 246 = .ok (.iconst 1, 1) := by decide +kernel
set_option maxRecDepth 100000 in
theorem dL_247 : decode code 247 = .ok (.iadd, 1) := by decide +kernel
set_option maxRecDepth 100000 in
theorem dL_248 : decode code 248 = .ok (.iaload, 1) := by decide +kernel
set_option maxRecDepth 100000 in
theorem dL_249 : decode code 249 = .ok (.aload_n 0, 1) := by decide +kernel
set_option maxRecDepth 100000 in
theorem dL_250 : decode code 250 = .ok (.iload_n 3, 1) := by decide +kernel
set_option maxRecDepth 100000 in
theorem dL_251 : decode code 251 = .ok (.iconst 2, 1) := by decide +kernel
set_option maxRecDepth 100000 in
theorem dL_252 : decode code 252 = .ok (.iadd, 1) := by decide +kernel
set_option maxRecDepth 100000 in
theorem dL_253 : decode code 253 = .ok (.iaload, 1) := by decide +kernel
set_option maxRecDepth 100000 in
theorem dL_254 : decode code 254 = .ok (.aload_n 0, 1) := by decide +kernel
set_option maxRecDepth 100000 in
theorem dL_255 : decode code 255 = .ok (.iload_n 3, 1) := by decide +kernel
set_option maxRecDepth 100000 in
theorem dL_256 : decode code 256 = .ok (.iconst 3, 1) := by decide +kernel
set_option maxRecDepth 100000 in
theorem dL_257 : decode code 257 = .ok (.iadd, 1) := by decide +kernel
set_option maxRecDepth 100000 in
theorem dL_258 : decode code 258 = .ok (.iaload, 1) := by decide +kernel
set_option maxRecDepth 100000 in
theorem dL_259 : decode code 259 = .ok (.aload_n 0, 1) := by decide +kernel
set_option maxRecDepth 100000 in
theorem dL_260 : decode code 260 = .ok (.iload_n 3, 1) := by decide +kernel
set_option maxRecDepth 100000 in
theorem dL_261 : decode code 261 = .ok (.iconst 4, 1) := by decide +kernel
set_option maxRecDepth 100000 in
theorem dL_262 : decode code 262 = .ok (.iadd, 1) := by decide +kernel
set_option maxRecDepth 100000 in
theorem dL_263 : decode code 263 = .ok (.iaload, 1) := by decide +kernel
set_option maxRecDepth 100000 in
theorem dL_264 : decode code 264 = .ok (.invokevirtual 27, 3) := by decide +kernel
set_option maxRecDepth 100000 in
theorem dL_267 : decode code 267 = .ok (.aload_n 2, 1) := by decide +kernel
set_option maxRecDepth 100000 in
theorem dL_268 : decode code 268 = .ok (.aload_n 0, 1) := by decide +kernel
set_option maxRecDepth 100000 in
theorem dL_269 : decode code 269 = .ok (.iload_n 3, 1) := by decide +kernel
set_option maxRecDepth 100000 in
theorem dL_270 : decode code 270 = .ok (.iconst 1, 1) := by decide +kernel
set_option maxRecDepth 100000 in
theorem dL_271 : decode code 271 = .ok (.iadd, 1) := by decide +kernel
set_option maxRecDepth 100000 in
theorem dL_272 : decode code 272 = .ok (.iaload, 1) := by decide +kernel
set_option maxRecDepth 100000 in
theorem dL_273 : decode code 273 = .ok (.aload_n 0, 1) := by decide +kernel
set_option maxRecDepth 100000 in
theorem dL_274 : decode code 274 = .ok (.iload_n 3, 1) := by decide +kernel
set_option maxRecDepth 100000 in
theorem dL_275 : decode code 275 = .ok (.iconst 2, 1) := by decide +kernel
set_option maxRecDepth 100000 in
theorem dL_276 : decode code 276 = .ok (.iadd, 1) := by decide +kernel
set_option maxRecDepth 100000 in
theorem dL_277 : decode code 277 = .ok (.iaload, 1) := by decide +kernel
set_option maxRecDepth 100000 in
theorem dL_278 : decode code 278 = .ok (.aload_n 0, 1) := by decide +kernel
set_option maxRecDepth 100000 in
theorem dL_279 : decode code 279 = .ok (.iload_n 3, 1) := by decide +kernel
set_option maxRecDepth 100000 in
theorem dL_280 : decode code 280 = .ok (.iconst 3, 1) := by decide +kernel
set_option maxRecDepth 100000 in
theorem dL_281 : decode code 281 = .ok (.iadd, 1) := by decide +kernel
set_option maxRecDepth 100000 in
theorem dL_282 : decode code 282 = .ok (.iaload, 1) := by decide +kernel
set_option maxRecDepth 100000 in
theorem dL_283 : decode code 283 = .ok (.aload_n 0, 1) := by decide +kernel
set_option maxRecDepth 100000 in
theorem dL_284 : decode code 284 = .ok (.iload_n 3, 1) := by decide +kernel
set_option maxRecDepth 100000 in
theorem dL_285 : decode code 285 = .ok (.iconst 4, 1) := by decide +kernel
set_option maxRecDepth 100000 in
theorem dL_286 : decode code 286 = .ok (.iadd, 1) := by decide +kernel
set_option maxRecDepth 100000 in
theorem dL_287 : decode code 287 = .ok (.iaload, 1) := by decide +kernel
set_option maxRecDepth 100000 in
theorem dL_288 : decode code 288 = .ok (.invokevirtual 31, 3) := by decide +kernel
set_option maxRecDepth 100000 in
theorem dL_291 : decode code 291 = .ok (.lcmp, 1) := by decide +kernel
set_option maxRecDepth 100000 in
theorem dL_292 : decode code 292 = .ok (.ifCond .eq 288, 3) := by decide +kernel
set_option maxRecDepth 100000 in
theorem dL_295 : decode code 295 = .ok (.iconst 0, 1) := by decide +kernel
set_option maxRecDepth 100000 in
theorem dL_296 : decode code 296 = .ok (.ireturn, 1) := by decide +kernel
set_option maxRecDepth 100000 in
theorem dL_297 : decode code 297 = .ok (.aload_n 1, 1) := by decide +kernel
set_option maxRecDepth 100000 in
theorem dL_298 : decode code 298 = .ok (.invokevirtual 32, 3) := by decide +kernel
set_option maxRecDepth 100000 in
theorem dL_301 : decode code 301 = .ok (.aload_n 2, 1) := by decide +kernel
set_option maxRecDepth 100000 in
theorem dL_302 : decode code 302 = .ok (.invokevirtual 36, 3) := by decide +kernel
set_option maxRecDepth 100000 in
theorem dL_305 : decode code 305 = .ok (.if_icmp .eq 275, 3) := by decide +kernel
set_option maxRecDepth 100000 in
theorem dL_308 : decode code 308 = .ok (.iconst 0, 1) := by decide +kernel
set_option maxRecDepth 100000 in
theorem dL_309 : decode code 309 = .ok (.ireturn, 1) := by decide +kernel
set_option maxRecDepth 100000 in
theorem dL_310 : decode code 310 = .ok (.aload_n 1, 1) := by decide +kernel
set_option maxRecDepth 100000 in
theorem dL_311 : decode code 311 = .ok (.aload_n 0, 1) := by decide +kernel
set_option maxRecDepth 100000 in
theorem dL_312 : decode code 312 = .ok (.iload_n 3, 1) := by decide +kernel
set_option maxRecDepth 100000 in
theorem dL_313 : decode code 313 = .ok (.iconst 1, 1) := by decide +kernel
set_option maxRecDepth 100000 in
theorem dL_314 : decode code 314 = .ok (.iadd, 1) := by decide +kernel
set_option maxRecDepth 100000 in
theorem dL_315 : decode code 315 = .ok (.iaload, 1) := by decide +kernel
set_option maxRecDepth 100000 in
theorem dL_316 : decode code 316 = .ok (.aload_n 0, 1) := by decide +kernel
set_option maxRecDepth 100000 in
theorem dL_317 : decode code 317 = .ok (.iload_n 3, 1) := by decide +kernel
set_option maxRecDepth 100000 in
theorem dL_318 : decode code 318 = .ok (.iconst 2, 1) := by decide +kernel
set_option maxRecDepth 100000 in
theorem dL_319 : decode code 319 = .ok (.iadd, 1) := by decide +kernel
set_option maxRecDepth 100000 in
theorem dL_320 : decode code 320 = .ok (.iaload, 1) := by decide +kernel
set_option maxRecDepth 100000 in
theorem dL_321 : decode code 321 = .ok (.invokevirtual 37, 3) := by decide +kernel
set_option maxRecDepth 100000 in
theorem dL_324 : decode code 324 = .ok (.aload_n 2, 1) := by decide +kernel
set_option maxRecDepth 100000 in
theorem dL_325 : decode code 325 = .ok (.aload_n 0, 1) := by decide +kernel
set_option maxRecDepth 100000 in
theorem dL_326 : decode code 326 = .ok (.iload_n 3, 1) := by decide +kernel
set_option maxRecDepth 100000 in
theorem dL_327 : decode code 327 = .ok (.iconst 1, 1) := by decide +kernel
set_option maxRecDepth 100000 in
theorem dL_328 : decode code 328 = .ok (.iadd, 1) := by decide +kernel
set_option maxRecDepth 100000 in
theorem dL_329 : decode code 329 = .ok (.iaload, 1) := by decide +kernel
set_option maxRecDepth 100000 in
theorem dL_330 : decode code 330 = .ok (.aload_n 0, 1) := by decide +kernel
set_option maxRecDepth 100000 in
theorem dL_331 : decode code 331 = .ok (.iload_n 3, 1) := by decide +kernel
set_option maxRecDepth 100000 in
theorem dL_332 : decode code 332 = .ok (.iconst 2, 1) := by decide +kernel
set_option maxRecDepth 100000 in
theorem dL_333 : decode code 333 = .ok (.iadd, 1) := by decide +kernel
set_option maxRecDepth 100000 in
theorem dL_334 : decode code 334 = .ok (.iaload, 1) := by decide +kernel
set_option maxRecDepth 100000 in
theorem dL_335 : decode code 335 = .ok (.invokevirtual 40, 3) := by decide +kernel
set_option maxRecDepth 100000 in
theorem dL_338 : decode code 338 = .ok (.if_icmp .eq 242, 3) := by decide +kernel
set_option maxRecDepth 100000 in
theorem dL_341 : decode code 341 = .ok (.iconst 0, 1) := by decide +kernel
set_option maxRecDepth 100000 in
theorem dL_342 : decode code 342 = .ok (.ireturn, 1) := by decide +kernel
set_option maxRecDepth 100000 in
theorem dL_343 : decode code 343 = .ok (.aload_n 1, 1) := by decide +kernel
set_option maxRecDepth 100000 in
theorem dL_344 : decode code 344 = .ok (.aload_n 0, 1) := by decide +kernel
set_option maxRecDepth 100000 in
theorem dL_345 : decode code 345 = .ok (.iload_n 3, 1) := by decide +kernel
set_option maxRecDepth 100000 in
theorem dL_346 : decode code 346 = .ok (.iconst 1, 1) := by decide +kernel
set_option maxRecDepth 100000 in
theorem dL_347 : decode code 347 = .ok (.iadd, 1) := by decide +kernel
set_option maxRecDepth 100000 in
theorem dL_348 : decode code 348 = .ok (.iaload, 1) := by decide +kernel
set_option maxRecDepth 100000 in
theorem dL_349 : decode code 349 = .ok (.invokevirtual 41, 3) := by decide +kernel
set_option maxRecDepth 100000 in
theorem dL_352 : decode code 352 = .ok (.aload_n 2, 1) := by decide +kernel
set_option maxRecDepth 100000 in
theorem dL_353 : decode code 353 = .ok (.aload_n 0, 1) := by decide +kernel
set_option maxRecDepth 100000 in
theorem dL_354 : decode code 354 = .ok (.iload_n 3, 1) := by decide +kernel
set_option maxRecDepth 100000 in
theorem dL_355 : decode code 355 = .ok (.iconst 1, 1) := by decide +kernel
set_option maxRecDepth 100000 in
theorem dL_356 : decode code 356 = .ok (.iadd, 1) := by decide +kernel
set_option maxRecDepth 100000 in
theorem dL_357 : decode code 357 = .ok (.iaload, 1) := by decide +kernel
set_option maxRecDepth 100000 in
theorem dL_358 : decode code 358 = .ok (.invokevirtual 45, 3) := by decide +kernel
set_option maxRecDepth 100000 in
theorem dL_361 : decode code 361 = .ok (.if_icmp .eq 219, 3) := by decide +kernel
set_option maxRecDepth 100000 in
theorem dL_364 : decode code 364 = .ok (.iconst 0, 1) := by decide +kernel
set_option maxRecDepth 100000 in
theorem dL_365 : decode code 365 = .ok (.ireturn, 1) := by decide +kernel
set_option maxRecDepth 100000 in
theorem dL_366 : decode code 366 = .ok (.aload_n 1, 1) := by decide +kernel
set_option maxRecDepth 100000 in
theorem dL_367 : decode code 367 = .ok (.aload_n 0, 1) := by decide +kernel
set_option maxRecDepth 100000 in
theorem dL_368 : decode code 368 = .ok (.iload_n 3, 1) := by decide +kernel
set_option maxRecDepth 100000 in
theorem dL_369 : decode code 369 = .ok (.iconst 1, 1) := by decide +kernel
set_option maxRecDepth 100000 in
theorem dL_370 : decode code 370 = .ok (.iadd, 1) := by decide +kernel
set_option maxRecDepth 100000 in
theorem dL_371 : decode code 371 = .ok (.iaload, 1) := by decide +kernel
set_option maxRecDepth 100000 in
theorem dL_372 : decode code 372 = .ok (.aload_n 0, 1) := by decide +kernel
set_option maxRecDepth 100000 in
theorem dL_373 : decode code 373 = .ok (.iload_n 3, 1) := by decide +kernel
set_option maxRecDepth 100000 in
theorem dL_374 : decode code 374 = .ok (.iconst 2, 1) := by decide +kernel
set_option maxRecDepth 100000 in
theorem dL_375 : decode code 375 = .ok (.iadd, 1) := by decide +kernel
set_option maxRecDepth 100000 in
theorem dL_376 : decode code 376 = .ok (.iaload, 1) := by decide +kernel
set_option maxRecDepth 100000 in
theorem dL_377 : decode code 377 = .ok (.aload_n 0, 1) := by decide +kernel
set_option maxRecDepth 100000 in
theorem dL_378 : decode code 378 = .ok (.iload_n 3, 1) := by decide +kernel
set_option maxRecDepth 100000 in
theorem dL_379 : decode code 379 = .ok (.iconst 3, 1) := by decide +kernel
set_option maxRecDepth 100000 in
theorem dL_380 : decode code 380 = .ok (.iadd, 1) := by decide +kernel
set_option maxRecDepth 100000 in
theorem dL_381 : decode code 381 = .ok (.iaload, 1) := by decide +kernel
set_option maxRecDepth 100000 in
theorem dL_382 : decode code 382 = .ok (.invokevirtual 46, 3) := by decide +kernel
set_option maxRecDepth 100000 in
theorem dL_385 : decode code 385 = .ok (.aload_n 2, 1) := by decide +kernel
set_option maxRecDepth 100000 in
theorem dL_386 : decode code 386 = .ok (.aload_n 0, 1) := by decide +kernel
set_option maxRecDepth 100000 in
theorem dL_387 : decode code 387 = .ok (.iload_n 3, 1) := by decide +kernel
set_option maxRecDepth 100000 in
theorem dL_388 : decode code 388 = .ok (.iconst 1, 1) := by decide +kernel
set_option maxRecDepth 100000 in
theorem dL_389 : decode code 389 = .ok (.iadd, 1) := by decide +kernel
set_option maxRecDepth 100000 in
theorem dL_390 : decode code 390 = .ok (.iaload, 1) := by decide +kernel
set_option maxRecDepth 100000 in
theorem dL_391 : decode code 391 = .ok (.aload_n 0, 1) := by decide +kernel
set_option maxRecDepth 100000 in
theorem dL_392 : decode code 392 = .ok (.iload_n 3, 1) := by decide +kernel
set_option maxRecDepth 100000 in
theorem dL_393 : decode code 393 = .ok (.iconst 2, 1) := by decide +kernel
set_option maxRecDepth 100000 in
theorem dL_394 : decode code 394 = .ok (.iadd, 1) := by decide +kernel
set_option maxRecDepth 100000 in
theorem dL_395 : decode code 395 = .ok (.iaload, 1) := by decide +kernel
set_option maxRecDepth 100000 in
theorem dL_396 : decode code 396 = .ok (.aload_n 0, 1) := by decide +kernel
set_option maxRecDepth 100000 in
theorem dL_397 : decode code 397 = .ok (.iload_n 3, 1) := by decide +kernel
set_option maxRecDepth 100000 in
theorem dL_398 : decode code 398 = .ok (.iconst 3, 1) := by decide +kernel
set_option maxRecDepth 100000 in
theorem dL_399 : decode code 399 = .ok (.iadd, 1) := by decide +kernel
set_option maxRecDepth 100000 in
theorem dL_400 : decode code 400 = .ok (.iaload, 1) := by decide +kernel
set_option maxRecDepth 100000 in
theorem dL_401 : decode code 401 = .ok (.invokevirtual 50, 3) := by decide +kernel
set_option maxRecDepth 100000 in
theorem dL_404 : decode code 404 = .ok (.if_icmp .eq 176, 3) := by decide +kernel
set_option maxRecDepth 100000 in
theorem dL_407 : decode code 407 = .ok (.iconst 0, 1) := by decide +kernel
set_option maxRecDepth 100000 in
theorem dL_408 : decode code 408 = .ok (.ireturn, 1) := by decide +kernel
set_option maxRecDepth 100000 in
theorem dL_409 : decode code 409 = .ok (.aload_n 1, 1) := by decide +kernel
set_option maxRecDepth 100000 in
theorem dL_410 : decode code 410 = .ok (.aload_n 0, 1) := by decide +kernel
set_option maxRecDepth 100000 in
theorem dL_411 : decode code 411 = .ok (.iload_n 3, 1) := by decide +kernel
set_option maxRecDepth 100000 in
theorem dL_412 : decode code 412 = .ok (.iconst 1, 1) := by decide +kernel
set_option maxRecDepth 100000 in
theorem dL_413 : decode code 413 = .ok (.iadd, 1) := by decide +kernel
set_option maxRecDepth 100000 in
theorem dL_414 : decode code 414 = .ok (.iaload, 1) := by decide +kernel
set_option maxRecDepth 100000 in
theorem dL_415 : decode code 415 = .ok (.invokevirtual 51, 3) := by decide +kernel
set_option maxRecDepth 100000 in
theorem dL_418 : decode code 418 = .ok (.aload_n 2, 1) := by decide +kernel
set_option maxRecDepth 100000 in
theorem dL_419 : decode code 419 = .ok (.aload_n 0, 1) := by decide +kernel
set_option maxRecDepth 100000 in
theorem dL_420 : decode code 420 = .ok (.iload_n 3, 1) := by decide +kernel
set_option maxRecDepth 100000 in
theorem dL_421 : decode code 421 = .ok (.iconst 1, 1) := by decide +kernel
set_option maxRecDepth 100000 in
theorem dL_422 : decode code 422 = .ok (.iadd, 1) := by decide +kernel
set_option maxRecDepth 100000 in
theorem dL_423 : decode code 423 = .ok (.iaload, 1) := by decide +kernel
set_option maxRecDepth 100000 in
theorem dL_424 : decode code 424 = .ok (.invokevirtual 54, 3) := by decide +kernel
set_option maxRecDepth 100000 in
theorem dL_427 : decode code 427 = .ok (.if_icmp .eq 153, 3) := by decide +kernel
set_option maxRecDepth 100000 in
theorem dL_430 : decode code 430 = .ok (.iconst 0, 1) := by decide +kernel
set_option maxRecDepth 100000 in
theorem dL_431 : decode code 431 = .ok (.ireturn, 1) := by decide +kernel
set_option maxRecDepth 100000 in
theorem dL_432 : decode code 432 = .ok (.aload_n 1, 1) := by decide +kernel
set_option maxRecDepth 100000 in
theorem dL_433 : decode code 433 = .ok (.invokevirtual 55, 3) := by decide +kernel
set_option maxRecDepth 100000 in
theorem dL_436 : decode code 436 = .ok (.aload_n 2, 1) := by decide +kernel
set_option maxRecDepth 100000 in
theorem dL_437 : decode code 437 = .ok (.invokevirtual 58, 3) := by decide +kernel
set_option maxRecDepth 100000 in
theorem dL_440 : decode code 440 = .ok (.if_icmp .eq 140, 3) := by decide +kernel
set_option maxRecDepth 100000 in
theorem dL_443 : decode code 443 = .ok (.iconst 0, 1) := by decide +kernel
set_option maxRecDepth 100000 in
theorem dL_444 : decode code 444 = .ok (.ireturn, 1) := by decide +kernel
set_option maxRecDepth 100000 in
theorem dL_445 : decode code 445 = .ok (.aload_n 1, 1) := by decide +kernel
set_option maxRecDepth 100000 in
theorem dL_446 : decode code 446 = .ok (.aload_n 0, 1) := by decide +kernel
set_option maxRecDepth 100000 in
theorem dL_447 : decode code 447 = .ok (.iload_n 3, 1) := by decide +kernel
set_option maxRecDepth 100000 in
theorem dL_448 : decode code 448 = .ok (.iconst 1, 1) := by decide +kernel
set_option maxRecDepth 100000 in
theorem dL_449 : decode code 449 = .ok (.iadd, 1) := by decide +kernel
set_option maxRecDepth 100000 in
theorem dL_450 : decode code 450 = .ok (.iaload, 1) := by decide +kernel
set_option maxRecDepth 100000 in
theorem dL_451 : decode code 451 = .ok (.aload_n 0, 1) := by decide +kernel
set_option maxRecDepth 100000 in
theorem dL_452 : decode code 452 = .ok (.iload_n 3, 1) := by decide +kernel
set_option maxRecDepth 100000 in
theorem dL_453 : decode code 453 = .ok (.iconst 2, 1) := by decide +kernel
set_option maxRecDepth 100000 in
theorem dL_454 : decode code 454 = .ok (.iadd, 1) := by decide +kernel
set_option maxRecDepth 100000 in
theorem dL_455 : decode code 455 = .ok (.iaload, 1) := by decide +kernel
set_option maxRecDepth 100000 in
theorem dL_456 : decode code 456 = .ok (.invokevirtual 59, 3) := by decide +kernel
set_option maxRecDepth 100000 in
theorem dL_459 : decode code 459 = .ok (.aload_n 2, 1) := by decide +kernel
set_option maxRecDepth 100000 in
theorem dL_460 : decode code 460 = .ok (.aload_n 0, 1) := by decide +kernel
set_option maxRecDepth 100000 in
theorem dL_461 : decode code 461 = .ok (.iload_n 3, 1) := by decide +kernel
set_option maxRecDepth 100000 in
theorem dL_462 : decode code 462 = .ok (.iconst 1, 1) := by decide +kernel
set_option maxRecDepth 100000 in
theorem dL_463 : decode code 463 = .ok (.iadd, 1) := by decide +kernel
set_option maxRecDepth 100000 in
theorem dL_464 : decode code 464 = .ok (.iaload, 1) := by decide +kernel
set_option maxRecDepth 100000 in
theorem dL_465 : decode code 465 = .ok (.aload_n 0, 1) := by decide +kernel
set_option maxRecDepth 100000 in
theorem dL_466 : decode code 466 = .ok (.iload_n 3, 1) := by decide +kernel
set_option maxRecDepth 100000 in
theorem dL_467 : decode code 467 = .ok (.iconst 2, 1) := by decide +kernel
set_option maxRecDepth 100000 in
theorem dL_468 : decode code 468 = .ok (.iadd, 1) := by decide +kernel
set_option maxRecDepth 100000 in
theorem dL_469 : decode code 469 = .ok (.iaload, 1) := by decide +kernel
set_option maxRecDepth 100000 in
theorem dL_470 : decode code 470 = .ok (.invokevirtual 62, 3) := by decide +kernel
set_option maxRecDepth 100000 in
theorem dL_473 : decode code 473 = .ok (.if_icmp .eq 107, 3) := by decide +kernel
set_option maxRecDepth 100000 in
theorem dL_476 : decode code 476 = .ok (.iconst 0, 1) := by decide +kernel
set_option maxRecDepth 100000 in
theorem dL_477 : decode code 477 = .ok (.ireturn, 1) := by decide +kernel
set_option maxRecDepth 100000 in
theorem dL_478 : decode code 478 = .ok (.aload_n 1, 1) := by decide +kernel
set_option maxRecDepth 100000 in
theorem dL_479 : decode code 479 = .ok (.aload_n 0, 1) := by decide +kernel
set_option maxRecDepth 100000 in
theorem dL_480 : decode code 480 = .ok (.iload_n 3, 1) := by decide +kernel
set_option maxRecDepth 100000 in
theorem dL_481 : decode code 481 = .ok (.iconst 1, 1) := by decide +kernel
set_option maxRecDepth 100000 in
theorem dL_482 : decode code 482 = .ok (.iadd, 1) := by decide +kernel
set_option maxRecDepth 100000 in
theorem dL_483 : decode code 483 = .ok (.iaload, 1) := by decide +kernel
set_option maxRecDepth 100000 in
theorem dL_484 : decode code 484 = .ok (.aload_n 0, 1) := by decide +kernel
set_option maxRecDepth 100000 in
theorem dL_485 : decode code 485 = .ok (.iload_n 3, 1) := by decide +kernel
set_option maxRecDepth 100000 in
theorem dL_486 : decode code 486 = .ok (.iconst 2, 1) := by decide +kernel
set_option maxRecDepth 100000 in
theorem dL_487 : decode code 487 = .ok (.iadd, 1) := by decide +kernel
set_option maxRecDepth 100000 in
theorem dL_488 : decode code 488 = .ok (.iaload, 1) := by decide +kernel
set_option maxRecDepth 100000 in
theorem dL_489 : decode code 489 = .ok (.invokevirtual 63, 3) := by decide +kernel
set_option maxRecDepth 100000 in
theorem dL_492 : decode code 492 = .ok (.aload_n 2, 1) := by decide +kernel
set_option maxRecDepth 100000 in
theorem dL_493 : decode code 493 = .ok (.aload_n 0, 1) := by decide +kernel
set_option maxRecDepth 100000 in
theorem dL_494 : decode code 494 = .ok (.iload_n 3, 1) := by decide +kernel
set_option maxRecDepth 100000 in
theorem dL_495 : decode code 495 = .ok (.iconst 1, 1) := by decide +kernel
set_option maxRecDepth 100000 in
theorem dL_496 : decode code 496 = .ok (.iadd, 1) := by decide +kernel
set_option maxRecDepth 100000 in
theorem dL_497 : decode code 497 = .ok (.iaload, 1) := by decide +kernel
set_option maxRecDepth 100000 in
theorem dL_498 : decode code 498 = .ok (.aload_n 0, 1) := by decide +kernel
set_option maxRecDepth 100000 in
theorem dL_499 : decode code 499 = .ok (.iload_n 3, 1) := by decide +kernel
set_option maxRecDepth 100000 in
theorem dL_500 : decode code 500 = .ok (.iconst 2, 1) := by decide +kernel
set_option maxRecDepth 100000 in
theorem dL_501 : decode code 501 = .ok (.iadd, 1) := by decide +kernel
set_option maxRecDepth 100000 in
theorem dL_502 : decode code 502 = .ok (.iaload, 1) := by decide +kernel
set_option maxRecDepth 100000 in
theorem dL_503 : decode code 503 = .ok (.invokevirtual 66, 3) := by decide +kernel
set_option maxRecDepth 100000 in
theorem dL_506 : decode code 506 = .ok (.if_icmp .eq 74, 3) := by decide +kernel
set_option maxRecDepth 100000 in
theorem dL_509 : decode code 509 = .ok (.iconst 0, 1) := by decide +kernel
set_option maxRecDepth 100000 in
theorem dL_510 : decode code 510 = .ok (.ireturn, 1) := by decide +kernel
set_option maxRecDepth 100000 in
theorem dL_511 : decode code 511 = .ok (.aload_n 1, 1) := by decide +kernel
set_option maxRecDepth 100000 in
theorem dL_512 : decode code 512 = .ok (.aload_n 0, 1) := by decide +kernel
set_option maxRecDepth 100000 in
theorem dL_513 : decode code 513 = .ok (.iload_n 3, 1) := by decide +kernel
set_option maxRecDepth 100000 in
theorem dL_514 : decode code 514 = .ok (.iconst 1, 1) := by decide +kernel
set_option maxRecDepth 100000 in
theorem dL_515 : decode code 515 = .ok (.iadd, 1) := by decide +kernel
set_option maxRecDepth 100000 in
theorem dL_516 : decode code 516 = .ok (.iaload, 1) := by decide +kernel
set_option maxRecDepth 100000 in
theorem dL_517 : decode code 517 = .ok (.invokevirtual 67, 3) := by decide +kernel
set_option maxRecDepth 100000 in
theorem dL_520 : decode code 520 = .ok (.aload_n 2, 1) := by decide +kernel
set_option maxRecDepth 100000 in
theorem dL_521 : decode code 521 = .ok (.aload_n 0, 1) := by decide +kernel
set_option maxRecDepth 100000 in
theorem dL_522 : decode code 522 = .ok (.iload_n 3, 1) := by decide +kernel
set_option maxRecDepth 100000 in
theorem dL_523 : decode code 523 = .ok (.iconst 1, 1) := by decide +kernel
set_option maxRecDepth 100000 in
theorem dL_524 : decode code 524 = .ok (.iadd, 1) := by decide +kernel
set_option maxRecDepth 100000 in
theorem dL_525 : decode code 525 = .ok (.iaload, 1) := by decide +kernel
set_option maxRecDepth 100000 in
theorem dL_526 : decode code 526 = .ok (.invokevirtual 70, 3) := by decide +kernel
set_option maxRecDepth 100000 in
theorem dL_529 : decode code 529 = .ok (.if_icmp .eq 51, 3) := by decide +kernel
set_option maxRecDepth 100000 in
theorem dL_532 : decode code 532 = .ok (.iconst 0, 1) := by decide +kernel
set_option maxRecDepth 100000 in
theorem dL_533 : decode code 533 = .ok (.ireturn, 1) := by decide +kernel
set_option maxRecDepth 100000 in
theorem dL_534 : decode code 534 = .ok (.aload_n 1, 1) := by decide +kernel
set_option maxRecDepth 100000 in
theorem dL_535 : decode code 535 = .ok (.aload_n 0, 1) := by decide +kernel
set_option maxRecDepth 100000 in
theorem dL_536 : decode code 536 = .ok (.iload_n 3, 1) := by decide +kernel
set_option maxRecDepth 100000 in
theorem dL_537 : decode code 537 = .ok (.iconst 1, 1) := by decide +kernel
set_option maxRecDepth 100000 in
theorem dL_538 : decode code 538 = .ok (.iadd, 1) := by decide +kernel
set_option maxRecDepth 100000 in
theorem dL_539 : decode code 539 = .ok (.iaload, 1) := by decide +kernel
set_option maxRecDepth 100000 in
theorem dL_540 : decode code 540 = .ok (.invokevirtual 71, 3) := by decide +kernel
set_option maxRecDepth 100000 in
theorem dL_543 : decode code 543 = .ok (.aload_n 2, 1) := by decide +kernel
set_option maxRecDepth 100000 in
theorem dL_544 : decode code 544 = .ok (.aload_n 0, 1) := by decide +kernel
set_option maxRecDepth 100000 in
theorem dL_545 : decode code 545 = .ok (.iload_n 3, 1) := by decide +kernel
set_option maxRecDepth 100000 in
theorem dL_546 : decode code 546 = .ok (.iconst 1, 1) := by decide +kernel
set_option maxRecDepth 100000 in
theorem dL_547 : decode code 547 = .ok (.iadd, 1) := by decide +kernel
set_option maxRecDepth 100000 in
theorem dL_548 : decode code 548 = .ok (.iaload, 1) := by decide +kernel
set_option maxRecDepth 100000 in
theorem dL_549 : decode code 549 = .ok (.invokevirtual 74, 3) := by decide +kernel
set_option maxRecDepth 100000 in
theorem dL_552 : decode code 552 = .ok (.if_icmp .eq 28, 3) := by decide +kernel
set_option maxRecDepth 100000 in
theorem dL_555 : decode code 555 = .ok (.iconst 0, 1) := by decide +kernel
set_option maxRecDepth 100000 in
theorem dL_556 : decode code 556 = .ok (.ireturn, 1) := by decide +kernel
set_option maxRecDepth 100000 in
theorem dL_557 : decode code 557 = .ok (.aload_n 1, 1) := by decide +kernel
set_option maxRecDepth 100000 in
theorem dL_558 : decode code 558 = .ok (.aload_n 0, 1) := by decide +kernel
set_option maxRecDepth 100000 in
theorem dL_559 : decode code 559 = .ok (.iload_n 3, 1) := by decide +kernel
set_option maxRecDepth 100000 in
theorem dL_560 : decode code 560 = .ok (.iconst 1, 1) := by decide +kernel
set_option maxRecDepth 100000 in
theorem dL_561 : decode code 561 = .ok (.iadd, 1) := by decide +kernel
set_option maxRecDepth 100000 in
theorem dL_562 : decode code 562 = .ok (.iaload, 1) := by decide +kernel
set_option maxRecDepth 100000 in
theorem dL_563 : decode code 563 = .ok (.invokevirtual 75, 3) := by decide +kernel
set_option maxRecDepth 100000 in
theorem dL_566 : decode code 566 = .ok (.aload_n 2, 1) := by decide +kernel
set_option maxRecDepth 100000 in
theorem dL_567 : decode code 567 = .ok (.aload_n 0, 1) := by decide +kernel
set_option maxRecDepth 100000 in
theorem dL_568 : decode code 568 = .ok (.iload_n 3, 1) := by decide +kernel
set_option maxRecDepth 100000 in
theorem dL_569 : decode code 569 = .ok (.iconst 1, 1) := by decide +kernel
set_option maxRecDepth 100000 in
theorem dL_570 : decode code 570 = .ok (.iadd, 1) := by decide +kernel
set_option maxRecDepth 100000 in
theorem dL_571 : decode code 571 = .ok (.iaload, 1) := by decide +kernel
set_option maxRecDepth 100000 in
theorem dL_572 : decode code 572 = .ok (.invokevirtual 78, 3) := by decide +kernel
set_option maxRecDepth 100000 in
theorem dL_575 : decode code 575 = .ok (.if_icmp .eq 5, 3) := by decide +kernel
set_option maxRecDepth 100000 in
theorem dL_578 : decode code 578 = .ok (.iconst 0, 1) := by decide +kernel
set_option maxRecDepth 100000 in
theorem dL_579 : decode code 579 = .ok (.ireturn, 1) := by decide +kernel
set_option maxRecDepth 100000 in
theorem dL_580 : decode code 580 = .ok (.iinc 3 5, 3) := by decide +kernel
set_option maxRecDepth 100000 in
theorem dL_583 : decode code 583 = .ok (.goto (-565), 3) := by decide +kernel
set_option maxRecDepth 100000 in
theorem dL_586 : decode code 586 = .ok (.iconst 1, 1) := by decide +kernel
set_option maxRecDepth 100000 in
theorem dL_587 : decode code 587 = .ok (.ireturn, 1) := by decide +kernel
set_option maxRecDepth 100000 in
theorem xk_A_define : xk yA_define bA_define 7 (some .int) 4 := ⟨tb_2 (List.mem_of_getElem? (i := 66) rfl), tb_1 (List.mem_of_getElem? (i := 1) rfl), by decide +kernel, by decide⟩
set_option maxRecDepth 100000 in
theorem kL_13 : xkV x.cls 13 RxA yA_define bA_define 7 (some .int) 4 := ⟨xk_A_define, tb_2 (List.mem_of_getElem? (i := 63) rfl), tb_2 (List.mem_of_getElem? (i := 64) rfl), tb_2 (List.mem_of_getElem? (i := 65) rfl)⟩
set_option maxRecDepth 100000 in
theorem xk_M_define : xk yM_define bM_define 6 (some .int) 4 := ⟨tb_3 (List.mem_of_getElem? (i := 226) rfl), tb_1 (List.mem_of_getElem? (i := 11) rfl), by decide +kernel, by decide⟩
set_option maxRecDepth 100000 in
theorem kL_17 : xkV x.cls 17 RxM yM_define bM_define 6 (some .int) 4 := ⟨xk_M_define, tb_3 (List.mem_of_getElem? (i := 223) rfl), tb_3 (List.mem_of_getElem? (i := 224) rfl), tb_3 (List.mem_of_getElem? (i := 225) rfl)⟩
set_option maxRecDepth 100000 in
theorem xk_A_make : xk yA_make bA_make 4 (some .int) 2 := ⟨tb_2 (List.mem_of_getElem? (i := 100) rfl), tb_1 (List.mem_of_getElem? (i := 1) rfl), by decide +kernel, by decide⟩
set_option maxRecDepth 100000 in
theorem kL_18 : xkV x.cls 18 RxA yA_make bA_make 4 (some .int) 2 := ⟨xk_A_make, tb_2 (List.mem_of_getElem? (i := 97) rfl), tb_2 (List.mem_of_getElem? (i := 98) rfl), tb_2 (List.mem_of_getElem? (i := 99) rfl)⟩
set_option maxRecDepth 100000 in
theorem xk_M_make : xk yM_make bM_make 4 (some .int) 2 := ⟨tb_4 (List.mem_of_getElem? (i := 1) rfl), tb_1 (List.mem_of_getElem? (i := 11) rfl), by decide +kernel, by decide⟩
set_option maxRecDepth 100000 in
theorem kL_22 : xkV x.cls 22 RxM yM_make bM_make 4 (some .int) 2 := ⟨xk_M_make, tb_3 (List.mem_of_getElem? (i := 238) rfl), tb_3 (List.mem_of_getElem? (i := 239) rfl), tb_4 (List.mem_of_getElem? (i := 0) rfl)⟩
set_option maxRecDepth 100000 in
theorem xk_A_matcher : xk yA_matcher bA_matcher 8 (some .int) 2 := ⟨tb_2 (List.mem_of_getElem? (i := 104) rfl), tb_1 (List.mem_of_getElem? (i := 1) rfl), by decide +kernel, by decide⟩
set_option maxRecDepth 100000 in
theorem kL_23 : xkV x.cls 23 RxA yA_matcher bA_matcher 8 (some .int) 2 := ⟨xk_A_matcher, tb_2 (List.mem_of_getElem? (i := 101) rfl), tb_2 (List.mem_of_getElem? (i := 102) rfl), tb_2 (List.mem_of_getElem? (i := 103) rfl)⟩
set_option maxRecDepth 100000 in
theorem xk_M_matcher : xk yM_matcher bM_matcher 9 (some .int) 2 := ⟨tb_4 (List.mem_of_getElem? (i := 5) rfl), tb_1 (List.mem_of_getElem? (i := 11) rfl), by decide +kernel, by decide⟩
set_option maxRecDepth 100000 in
theorem kL_26 : xkV x.cls 26 RxM yM_matcher bM_matcher 9 (some .int) 2 := ⟨xk_M_matcher, tb_4 (List.mem_of_getElem? (i := 2) rfl), tb_4 (List.mem_of_getElem? (i := 3) rfl), tb_4 (List.mem_of_getElem? (i := 4) rfl)⟩
set_option maxRecDepth 100000 in
theorem xk_A_call : xk yA_call bA_call 9 (some .long) 4 := ⟨tb_2 (List.mem_of_getElem? (i := 150) rfl), tb_1 (List.mem_of_getElem? (i := 1) rfl), by decide +kernel, by decide⟩
set_option maxRecDepth 100000 in
theorem kL_27 : xkV x.cls 27 RxA yA_call bA_call 9 (some .long) 4 := ⟨xk_A_call, tb_2 (List.mem_of_getElem? (i := 147) rfl), tb_2 (List.mem_of_getElem? (i := 148) rfl), tb_2 (List.mem_of_getElem? (i := 149) rfl)⟩
set_option maxRecDepth 100000 in
theorem xk_M_call : xk yM_call bM_call 13 (some .long) 4 := ⟨tb_4 (List.mem_of_getElem? (i := 17) rfl), tb_1 (List.mem_of_getElem? (i := 11) rfl), by decide +kernel, by decide⟩
set_option maxRecDepth 100000 in
theorem kL_31 : xkV x.cls 31 RxM yM_call bM_call 13 (some .long) 4 := ⟨xk_M_call, tb_4 (List.mem_of_getElem? (i := 14) rfl), tb_4 (List.mem_of_getElem? (i := 15) rfl), tb_4 (List.mem_of_getElem? (i := 16) rfl)⟩
set_option maxRecDepth 100000 in
theorem xk_A_when : xk yA_when bA_when 2 (some .int) 0 := ⟨tb_3 (List.mem_of_getElem? (i := 36) rfl), tb_1 (List.mem_of_getElem? (i := 1) rfl), by decide +kernel, by decide⟩
set_option maxRecDepth 100000 in
theorem kL_32 : xkV x.cls 32 RxA yA_when bA_when 2 (some .int) 0 := ⟨xk_A_when, tb_3 (List.mem_of_getElem? (i := 33) rfl), tb_3 (List.mem_of_getElem? (i := 34) rfl), tb_3 (List.mem_of_getElem? (i := 35) rfl)⟩
set_option maxRecDepth 100000 in
theorem xk_M_when : xk yM_when bM_when 2 (some .int) 0 := ⟨tb_4 (List.mem_of_getElem? (i := 68) rfl), tb_1 (List.mem_of_getElem? (i := 11) rfl), by decide +kernel, by decide⟩
set_option maxRecDepth 100000 in
theorem kL_36 : xkV x.cls 36 RxM yM_when bM_when 2 (some .int) 0 := ⟨xk_M_when, tb_4 (List.mem_of_getElem? (i := 65) rfl), tb_4 (List.mem_of_getElem? (i := 66) rfl), tb_4 (List.mem_of_getElem? (i := 67) rfl)⟩
set_option maxRecDepth 100000 in
theorem xk_A_answer : xk yA_answer bA_answer 6 (some .int) 2 := ⟨tb_3 (List.mem_of_getElem? (i := 44) rfl), tb_1 (List.mem_of_getElem? (i := 1) rfl), by decide +kernel, by decide⟩
set_option maxRecDepth 100000 in
theorem kL_37 : xkV x.cls 37 RxA yA_answer bA_answer 6 (some .int) 2 := ⟨xk_A_answer, tb_3 (List.mem_of_getElem? (i := 41) rfl), tb_3 (List.mem_of_getElem? (i := 42) rfl), tb_3 (List.mem_of_getElem? (i := 43) rfl)⟩
set_option maxRecDepth 100000 in
theorem xk_M_answer : xk yM_answer bM_answer 6 (some .int) 2 := ⟨tb_4 (List.mem_of_getElem? (i := 72) rfl), tb_1 (List.mem_of_getElem? (i := 11) rfl), by decide +kernel, by decide⟩
set_option maxRecDepth 100000 in
theorem kL_40 : xkV x.cls 40 RxM yM_answer bM_answer 6 (some .int) 2 := ⟨xk_M_answer, tb_4 (List.mem_of_getElem? (i := 69) rfl), tb_4 (List.mem_of_getElem? (i := 70) rfl), tb_4 (List.mem_of_getElem? (i := 71) rfl)⟩
set_option maxRecDepth 100000 in
theorem xk_A_told : xk yA_told bA_told 3 (some .int) 1 := ⟨tb_3 (List.mem_of_getElem? (i := 53) rfl), tb_1 (List.mem_of_getElem? (i := 1) rfl), by decide +kernel, by decide⟩
set_option maxRecDepth 100000 in
theorem kL_41 : xkV x.cls 41 RxA yA_told bA_told 3 (some .int) 1 := ⟨xk_A_told, tb_3 (List.mem_of_getElem? (i := 50) rfl), tb_3 (List.mem_of_getElem? (i := 51) rfl), tb_3 (List.mem_of_getElem? (i := 52) rfl)⟩
set_option maxRecDepth 100000 in
theorem xk_M_told : xk yM_told bM_told 3 (some .int) 1 := ⟨tb_4 (List.mem_of_getElem? (i := 76) rfl), tb_1 (List.mem_of_getElem? (i := 11) rfl), by decide +kernel, by decide⟩
set_option maxRecDepth 100000 in
theorem kL_45 : xkV x.cls 45 RxM yM_told bM_told 3 (some .int) 1 := ⟨xk_M_told, tb_4 (List.mem_of_getElem? (i := 73) rfl), tb_4 (List.mem_of_getElem? (i := 74) rfl), tb_4 (List.mem_of_getElem? (i := 75) rfl)⟩
set_option maxRecDepth 100000 in
theorem xk_A_check : xk yA_check bA_check 6 (some .int) 3 := ⟨tb_3 (List.mem_of_getElem? (i := 57) rfl), tb_1 (List.mem_of_getElem? (i := 1) rfl), by decide +kernel, by decide⟩
set_option maxRecDepth 100000 in
theorem kL_46 : xkV x.cls 46 RxA yA_check bA_check 6 (some .int) 3 := ⟨xk_A_check, tb_3 (List.mem_of_getElem? (i := 54) rfl), tb_3 (List.mem_of_getElem? (i := 55) rfl), tb_3 (List.mem_of_getElem? (i := 56) rfl)⟩
set_option maxRecDepth 100000 in
theorem xk_M_check_I3 : xk yM_check_I3 bM_check_I3 5 (some .int) 3 := ⟨tb_4 (List.mem_of_getElem? (i := 80) rfl), tb_1 (List.mem_of_getElem? (i := 11) rfl), by decide +kernel, by decide⟩
set_option maxRecDepth 100000 in
theorem kL_50 : xkV x.cls 50 RxM yM_check_I3 bM_check_I3 5 (some .int) 3 := ⟨xk_M_check_I3, tb_4 (List.mem_of_getElem? (i := 77) rfl), tb_4 (List.mem_of_getElem? (i := 78) rfl), tb_4 (List.mem_of_getElem? (i := 79) rfl)⟩
set_option maxRecDepth 100000 in
theorem xk_A_noMore : xk yA_noMore bA_noMore 3 (some .int) 1 := ⟨tb_3 (List.mem_of_getElem? (i := 61) rfl), tb_1 (List.mem_of_getElem? (i := 1) rfl), by decide +kernel, by decide⟩
set_option maxRecDepth 100000 in
theorem kL_51 : xkV x.cls 51 RxA yA_noMore bA_noMore 3 (some .int) 1 := ⟨xk_A_noMore, tb_3 (List.mem_of_getElem? (i := 58) rfl), tb_3 (List.mem_of_getElem? (i := 59) rfl), tb_3 (List.mem_of_getElem? (i := 60) rfl)⟩
set_option maxRecDepth 100000 in
theorem xk_M_noMore : xk yM_noMore bM_noMore 4 (some .int) 1 := ⟨tb_4 (List.mem_of_getElem? (i := 84) rfl), tb_1 (List.mem_of_getElem? (i := 11) rfl), by decide +kernel, by decide⟩
set_option maxRecDepth 100000 in
theorem kL_54 : xkV x.cls 54 RxM yM_noMore bM_noMore 4 (some .int) 1 := ⟨xk_M_noMore, tb_4 (List.mem_of_getElem? (i := 81) rfl), tb_4 (List.mem_of_getElem? (i := 82) rfl), tb_4 (List.mem_of_getElem? (i := 83) rfl)⟩
set_option maxRecDepth 100000 in
theorem xk_A_restart : xk yA_restart bA_restart 3 (some .int) 0 := ⟨tb_3 (List.mem_of_getElem? (i := 69) rfl), tb_1 (List.mem_of_getElem? (i := 1) rfl), by decide +kernel, by decide⟩
set_option maxRecDepth 100000 in
theorem kL_55 : xkV x.cls 55 RxA yA_restart bA_restart 3 (some .int) 0 := ⟨xk_A_restart, tb_3 (List.mem_of_getElem? (i := 66) rfl), tb_3 (List.mem_of_getElem? (i := 67) rfl), tb_3 (List.mem_of_getElem? (i := 68) rfl)⟩
set_option maxRecDepth 100000 in
theorem xk_M_restart : xk yM_restart bM_restart 3 (some .int) 0 := ⟨tb_4 (List.mem_of_getElem? (i := 88) rfl), tb_1 (List.mem_of_getElem? (i := 11) rfl), by decide +kernel, by decide⟩
set_option maxRecDepth 100000 in
theorem kL_58 : xkV x.cls 58 RxM yM_restart bM_restart 3 (some .int) 0 := ⟨xk_M_restart, tb_4 (List.mem_of_getElem? (i := 85) rfl), tb_4 (List.mem_of_getElem? (i := 86) rfl), tb_4 (List.mem_of_getElem? (i := 87) rfl)⟩
set_option maxRecDepth 100000 in
theorem xk_A_noted : xk yA_noted bA_noted 4 (some .int) 2 := ⟨tb_3 (List.mem_of_getElem? (i := 73) rfl), tb_1 (List.mem_of_getElem? (i := 1) rfl), by decide +kernel, by decide⟩
set_option maxRecDepth 100000 in
theorem kL_59 : xkV x.cls 59 RxA yA_noted bA_noted 4 (some .int) 2 := ⟨xk_A_noted, tb_3 (List.mem_of_getElem? (i := 70) rfl), tb_3 (List.mem_of_getElem? (i := 71) rfl), tb_3 (List.mem_of_getElem? (i := 72) rfl)⟩
set_option maxRecDepth 100000 in
theorem xk_M_noted : xk yM_noted bM_noted 3 (some .int) 2 := ⟨tb_4 (List.mem_of_getElem? (i := 92) rfl), tb_1 (List.mem_of_getElem? (i := 11) rfl), by decide +kernel, by decide⟩
set_option maxRecDepth 100000 in
theorem kL_62 : xkV x.cls 62 RxM yM_noted bM_noted 3 (some .int) 2 := ⟨xk_M_noted, tb_4 (List.mem_of_getElem? (i := 89) rfl), tb_4 (List.mem_of_getElem? (i := 90) rfl), tb_4 (List.mem_of_getElem? (i := 91) rfl)⟩
set_option maxRecDepth 100000 in
theorem xk_A_telling : xk yA_telling bA_telling 4 (some .int) 2 := ⟨tb_3 (List.mem_of_getElem? (i := 77) rfl), tb_1 (List.mem_of_getElem? (i := 1) rfl), by decide +kernel, by decide⟩
set_option maxRecDepth 100000 in
theorem kL_63 : xkV x.cls 63 RxA yA_telling bA_telling 4 (some .int) 2 := ⟨xk_A_telling, tb_3 (List.mem_of_getElem? (i := 74) rfl), tb_3 (List.mem_of_getElem? (i := 75) rfl), tb_3 (List.mem_of_getElem? (i := 76) rfl)⟩
set_option maxRecDepth 100000 in
theorem xk_M_telling : xk yM_telling bM_telling 3 (some .int) 2 := ⟨tb_4 (List.mem_of_getElem? (i := 96) rfl), tb_1 (List.mem_of_getElem? (i := 11) rfl), by decide +kernel, by decide⟩
set_option maxRecDepth 100000 in
theorem kL_66 : xkV x.cls 66 RxM yM_telling bM_telling 3 (some .int) 2 := ⟨xk_M_telling, tb_4 (List.mem_of_getElem? (i := 93) rfl), tb_4 (List.mem_of_getElem? (i := 94) rfl), tb_4 (List.mem_of_getElem? (i := 95) rfl)⟩
set_option maxRecDepth 100000 in
theorem xk_A_found : xk yA_found bA_found 2 (some .int) 1 := ⟨tb_3 (List.mem_of_getElem? (i := 81) rfl), tb_1 (List.mem_of_getElem? (i := 1) rfl), by decide +kernel, by decide⟩
set_option maxRecDepth 100000 in
theorem kL_67 : xkV x.cls 67 RxA yA_found bA_found 2 (some .int) 1 := ⟨xk_A_found, tb_3 (List.mem_of_getElem? (i := 78) rfl), tb_3 (List.mem_of_getElem? (i := 79) rfl), tb_3 (List.mem_of_getElem? (i := 80) rfl)⟩
set_option maxRecDepth 100000 in
theorem xk_M_found : xk yM_found bM_found 2 (some .int) 1 := ⟨tb_4 (List.mem_of_getElem? (i := 100) rfl), tb_1 (List.mem_of_getElem? (i := 11) rfl), by decide +kernel, by decide⟩
set_option maxRecDepth 100000 in
theorem kL_70 : xkV x.cls 70 RxM yM_found bM_found 2 (some .int) 1 := ⟨xk_M_found, tb_4 (List.mem_of_getElem? (i := 97) rfl), tb_4 (List.mem_of_getElem? (i := 98) rfl), tb_4 (List.mem_of_getElem? (i := 99) rfl)⟩
set_option maxRecDepth 100000 in
theorem xk_A_caught : xk yA_caught bA_caught 2 (some .int) 1 := ⟨tb_3 (List.mem_of_getElem? (i := 85) rfl), tb_1 (List.mem_of_getElem? (i := 1) rfl), by decide +kernel, by decide⟩
set_option maxRecDepth 100000 in
theorem kL_71 : xkV x.cls 71 RxA yA_caught bA_caught 2 (some .int) 1 := ⟨xk_A_caught, tb_3 (List.mem_of_getElem? (i := 82) rfl), tb_3 (List.mem_of_getElem? (i := 83) rfl), tb_3 (List.mem_of_getElem? (i := 84) rfl)⟩
set_option maxRecDepth 100000 in
theorem xk_M_caught : xk yM_caught bM_caught 2 (some .int) 1 := ⟨tb_4 (List.mem_of_getElem? (i := 104) rfl), tb_1 (List.mem_of_getElem? (i := 11) rfl), by decide +kernel, by decide⟩
set_option maxRecDepth 100000 in
theorem kL_74 : xkV x.cls 74 RxM yM_caught bM_caught 2 (some .int) 1 := ⟨xk_M_caught, tb_4 (List.mem_of_getElem? (i := 101) rfl), tb_4 (List.mem_of_getElem? (i := 102) rfl), tb_4 (List.mem_of_getElem? (i := 103) rfl)⟩
set_option maxRecDepth 100000 in
theorem xk_A_count : xk yA_count bA_count 2 (some .int) 1 := ⟨tb_3 (List.mem_of_getElem? (i := 93) rfl), tb_1 (List.mem_of_getElem? (i := 1) rfl), by decide +kernel, by decide⟩
set_option maxRecDepth 100000 in
theorem kL_75 : xkV x.cls 75 RxA yA_count bA_count 2 (some .int) 1 := ⟨xk_A_count, tb_3 (List.mem_of_getElem? (i := 90) rfl), tb_3 (List.mem_of_getElem? (i := 91) rfl), tb_3 (List.mem_of_getElem? (i := 92) rfl)⟩
set_option maxRecDepth 100000 in
theorem xk_M_count : xk yM_count bM_count 4 (some .int) 1 := ⟨tb_4 (List.mem_of_getElem? (i := 108) rfl), tb_1 (List.mem_of_getElem? (i := 11) rfl), by decide +kernel, by decide⟩
set_option maxRecDepth 100000 in
theorem kL_78 : xkV x.cls 78 RxM yM_count bM_count 4 (some .int) 1 := ⟨xk_M_count, tb_4 (List.mem_of_getElem? (i := 105) rfl), tb_4 (List.mem_of_getElem? (i := 106) rfl), tb_4 (List.mem_of_getElem? (i := 107) rfl)⟩
def xg_define (N : Nat) (Rel : Nat → xS → yS → Prop) : Prop := (∀ (k : Nat) (σ : xS) (τ : yS) (a b c d : Int32), k < 512 → (d = 0 ∨ d = 1) → Rel k σ τ → ∃ (r : Int32) (σ' : xS) (τ' : yS), fA_define σ a b c d = some (r, σ') ∧ fM_define τ a b c d = some (r, τ') ∧ Rel (k + 1) σ' τ')
def xg_make (N : Nat) (Rel : Nat → xS → yS → Prop) : Prop := (∀ (k : Nat) (σ : xS) (τ : yS) (a b : Int32), k < 512 → Rel k σ τ → ∃ (r : Int32) (σ' : xS) (τ' : yS), fA_make σ a b = some (r, σ') ∧ fM_make τ a b = some (r, τ') ∧ Rel (k + 1) σ' τ')
def xg_matcher (N : Nat) (Rel : Nat → xS → yS → Prop) : Prop := (∀ (k : Nat) (σ : xS) (τ : yS) (a b : Int32), k < 512 → Rel k σ τ → ∃ (r : Int32) (σ' : xS) (τ' : yS), fA_matcher N σ a b = some (r, σ') ∧ fM_matcher N τ a b = some (r, τ') ∧ Rel (k + 1) σ' τ')
def xg_call (N : Nat) (Rel : Nat → xS → yS → Prop) : Prop := (∀ (k : Nat) (σ : xS) (τ : yS) (a b c d : Int32), k < 512 → Rel k σ τ → ∃ (r : Int64) (σ' : xS) (τ' : yS), fA_call N σ a b c d = some (r, σ') ∧ fM_call N τ a b c d = some (r, τ') ∧ Rel (k + 1) σ' τ')
def xg_when (N : Nat) (Rel : Nat → xS → yS → Prop) : Prop := (∀ (k : Nat) (σ : xS) (τ : yS), k < 512 → Rel k σ τ → ∃ (r : Int32) (σ' : xS) (τ' : yS), fA_when σ = some (r, σ') ∧ fM_when N τ = some (r, τ') ∧ Rel (k + 1) σ' τ')
def xg_answer (N : Nat) (Rel : Nat → xS → yS → Prop) : Prop := (∀ (k : Nat) (σ : xS) (τ : yS) (a b : Int32), k < 512 → Rel k σ τ → ∃ (r : Int32) (σ' : xS) (τ' : yS), fA_answer σ a b = some (r, σ') ∧ fM_answer τ a b = some (r, τ') ∧ Rel (k + 1) σ' τ')
def xg_told (N : Nat) (Rel : Nat → xS → yS → Prop) : Prop := (∀ (k : Nat) (σ : xS) (τ : yS) (a : Int32), k < 512 → Rel k σ τ → ∃ (r : Int32) (σ' : xS) (τ' : yS), fA_told σ a = some (r, σ') ∧ fM_told τ a = some (r, τ') ∧ Rel (k + 1) σ' τ')
def xg_check (N : Nat) (Rel : Nat → xS → yS → Prop) : Prop := (∀ (k : Nat) (σ : xS) (τ : yS) (a b c : Int32), k < 512 → Rel k σ τ → ∃ (r : Int32) (σ' : xS) (τ' : yS), fA_check σ a b c = some (r, σ') ∧ fM_check_I3 τ a b c = some (r, τ') ∧ Rel (k + 1) σ' τ')
def xg_noMore (N : Nat) (Rel : Nat → xS → yS → Prop) : Prop := (∀ (k : Nat) (σ : xS) (τ : yS) (a : Int32), k < 512 → Rel k σ τ → ∃ (r : Int32) (σ' : xS) (τ' : yS), fA_noMore N σ a = some (r, σ') ∧ fM_noMore N τ a = some (r, τ') ∧ Rel (k + 1) σ' τ')
def xg_restart (N : Nat) (Rel : Nat → xS → yS → Prop) : Prop := (∀ (k : Nat) (σ : xS) (τ : yS), k < 512 → Rel k σ τ → ∃ (r : Int32) (σ' : xS) (τ' : yS), fA_restart σ = some (r, σ') ∧ fM_restart τ = some (r, τ') ∧ Rel (k + 1) σ' τ')
def xg_noted (N : Nat) (Rel : Nat → xS → yS → Prop) : Prop := (∀ (k : Nat) (σ : xS) (τ : yS) (a b : Int32), k < 512 → Rel k σ τ → ∃ (r : Int32), fA_noted σ a b = some r ∧ fM_noted τ a b = some r ∧ Rel (k + 1) σ τ)
def xg_telling (N : Nat) (Rel : Nat → xS → yS → Prop) : Prop := (∀ (k : Nat) (σ : xS) (τ : yS) (a b : Int32), k < 512 → Rel k σ τ → ∃ (r : Int32), fA_telling σ a b = some r ∧ fM_telling τ a b = some r ∧ Rel (k + 1) σ τ)
def xg_found (N : Nat) (Rel : Nat → xS → yS → Prop) : Prop := (∀ (k : Nat) (σ : xS) (τ : yS) (a : Int32), k < 512 → Rel k σ τ → ∃ (r : Int32), fA_found σ a = some r ∧ fM_found τ a = some r ∧ Rel (k + 1) σ τ)
def xg_caught (N : Nat) (Rel : Nat → xS → yS → Prop) : Prop := (∀ (k : Nat) (σ : xS) (τ : yS) (a : Int32), k < 512 → Rel k σ τ → ∃ (r : Int32), fA_caught σ a = some r ∧ fM_caught τ a = some r ∧ Rel (k + 1) σ τ)
def xg_count (N : Nat) (Rel : Nat → xS → yS → Prop) : Prop := (∀ (k : Nat) (σ : xS) (τ : yS) (a : Int32), k < 512 → Rel k σ τ → ∃ (r : Int32), fA_count N σ a = some r ∧ fM_count N τ a = some r ∧ Rel (k + 1) σ τ)
def xGood (N : Nat) (Rel : Nat → xS → yS → Prop) : Prop := xg_define N Rel ∧ xg_make N Rel ∧ xg_matcher N Rel ∧ xg_call N Rel ∧ xg_when N Rel ∧ xg_answer N Rel ∧ xg_told N Rel ∧ xg_check N Rel ∧ xg_noMore N Rel ∧ xg_restart N Rel ∧ xg_noted N Rel ∧ xg_telling N Rel ∧ xg_found N Rel ∧ xg_caught N Rel ∧ xg_count N Rel ∧ (∀ (k : Nat) (σ : xS) (τ : yS), k < 512 → Rel k σ τ → Rel (k + 1) σ τ)
theorem law_in {k L j : Nat} (h : 5 * k + 5 ≤ L) {c : Int32} (hj : c = nI j ∧ j < 5) (hL : L ≤ 2560 := by assumption) : vp_in (nI (5 * k) + c) L := by
  rw [hj.1, nI_add]
  exact vp_in_nI (by omega) (by omega)
theorem lg_cmp_self {r : Int64} : lg_cmp r r = 0 := by simp [lg_cmp, Int64.lt_irrefl]
set_option maxHeartbeats 4000000 in
set_option maxRecDepth 100000 in
theorem law_define {p : Program} {l : Launch} {e : Env} {s : State} {m : MethodId} {below : List Frame} {meth : Method} {c : Code} {E : xE} {b L : Nat} {xs : Nat → Int32} (C : xC p s m #[Value.ref b] meth c room_1 E (fun q : Nat => s.heap.size ≤ q) code 4 x ret 30 607491 7279775) (hX : va_X b L xs s s.heap) (hbl : b < s.heap.size) {N k : Nat} {Rel : Nat → xS → yS → Prop} (hG : xg_define N Rel) (hk : k < 512) (hk5 : 5 * k + 5 ≤ L) (hL : L ≤ 2560) (σ : xS) (τ : yS) (hR : Rel k σ τ) (H : Heap) (locs : List Loc) (ls : Array Slot) (hw : xW E (fun q : Nat => s.heap.size ≤ q) s σ τ H locs) (hl : lv_has ls 4 [(0, .ref b), (1, .ref (E.2.2.1 0 0)), (2, .ref (E.2.2.1 30 0)), (3, .int (nI (5 * k)))])
    (kk : ∀ (σ : xS) (τ : yS), Rel (k + 1) σ τ → ∀ (H : Heap) (locs : List Loc), xW E (fun q : Nat => s.heap.size ≤ q) s σ τ H locs → W p l e room_1 s m #[Value.ref b] below meth c H locs (2000 + 2 * (k + 1)) (20000 + 10 * (k + 1)) (lw_Z below #[Value.ref b] s) (F0 m 580 ls [])) : W p l e room_1 s m #[Value.ref b] below meth c H locs (2000 + 2 * k) (20000 + 10 * k) (lw_Z below #[Value.ref b] s) (F0 m 108 ls []) := by
  have hx := C.1
  have hb := C.2.1
  have hbA : ¬ (fun q : Nat => s.heap.size ≤ q) b := Nat.not_le.mpr hbl
  have g1 : vp_in (nI (5 * k) + 1) L := law_in (j := 1) hk5 ⟨rfl, by decide⟩
  have g2 : vp_in (nI (5 * k) + 2) L := law_in (j := 2) hk5 ⟨rfl, by decide⟩
  have g3 : vp_in (nI (5 * k) + 3) L := law_in (j := 3) hk5 ⟨rfl, by decide⟩
  have g4 : vp_in (nI (5 * k) + 4) L := law_in (j := 4) hk5 ⟨rfl, by decide⟩
  by_cases hd4 : xs (nI (5 * k) + 4).toNatClampNeg = 0
  · obtain ⟨r, σ1, τ1, h1, h2, h3⟩ := hG k σ τ (xs (nI (5 * k) + 1).toNatClampNeg) (xs (nI (5 * k) + 2).toNatClampNeg) (xs (nI (5 * k) + 3).toNatClampNeg) 0 hk (Or.inl rfl) hR
    refine lv_aload_n hx hb dL_108 rfl (lv_at hl 1 rfl) ?_
    refine lv_aload_n hx hb dL_109 rfl (lv_at hl 0 rfl) ?_
    refine lv_iload_n hx hb dL_110 rfl (lv_at hl 3 rfl) ?_
    refine lv_iconst (v := 1) hx hb dL_111 (by decide) ?_
    refine lv_iadd hx hb dL_112 ?_
    refine va_sld hx hb hX hbl hbA hw.2.2.1 g1 dL_113 ?_
    refine lv_aload_n hx hb dL_114 rfl (lv_at hl 0 rfl) ?_
    refine lv_iload_n hx hb dL_115 rfl (lv_at hl 3 rfl) ?_
    refine lv_iconst (v := 2) hx hb dL_116 (by decide) ?_
    refine lv_iadd hx hb dL_117 ?_
    refine va_sld hx hb hX hbl hbA hw.2.2.1 g2 dL_118 ?_
    refine lv_aload_n hx hb dL_119 rfl (lv_at hl 0 rfl) ?_
    refine lv_iload_n hx hb dL_120 rfl (lv_at hl 3 rfl) ?_
    refine lv_iconst (v := 3) hx hb dL_121 (by decide) ?_
    refine lv_iadd hx hb dL_122 ?_
    refine va_sld hx hb hX hbl hbA hw.2.2.1 g3 dL_123 ?_
    refine lv_aload_n hx hb dL_124 rfl (lv_at hl 0 rfl) ?_
    refine lv_iload_n hx hb dL_125 rfl (lv_at hl 3 rfl) ?_
    refine lv_iconst (v := 4) hx hb dL_126 (by decide) ?_
    refine lv_iadd hx hb dL_127 ?_
    refine va_sld hx hb hX hbl hbA hw.2.2.1 g4 dL_128 ?_
    refine lv_if_eq (tgt := 136) hx hb dL_129 (by decide) (fun c9 => ?_) (fun c9 => ?_)
    rotate_left
    · exact absurd hd4 c9
    refine lv_iconst (v := 0) hx hb dL_136 (by decide) ?_
    refine x_callV (As := [.int (xs (nI (5 * k) + 1).toNatClampNeg), .int (xs (nI (5 * k) + 2).toNatClampNeg), .int (xs (nI (5 * k) + 3).toNatClampNeg), .int 0]) (rest := []) (st1 := [.int r]) C hw (cA_define l E σ τ (xs (nI (5 * k) + 1).toNatClampNeg) (xs (nI (5 * k) + 2).toNatClampNeg) (xs (nI (5 * k) + 3).toNatClampNeg) 0 (r, σ1) h1) kL_13 (x_recv C hw 0 0 at_0 rfl rfl) (by decide) rfl rfl hl.1 (lv_room (Nat.le_of_ble_eq_true rfl)) dL_137 ⟨by omega, by omega⟩ rfl (fun H locs hw => ?_)
    refine lv_aload_n hx hb dL_140 rfl (lv_at hl 2 rfl) ?_
    refine lv_aload_n hx hb dL_141 rfl (lv_at hl 0 rfl) ?_
    refine lv_iload_n hx hb dL_142 rfl (lv_at hl 3 rfl) ?_
    refine lv_iconst (v := 1) hx hb dL_143 (by decide) ?_
    refine lv_iadd hx hb dL_144 ?_
    refine va_sld hx hb hX hbl hbA hw.2.2.1 g1 dL_145 ?_
    refine lv_aload_n hx hb dL_146 rfl (lv_at hl 0 rfl) ?_
    refine lv_iload_n hx hb dL_147 rfl (lv_at hl 3 rfl) ?_
    refine lv_iconst (v := 2) hx hb dL_148 (by decide) ?_
    refine lv_iadd hx hb dL_149 ?_
    refine va_sld hx hb hX hbl hbA hw.2.2.1 g2 dL_150 ?_
    refine lv_aload_n hx hb dL_151 rfl (lv_at hl 0 rfl) ?_
    refine lv_iload_n hx hb dL_152 rfl (lv_at hl 3 rfl) ?_
    refine lv_iconst (v := 3) hx hb dL_153 (by decide) ?_
    refine lv_iadd hx hb dL_154 ?_
    refine va_sld hx hb hX hbl hbA hw.2.2.1 g3 dL_155 ?_
    refine lv_aload_n hx hb dL_156 rfl (lv_at hl 0 rfl) ?_
    refine lv_iload_n hx hb dL_157 rfl (lv_at hl 3 rfl) ?_
    refine lv_iconst (v := 4) hx hb dL_158 (by decide) ?_
    refine lv_iadd hx hb dL_159 ?_
    refine va_sld hx hb hX hbl hbA hw.2.2.1 g4 dL_160 ?_
    refine lv_if_eq (tgt := 168) hx hb dL_161 (by decide) (fun c9 => ?_) (fun c9 => ?_)
    rotate_left
    · exact absurd hd4 c9
    refine lv_iconst (v := 0) hx hb dL_168 (by decide) ?_
    refine x_callV (As := [.int (xs (nI (5 * k) + 1).toNatClampNeg), .int (xs (nI (5 * k) + 2).toNatClampNeg), .int (xs (nI (5 * k) + 3).toNatClampNeg), .int 0]) (rest := [.int r]) (st1 := [.int r, .int r]) C hw (cM_define l E τ σ1 (xs (nI (5 * k) + 1).toNatClampNeg) (xs (nI (5 * k) + 2).toNatClampNeg) (xs (nI (5 * k) + 3).toNatClampNeg) 0 (r, τ1) h2) kL_17 (x_recvY C hw 30 0 at_30 rfl rfl) (by decide) rfl rfl hl.1 (lv_room (Nat.le_of_ble_eq_true rfl)) dL_169 ⟨by omega, by omega⟩ rfl (fun H locs hw => ?_)
    refine lv_icmp_eq (tgt := 580) hx hb dL_172 (by decide) (fun c9 => ?_) (fun c9 => ?_)
    · refine W.widen (k := 2000 + 2 * (k + 1)) (n := 20000 + 10 * (k + 1)) (by omega) (by omega) ?_
      exact kk σ1 τ1 h3 H locs hw
    · exact absurd rfl c9
  · obtain ⟨r, σ1, τ1, h1, h2, h3⟩ := hG k σ τ (xs (nI (5 * k) + 1).toNatClampNeg) (xs (nI (5 * k) + 2).toNatClampNeg) (xs (nI (5 * k) + 3).toNatClampNeg) 1 hk (Or.inr rfl) hR
    refine lv_aload_n hx hb dL_108 rfl (lv_at hl 1 rfl) ?_
    refine lv_aload_n hx hb dL_109 rfl (lv_at hl 0 rfl) ?_
    refine lv_iload_n hx hb dL_110 rfl (lv_at hl 3 rfl) ?_
    refine lv_iconst (v := 1) hx hb dL_111 (by decide) ?_
    refine lv_iadd hx hb dL_112 ?_
    refine va_sld hx hb hX hbl hbA hw.2.2.1 g1 dL_113 ?_
    refine lv_aload_n hx hb dL_114 rfl (lv_at hl 0 rfl) ?_
    refine lv_iload_n hx hb dL_115 rfl (lv_at hl 3 rfl) ?_
    refine lv_iconst (v := 2) hx hb dL_116 (by decide) ?_
    refine lv_iadd hx hb dL_117 ?_
    refine va_sld hx hb hX hbl hbA hw.2.2.1 g2 dL_118 ?_
    refine lv_aload_n hx hb dL_119 rfl (lv_at hl 0 rfl) ?_
    refine lv_iload_n hx hb dL_120 rfl (lv_at hl 3 rfl) ?_
    refine lv_iconst (v := 3) hx hb dL_121 (by decide) ?_
    refine lv_iadd hx hb dL_122 ?_
    refine va_sld hx hb hX hbl hbA hw.2.2.1 g3 dL_123 ?_
    refine lv_aload_n hx hb dL_124 rfl (lv_at hl 0 rfl) ?_
    refine lv_iload_n hx hb dL_125 rfl (lv_at hl 3 rfl) ?_
    refine lv_iconst (v := 4) hx hb dL_126 (by decide) ?_
    refine lv_iadd hx hb dL_127 ?_
    refine va_sld hx hb hX hbl hbA hw.2.2.1 g4 dL_128 ?_
    refine lv_if_eq (tgt := 136) hx hb dL_129 (by decide) (fun c9 => ?_) (fun c9 => ?_)
    · exact absurd c9 hd4
    refine lv_iconst (v := 1) hx hb dL_132 (by decide) ?_
    refine lv_goto (tgt := 137) hx hb dL_133 (by decide) ?_
    refine x_callV (As := [.int (xs (nI (5 * k) + 1).toNatClampNeg), .int (xs (nI (5 * k) + 2).toNatClampNeg), .int (xs (nI (5 * k) + 3).toNatClampNeg), .int 1]) (rest := []) (st1 := [.int r]) C hw (cA_define l E σ τ (xs (nI (5 * k) + 1).toNatClampNeg) (xs (nI (5 * k) + 2).toNatClampNeg) (xs (nI (5 * k) + 3).toNatClampNeg) 1 (r, σ1) h1) kL_13 (x_recv C hw 0 0 at_0 rfl rfl) (by decide) rfl rfl hl.1 (lv_room (Nat.le_of_ble_eq_true rfl)) dL_137 ⟨by omega, by omega⟩ rfl (fun H locs hw => ?_)
    refine lv_aload_n hx hb dL_140 rfl (lv_at hl 2 rfl) ?_
    refine lv_aload_n hx hb dL_141 rfl (lv_at hl 0 rfl) ?_
    refine lv_iload_n hx hb dL_142 rfl (lv_at hl 3 rfl) ?_
    refine lv_iconst (v := 1) hx hb dL_143 (by decide) ?_
    refine lv_iadd hx hb dL_144 ?_
    refine va_sld hx hb hX hbl hbA hw.2.2.1 g1 dL_145 ?_
    refine lv_aload_n hx hb dL_146 rfl (lv_at hl 0 rfl) ?_
    refine lv_iload_n hx hb dL_147 rfl (lv_at hl 3 rfl) ?_
    refine lv_iconst (v := 2) hx hb dL_148 (by decide) ?_
    refine lv_iadd hx hb dL_149 ?_
    refine va_sld hx hb hX hbl hbA hw.2.2.1 g2 dL_150 ?_
    refine lv_aload_n hx hb dL_151 rfl (lv_at hl 0 rfl) ?_
    refine lv_iload_n hx hb dL_152 rfl (lv_at hl 3 rfl) ?_
    refine lv_iconst (v := 3) hx hb dL_153 (by decide) ?_
    refine lv_iadd hx hb dL_154 ?_
    refine va_sld hx hb hX hbl hbA hw.2.2.1 g3 dL_155 ?_
    refine lv_aload_n hx hb dL_156 rfl (lv_at hl 0 rfl) ?_
    refine lv_iload_n hx hb dL_157 rfl (lv_at hl 3 rfl) ?_
    refine lv_iconst (v := 4) hx hb dL_158 (by decide) ?_
    refine lv_iadd hx hb dL_159 ?_
    refine va_sld hx hb hX hbl hbA hw.2.2.1 g4 dL_160 ?_
    refine lv_if_eq (tgt := 168) hx hb dL_161 (by decide) (fun c9 => ?_) (fun c9 => ?_)
    · exact absurd c9 hd4
    refine lv_iconst (v := 1) hx hb dL_164 (by decide) ?_
    refine lv_goto (tgt := 169) hx hb dL_165 (by decide) ?_
    refine x_callV (As := [.int (xs (nI (5 * k) + 1).toNatClampNeg), .int (xs (nI (5 * k) + 2).toNatClampNeg), .int (xs (nI (5 * k) + 3).toNatClampNeg), .int 1]) (rest := [.int r]) (st1 := [.int r, .int r]) C hw (cM_define l E τ σ1 (xs (nI (5 * k) + 1).toNatClampNeg) (xs (nI (5 * k) + 2).toNatClampNeg) (xs (nI (5 * k) + 3).toNatClampNeg) 1 (r, τ1) h2) kL_17 (x_recvY C hw 30 0 at_30 rfl rfl) (by decide) rfl rfl hl.1 (lv_room (Nat.le_of_ble_eq_true rfl)) dL_169 ⟨by omega, by omega⟩ rfl (fun H locs hw => ?_)
    refine lv_icmp_eq (tgt := 580) hx hb dL_172 (by decide) (fun c9 => ?_) (fun c9 => ?_)
    · refine W.widen (k := 2000 + 2 * (k + 1)) (n := 20000 + 10 * (k + 1)) (by omega) (by omega) ?_
      exact kk σ1 τ1 h3 H locs hw
    · exact absurd rfl c9
set_option maxHeartbeats 4000000 in
set_option maxRecDepth 100000 in
theorem law_make {p : Program} {l : Launch} {e : Env} {s : State} {m : MethodId} {below : List Frame} {meth : Method} {c : Code} {E : xE} {b L : Nat} {xs : Nat → Int32} (C : xC p s m #[Value.ref b] meth c room_1 E (fun q : Nat => s.heap.size ≤ q) code 4 x ret 30 607491 7279775) (hX : va_X b L xs s s.heap) (hbl : b < s.heap.size) {N k : Nat} {Rel : Nat → xS → yS → Prop} (hG : xg_make N Rel) (hk : k < 512) (hk5 : 5 * k + 5 ≤ L) (hL : L ≤ 2560) (σ : xS) (τ : yS) (hR : Rel k σ τ) (H : Heap) (locs : List Loc) (ls : Array Slot) (hw : xW E (fun q : Nat => s.heap.size ≤ q) s σ τ H locs) (hl : lv_has ls 4 [(0, .ref b), (1, .ref (E.2.2.1 0 0)), (2, .ref (E.2.2.1 30 0)), (3, .int (nI (5 * k)))])
    (kk : ∀ (σ : xS) (τ : yS), Rel (k + 1) σ τ → ∀ (H : Heap) (locs : List Loc), xW E (fun q : Nat => s.heap.size ≤ q) s σ τ H locs → W p l e room_1 s m #[Value.ref b] below meth c H locs (2000 + 2 * (k + 1)) (20000 + 10 * (k + 1)) (lw_Z below #[Value.ref b] s) (F0 m 580 ls [])) : W p l e room_1 s m #[Value.ref b] below meth c H locs (2000 + 2 * k) (20000 + 10 * k) (lw_Z below #[Value.ref b] s) (F0 m 177 ls []) := by
  have hx := C.1
  have hb := C.2.1
  have hbA : ¬ (fun q : Nat => s.heap.size ≤ q) b := Nat.not_le.mpr hbl
  have g1 : vp_in (nI (5 * k) + 1) L := law_in (j := 1) hk5 ⟨rfl, by decide⟩
  have g2 : vp_in (nI (5 * k) + 2) L := law_in (j := 2) hk5 ⟨rfl, by decide⟩
  obtain ⟨r, σ1, τ1, h1, h2, h3⟩ := hG k σ τ (xs (nI (5 * k) + 1).toNatClampNeg) (xs (nI (5 * k) + 2).toNatClampNeg) hk hR
  refine lv_aload_n hx hb dL_177 rfl (lv_at hl 1 rfl) ?_
  refine lv_aload_n hx hb dL_178 rfl (lv_at hl 0 rfl) ?_
  refine lv_iload_n hx hb dL_179 rfl (lv_at hl 3 rfl) ?_
  refine lv_iconst (v := 1) hx hb dL_180 (by decide) ?_
  refine lv_iadd hx hb dL_181 ?_
  refine va_sld hx hb hX hbl hbA hw.2.2.1 g1 dL_182 ?_
  refine lv_aload_n hx hb dL_183 rfl (lv_at hl 0 rfl) ?_
  refine lv_iload_n hx hb dL_184 rfl (lv_at hl 3 rfl) ?_
  refine lv_iconst (v := 2) hx hb dL_185 (by decide) ?_
  refine lv_iadd hx hb dL_186 ?_
  refine va_sld hx hb hX hbl hbA hw.2.2.1 g2 dL_187 ?_
  refine x_callV (As := [.int (xs (nI (5 * k) + 1).toNatClampNeg), .int (xs (nI (5 * k) + 2).toNatClampNeg)]) (rest := []) (st1 := [.int r]) C hw (cA_make l E σ τ (xs (nI (5 * k) + 1).toNatClampNeg) (xs (nI (5 * k) + 2).toNatClampNeg) (r, σ1) h1) kL_18 (x_recv C hw 0 0 at_0 rfl rfl) (by decide) rfl rfl hl.1 (lv_room (Nat.le_of_ble_eq_true rfl)) dL_188 ⟨by omega, by omega⟩ rfl (fun H locs hw => ?_)
  refine lv_aload_n hx hb dL_191 rfl (lv_at hl 2 rfl) ?_
  refine lv_aload_n hx hb dL_192 rfl (lv_at hl 0 rfl) ?_
  refine lv_iload_n hx hb dL_193 rfl (lv_at hl 3 rfl) ?_
  refine lv_iconst (v := 1) hx hb dL_194 (by decide) ?_
  refine lv_iadd hx hb dL_195 ?_
  refine va_sld hx hb hX hbl hbA hw.2.2.1 g1 dL_196 ?_
  refine lv_aload_n hx hb dL_197 rfl (lv_at hl 0 rfl) ?_
  refine lv_iload_n hx hb dL_198 rfl (lv_at hl 3 rfl) ?_
  refine lv_iconst (v := 2) hx hb dL_199 (by decide) ?_
  refine lv_iadd hx hb dL_200 ?_
  refine va_sld hx hb hX hbl hbA hw.2.2.1 g2 dL_201 ?_
  refine x_callV (As := [.int (xs (nI (5 * k) + 1).toNatClampNeg), .int (xs (nI (5 * k) + 2).toNatClampNeg)]) (rest := [.int r]) (st1 := [.int r, .int r]) C hw (cM_make l E τ σ1 (xs (nI (5 * k) + 1).toNatClampNeg) (xs (nI (5 * k) + 2).toNatClampNeg) (r, τ1) h2) kL_22 (x_recvY C hw 30 0 at_30 rfl rfl) (by decide) rfl rfl hl.1 (lv_room (Nat.le_of_ble_eq_true rfl)) dL_202 ⟨by omega, by omega⟩ rfl (fun H locs hw => ?_)
  refine lv_icmp_eq (tgt := 580) hx hb dL_205 (by decide) (fun c9 => ?_) (fun c9 => ?_)
  · refine W.widen (k := 2000 + 2 * (k + 1)) (n := 20000 + 10 * (k + 1)) (by omega) (by omega) ?_
    exact kk σ1 τ1 h3 H locs hw
  · exact absurd rfl c9
set_option maxHeartbeats 4000000 in
set_option maxRecDepth 100000 in
theorem law_matcher {p : Program} {l : Launch} {e : Env} {s : State} {m : MethodId} {below : List Frame} {meth : Method} {c : Code} {E : xE} {b L : Nat} {xs : Nat → Int32} (C : xC p s m #[Value.ref b] meth c room_1 E (fun q : Nat => s.heap.size ≤ q) code 4 x ret 30 607491 7279775) (hX : va_X b L xs s s.heap) (hbl : b < s.heap.size) {N k : Nat} {Rel : Nat → xS → yS → Prop} (hG : xg_matcher N Rel) (hk : k < 512) (hk5 : 5 * k + 5 ≤ L) (hL : L ≤ 2560) (σ : xS) (τ : yS) (hR : Rel k σ τ) (H : Heap) (locs : List Loc) (ls : Array Slot) (hw : xW E (fun q : Nat => s.heap.size ≤ q) s σ τ H locs) (hl : lv_has ls 4 [(0, .ref b), (1, .ref (E.2.2.1 0 0)), (2, .ref (E.2.2.1 30 0)), (3, .int (nI (5 * k)))])
    (kk : ∀ (σ : xS) (τ : yS), Rel (k + 1) σ τ → ∀ (H : Heap) (locs : List Loc), xW E (fun q : Nat => s.heap.size ≤ q) s σ τ H locs → W p l e room_1 s m #[Value.ref b] below meth c H locs (2000 + 2 * (k + 1)) (20000 + 10 * (k + 1)) (lw_Z below #[Value.ref b] s) (F0 m 580 ls [])) : W p l e room_1 s m #[Value.ref b] below meth c H locs (2000 + 2 * k) (20000 + 10 * k) (lw_Z below #[Value.ref b] s) (F0 m 210 ls []) := by
  have hx := C.1
  have hb := C.2.1
  have hbA : ¬ (fun q : Nat => s.heap.size ≤ q) b := Nat.not_le.mpr hbl
  have g1 : vp_in (nI (5 * k) + 1) L := law_in (j := 1) hk5 ⟨rfl, by decide⟩
  have g2 : vp_in (nI (5 * k) + 2) L := law_in (j := 2) hk5 ⟨rfl, by decide⟩
  obtain ⟨r, σ1, τ1, h1, h2, h3⟩ := hG k σ τ (xs (nI (5 * k) + 1).toNatClampNeg) (xs (nI (5 * k) + 2).toNatClampNeg) hk hR
  refine lv_aload_n hx hb dL_210 rfl (lv_at hl 1 rfl) ?_
  refine lv_aload_n hx hb dL_211 rfl (lv_at hl 0 rfl) ?_
  refine lv_iload_n hx hb dL_212 rfl (lv_at hl 3 rfl) ?_
  refine lv_iconst (v := 1) hx hb dL_213 (by decide) ?_
  refine lv_iadd hx hb dL_214 ?_
  refine va_sld hx hb hX hbl hbA hw.2.2.1 g1 dL_215 ?_
  refine lv_aload_n hx hb dL_216 rfl (lv_at hl 0 rfl) ?_
  refine lv_iload_n hx hb dL_217 rfl (lv_at hl 3 rfl) ?_
  refine lv_iconst (v := 2) hx hb dL_218 (by decide) ?_
  refine lv_iadd hx hb dL_219 ?_
  refine va_sld hx hb hX hbl hbA hw.2.2.1 g2 dL_220 ?_
  refine x_callV (As := [.int (xs (nI (5 * k) + 1).toNatClampNeg), .int (xs (nI (5 * k) + 2).toNatClampNeg)]) (rest := []) (st1 := [.int r]) C hw (cA_matcher l E N σ τ (xs (nI (5 * k) + 1).toNatClampNeg) (xs (nI (5 * k) + 2).toNatClampNeg) (r, σ1) h1) kL_23 (x_recv C hw 0 0 at_0 rfl rfl) (by decide) rfl rfl hl.1 (lv_room (Nat.le_of_ble_eq_true rfl)) dL_221 ⟨by omega, by omega⟩ rfl (fun H locs hw => ?_)
  refine lv_aload_n hx hb dL_224 rfl (lv_at hl 2 rfl) ?_
  refine lv_aload_n hx hb dL_225 rfl (lv_at hl 0 rfl) ?_
  refine lv_iload_n hx hb dL_226 rfl (lv_at hl 3 rfl) ?_
  refine lv_iconst (v := 1) hx hb dL_227 (by decide) ?_
  refine lv_iadd hx hb dL_228 ?_
  refine va_sld hx hb hX hbl hbA hw.2.2.1 g1 dL_229 ?_
  refine lv_aload_n hx hb dL_230 rfl (lv_at hl 0 rfl) ?_
  refine lv_iload_n hx hb dL_231 rfl (lv_at hl 3 rfl) ?_
  refine lv_iconst (v := 2) hx hb dL_232 (by decide) ?_
  refine lv_iadd hx hb dL_233 ?_
  refine va_sld hx hb hX hbl hbA hw.2.2.1 g2 dL_234 ?_
  refine x_callV (As := [.int (xs (nI (5 * k) + 1).toNatClampNeg), .int (xs (nI (5 * k) + 2).toNatClampNeg)]) (rest := [.int r]) (st1 := [.int r, .int r]) C hw (cM_matcher l E N τ σ1 (xs (nI (5 * k) + 1).toNatClampNeg) (xs (nI (5 * k) + 2).toNatClampNeg) (r, τ1) h2) kL_26 (x_recvY C hw 30 0 at_30 rfl rfl) (by decide) rfl rfl hl.1 (lv_room (Nat.le_of_ble_eq_true rfl)) dL_235 ⟨by omega, by omega⟩ rfl (fun H locs hw => ?_)
  refine lv_icmp_eq (tgt := 580) hx hb dL_238 (by decide) (fun c9 => ?_) (fun c9 => ?_)
  · refine W.widen (k := 2000 + 2 * (k + 1)) (n := 20000 + 10 * (k + 1)) (by omega) (by omega) ?_
    exact kk σ1 τ1 h3 H locs hw
  · exact absurd rfl c9
set_option maxHeartbeats 4000000 in
set_option maxRecDepth 100000 in
theorem law_call {p : Program} {l : Launch} {e : Env} {s : State} {m : MethodId} {below : List Frame} {meth : Method} {c : Code} {E : xE} {b L : Nat} {xs : Nat → Int32} (C : xC p s m #[Value.ref b] meth c room_1 E (fun q : Nat => s.heap.size ≤ q) code 4 x ret 30 607491 7279775) (hX : va_X b L xs s s.heap) (hbl : b < s.heap.size) {N k : Nat} {Rel : Nat → xS → yS → Prop} (hG : xg_call N Rel) (hk : k < 512) (hk5 : 5 * k + 5 ≤ L) (hL : L ≤ 2560) (σ : xS) (τ : yS) (hR : Rel k σ τ) (H : Heap) (locs : List Loc) (ls : Array Slot) (hw : xW E (fun q : Nat => s.heap.size ≤ q) s σ τ H locs) (hl : lv_has ls 4 [(0, .ref b), (1, .ref (E.2.2.1 0 0)), (2, .ref (E.2.2.1 30 0)), (3, .int (nI (5 * k)))])
    (kk : ∀ (σ : xS) (τ : yS), Rel (k + 1) σ τ → ∀ (H : Heap) (locs : List Loc), xW E (fun q : Nat => s.heap.size ≤ q) s σ τ H locs → W p l e room_1 s m #[Value.ref b] below meth c H locs (2000 + 2 * (k + 1)) (20000 + 10 * (k + 1)) (lw_Z below #[Value.ref b] s) (F0 m 580 ls [])) : W p l e room_1 s m #[Value.ref b] below meth c H locs (2000 + 2 * k) (20000 + 10 * k) (lw_Z below #[Value.ref b] s) (F0 m 243 ls []) := by
  have hx := C.1
  have hb := C.2.1
  have hbA : ¬ (fun q : Nat => s.heap.size ≤ q) b := Nat.not_le.mpr hbl
  have g1 : vp_in (nI (5 * k) + 1) L := law_in (j := 1) hk5 ⟨rfl, by decide⟩
  have g2 : vp_in (nI (5 * k) + 2) L := law_in (j := 2) hk5 ⟨rfl, by decide⟩
  have g3 : vp_in (nI (5 * k) + 3) L := law_in (j := 3) hk5 ⟨rfl, by decide⟩
  have g4 : vp_in (nI (5 * k) + 4) L := law_in (j := 4) hk5 ⟨rfl, by decide⟩
  obtain ⟨r, σ1, τ1, h1, h2, h3⟩ := hG k σ τ (xs (nI (5 * k) + 1).toNatClampNeg) (xs (nI (5 * k) + 2).toNatClampNeg) (xs (nI (5 * k) + 3).toNatClampNeg) (xs (nI (5 * k) + 4).toNatClampNeg) hk hR
  refine lv_aload_n hx hb dL_243 rfl (lv_at hl 1 rfl) ?_
  refine lv_aload_n hx hb dL_244 rfl (lv_at hl 0 rfl) ?_
  refine lv_iload_n hx hb dL_245 rfl (lv_at hl 3 rfl) ?_
  refine lv_iconst (v := 1) hx hb dL_246 (by decide) ?_
  refine lv_iadd hx hb dL_247 ?_
  refine va_sld hx hb hX hbl hbA hw.2.2.1 g1 dL_248 ?_
  refine lv_aload_n hx hb dL_249 rfl (lv_at hl 0 rfl) ?_
  refine lv_iload_n hx hb dL_250 rfl (lv_at hl 3 rfl) ?_
  refine lv_iconst (v := 2) hx hb dL_251 (by decide) ?_
  refine lv_iadd hx hb dL_252 ?_
  refine va_sld hx hb hX hbl hbA hw.2.2.1 g2 dL_253 ?_
  refine lv_aload_n hx hb dL_254 rfl (lv_at hl 0 rfl) ?_
  refine lv_iload_n hx hb dL_255 rfl (lv_at hl 3 rfl) ?_
  refine lv_iconst (v := 3) hx hb dL_256 (by decide) ?_
  refine lv_iadd hx hb dL_257 ?_
  refine va_sld hx hb hX hbl hbA hw.2.2.1 g3 dL_258 ?_
  refine lv_aload_n hx hb dL_259 rfl (lv_at hl 0 rfl) ?_
  refine lv_iload_n hx hb dL_260 rfl (lv_at hl 3 rfl) ?_
  refine lv_iconst (v := 4) hx hb dL_261 (by decide) ?_
  refine lv_iadd hx hb dL_262 ?_
  refine va_sld hx hb hX hbl hbA hw.2.2.1 g4 dL_263 ?_
  refine x_callV (As := [.int (xs (nI (5 * k) + 1).toNatClampNeg), .int (xs (nI (5 * k) + 2).toNatClampNeg), .int (xs (nI (5 * k) + 3).toNatClampNeg), .int (xs (nI (5 * k) + 4).toNatClampNeg)]) (rest := []) (st1 := [.long r]) C hw (cA_call l E N σ τ (xs (nI (5 * k) + 1).toNatClampNeg) (xs (nI (5 * k) + 2).toNatClampNeg) (xs (nI (5 * k) + 3).toNatClampNeg) (xs (nI (5 * k) + 4).toNatClampNeg) (r, σ1) h1) kL_27 (x_recv C hw 0 0 at_0 rfl rfl) (by decide) rfl rfl hl.1 (lv_room (Nat.le_of_ble_eq_true rfl)) dL_264 ⟨by omega, by omega⟩ rfl (fun H locs hw => ?_)
  refine lv_aload_n hx hb dL_267 rfl (lv_at hl 2 rfl) ?_
  refine lv_aload_n hx hb dL_268 rfl (lv_at hl 0 rfl) ?_
  refine lv_iload_n hx hb dL_269 rfl (lv_at hl 3 rfl) ?_
  refine lv_iconst (v := 1) hx hb dL_270 (by decide) ?_
  refine lv_iadd hx hb dL_271 ?_
  refine va_sld hx hb hX hbl hbA hw.2.2.1 g1 dL_272 ?_
  refine lv_aload_n hx hb dL_273 rfl (lv_at hl 0 rfl) ?_
  refine lv_iload_n hx hb dL_274 rfl (lv_at hl 3 rfl) ?_
  refine lv_iconst (v := 2) hx hb dL_275 (by decide) ?_
  refine lv_iadd hx hb dL_276 ?_
  refine va_sld hx hb hX hbl hbA hw.2.2.1 g2 dL_277 ?_
  refine lv_aload_n hx hb dL_278 rfl (lv_at hl 0 rfl) ?_
  refine lv_iload_n hx hb dL_279 rfl (lv_at hl 3 rfl) ?_
  refine lv_iconst (v := 3) hx hb dL_280 (by decide) ?_
  refine lv_iadd hx hb dL_281 ?_
  refine va_sld hx hb hX hbl hbA hw.2.2.1 g3 dL_282 ?_
  refine lv_aload_n hx hb dL_283 rfl (lv_at hl 0 rfl) ?_
  refine lv_iload_n hx hb dL_284 rfl (lv_at hl 3 rfl) ?_
  refine lv_iconst (v := 4) hx hb dL_285 (by decide) ?_
  refine lv_iadd hx hb dL_286 ?_
  refine va_sld hx hb hX hbl hbA hw.2.2.1 g4 dL_287 ?_
  refine x_callV (As := [.int (xs (nI (5 * k) + 1).toNatClampNeg), .int (xs (nI (5 * k) + 2).toNatClampNeg), .int (xs (nI (5 * k) + 3).toNatClampNeg), .int (xs (nI (5 * k) + 4).toNatClampNeg)]) (rest := [.long r]) (st1 := [.long r, .long r]) C hw (cM_call l E N τ σ1 (xs (nI (5 * k) + 1).toNatClampNeg) (xs (nI (5 * k) + 2).toNatClampNeg) (xs (nI (5 * k) + 3).toNatClampNeg) (xs (nI (5 * k) + 4).toNatClampNeg) (r, τ1) h2) kL_31 (x_recvY C hw 30 0 at_30 rfl rfl) (by decide) rfl rfl hl.1 (lv_room (Nat.le_of_ble_eq_true rfl)) dL_288 ⟨by omega, by omega⟩ rfl (fun H locs hw => ?_)
  refine W.lcmp hx hb dL_291 ?_
  refine lv_if_eq (tgt := 580) hx hb dL_292 (by decide) (fun c9 => ?_) (fun c9 => ?_)
  · refine W.widen (k := 2000 + 2 * (k + 1)) (n := 20000 + 10 * (k + 1)) (by omega) (by omega) ?_
    exact kk σ1 τ1 h3 H locs hw
  · exact absurd lg_cmp_self c9
set_option maxHeartbeats 4000000 in
set_option maxRecDepth 100000 in
theorem law_when {p : Program} {l : Launch} {e : Env} {s : State} {m : MethodId} {below : List Frame} {meth : Method} {c : Code} {E : xE} {b L : Nat} {xs : Nat → Int32} (C : xC p s m #[Value.ref b] meth c room_1 E (fun q : Nat => s.heap.size ≤ q) code 4 x ret 30 607491 7279775) (hX : va_X b L xs s s.heap) (hbl : b < s.heap.size) {N k : Nat} {Rel : Nat → xS → yS → Prop} (hG : xg_when N Rel) (hk : k < 512) (hk5 : 5 * k + 5 ≤ L) (hL : L ≤ 2560) (σ : xS) (τ : yS) (hR : Rel k σ τ) (H : Heap) (locs : List Loc) (ls : Array Slot) (hw : xW E (fun q : Nat => s.heap.size ≤ q) s σ τ H locs) (hl : lv_has ls 4 [(0, .ref b), (1, .ref (E.2.2.1 0 0)), (2, .ref (E.2.2.1 30 0)), (3, .int (nI (5 * k)))])
    (kk : ∀ (σ : xS) (τ : yS), Rel (k + 1) σ τ → ∀ (H : Heap) (locs : List Loc), xW E (fun q : Nat => s.heap.size ≤ q) s σ τ H locs → W p l e room_1 s m #[Value.ref b] below meth c H locs (2000 + 2 * (k + 1)) (20000 + 10 * (k + 1)) (lw_Z below #[Value.ref b] s) (F0 m 580 ls [])) : W p l e room_1 s m #[Value.ref b] below meth c H locs (2000 + 2 * k) (20000 + 10 * k) (lw_Z below #[Value.ref b] s) (F0 m 297 ls []) := by
  have hx := C.1
  have hb := C.2.1
  have hbA : ¬ (fun q : Nat => s.heap.size ≤ q) b := Nat.not_le.mpr hbl
  obtain ⟨r, σ1, τ1, h1, h2, h3⟩ := hG k σ τ hk hR
  refine lv_aload_n hx hb dL_297 rfl (lv_at hl 1 rfl) ?_
  refine x_callV (As := []) (rest := []) (st1 := [.int r]) C hw (cA_when l E σ τ (r, σ1) h1) kL_32 (x_recv C hw 0 0 at_0 rfl rfl) (by decide) rfl rfl hl.1 (lv_room (Nat.le_of_ble_eq_true rfl)) dL_298 ⟨by omega, by omega⟩ rfl (fun H locs hw => ?_)
  refine lv_aload_n hx hb dL_301 rfl (lv_at hl 2 rfl) ?_
  refine x_callV (As := []) (rest := [.int r]) (st1 := [.int r, .int r]) C hw (cM_when l E N τ σ1 (r, τ1) h2) kL_36 (x_recvY C hw 30 0 at_30 rfl rfl) (by decide) rfl rfl hl.1 (lv_room (Nat.le_of_ble_eq_true rfl)) dL_302 ⟨by omega, by omega⟩ rfl (fun H locs hw => ?_)
  refine lv_icmp_eq (tgt := 580) hx hb dL_305 (by decide) (fun c9 => ?_) (fun c9 => ?_)
  · refine W.widen (k := 2000 + 2 * (k + 1)) (n := 20000 + 10 * (k + 1)) (by omega) (by omega) ?_
    exact kk σ1 τ1 h3 H locs hw
  · exact absurd rfl c9
set_option maxHeartbeats 4000000 in
set_option maxRecDepth 100000 in
theorem law_answer {p : Program} {l : Launch} {e : Env} {s : State} {m : MethodId} {below : List Frame} {meth : Method} {c : Code} {E : xE} {b L : Nat} {xs : Nat → Int32} (C : xC p s m #[Value.ref b] meth c room_1 E (fun q : Nat => s.heap.size ≤ q) code 4 x ret 30 607491 7279775) (hX : va_X b L xs s s.heap) (hbl : b < s.heap.size) {N k : Nat} {Rel : Nat → xS → yS → Prop} (hG : xg_answer N Rel) (hk : k < 512) (hk5 : 5 * k + 5 ≤ L) (hL : L ≤ 2560) (σ : xS) (τ : yS) (hR : Rel k σ τ) (H : Heap) (locs : List Loc) (ls : Array Slot) (hw : xW E (fun q : Nat => s.heap.size ≤ q) s σ τ H locs) (hl : lv_has ls 4 [(0, .ref b), (1, .ref (E.2.2.1 0 0)), (2, .ref (E.2.2.1 30 0)), (3, .int (nI (5 * k)))])
    (kk : ∀ (σ : xS) (τ : yS), Rel (k + 1) σ τ → ∀ (H : Heap) (locs : List Loc), xW E (fun q : Nat => s.heap.size ≤ q) s σ τ H locs → W p l e room_1 s m #[Value.ref b] below meth c H locs (2000 + 2 * (k + 1)) (20000 + 10 * (k + 1)) (lw_Z below #[Value.ref b] s) (F0 m 580 ls [])) : W p l e room_1 s m #[Value.ref b] below meth c H locs (2000 + 2 * k) (20000 + 10 * k) (lw_Z below #[Value.ref b] s) (F0 m 310 ls []) := by
  have hx := C.1
  have hb := C.2.1
  have hbA : ¬ (fun q : Nat => s.heap.size ≤ q) b := Nat.not_le.mpr hbl
  have g1 : vp_in (nI (5 * k) + 1) L := law_in (j := 1) hk5 ⟨rfl, by decide⟩
  have g2 : vp_in (nI (5 * k) + 2) L := law_in (j := 2) hk5 ⟨rfl, by decide⟩
  obtain ⟨r, σ1, τ1, h1, h2, h3⟩ := hG k σ τ (xs (nI (5 * k) + 1).toNatClampNeg) (xs (nI (5 * k) + 2).toNatClampNeg) hk hR
  refine lv_aload_n hx hb dL_310 rfl (lv_at hl 1 rfl) ?_
  refine lv_aload_n hx hb dL_311 rfl (lv_at hl 0 rfl) ?_
  refine lv_iload_n hx hb dL_312 rfl (lv_at hl 3 rfl) ?_
  refine lv_iconst (v := 1) hx hb dL_313 (by decide) ?_
  refine lv_iadd hx hb dL_314 ?_
  refine va_sld hx hb hX hbl hbA hw.2.2.1 g1 dL_315 ?_
  refine lv_aload_n hx hb dL_316 rfl (lv_at hl 0 rfl) ?_
  refine lv_iload_n hx hb dL_317 rfl (lv_at hl 3 rfl) ?_
  refine lv_iconst (v := 2) hx hb dL_318 (by decide) ?_
  refine lv_iadd hx hb dL_319 ?_
  refine va_sld hx hb hX hbl hbA hw.2.2.1 g2 dL_320 ?_
  refine x_callV (As := [.int (xs (nI (5 * k) + 1).toNatClampNeg), .int (xs (nI (5 * k) + 2).toNatClampNeg)]) (rest := []) (st1 := [.int r]) C hw (cA_answer l E σ τ (xs (nI (5 * k) + 1).toNatClampNeg) (xs (nI (5 * k) + 2).toNatClampNeg) (r, σ1) h1) kL_37 (x_recv C hw 0 0 at_0 rfl rfl) (by decide) rfl rfl hl.1 (lv_room (Nat.le_of_ble_eq_true rfl)) dL_321 ⟨by omega, by omega⟩ rfl (fun H locs hw => ?_)
  refine lv_aload_n hx hb dL_324 rfl (lv_at hl 2 rfl) ?_
  refine lv_aload_n hx hb dL_325 rfl (lv_at hl 0 rfl) ?_
  refine lv_iload_n hx hb dL_326 rfl (lv_at hl 3 rfl) ?_
  refine lv_iconst (v := 1) hx hb dL_327 (by decide) ?_
  refine lv_iadd hx hb dL_328 ?_
  refine va_sld hx hb hX hbl hbA hw.2.2.1 g1 dL_329 ?_
  refine lv_aload_n hx hb dL_330 rfl (lv_at hl 0 rfl) ?_
  refine lv_iload_n hx hb dL_331 rfl (lv_at hl 3 rfl) ?_
  refine lv_iconst (v := 2) hx hb dL_332 (by decide) ?_
  refine lv_iadd hx hb dL_333 ?_
  refine va_sld hx hb hX hbl hbA hw.2.2.1 g2 dL_334 ?_
  refine x_callV (As := [.int (xs (nI (5 * k) + 1).toNatClampNeg), .int (xs (nI (5 * k) + 2).toNatClampNeg)]) (rest := [.int r]) (st1 := [.int r, .int r]) C hw (cM_answer l E τ σ1 (xs (nI (5 * k) + 1).toNatClampNeg) (xs (nI (5 * k) + 2).toNatClampNeg) (r, τ1) h2) kL_40 (x_recvY C hw 30 0 at_30 rfl rfl) (by decide) rfl rfl hl.1 (lv_room (Nat.le_of_ble_eq_true rfl)) dL_335 ⟨by omega, by omega⟩ rfl (fun H locs hw => ?_)
  refine lv_icmp_eq (tgt := 580) hx hb dL_338 (by decide) (fun c9 => ?_) (fun c9 => ?_)
  · refine W.widen (k := 2000 + 2 * (k + 1)) (n := 20000 + 10 * (k + 1)) (by omega) (by omega) ?_
    exact kk σ1 τ1 h3 H locs hw
  · exact absurd rfl c9
set_option maxHeartbeats 4000000 in
set_option maxRecDepth 100000 in
theorem law_told {p : Program} {l : Launch} {e : Env} {s : State} {m : MethodId} {below : List Frame} {meth : Method} {c : Code} {E : xE} {b L : Nat} {xs : Nat → Int32} (C : xC p s m #[Value.ref b] meth c room_1 E (fun q : Nat => s.heap.size ≤ q) code 4 x ret 30 607491 7279775) (hX : va_X b L xs s s.heap) (hbl : b < s.heap.size) {N k : Nat} {Rel : Nat → xS → yS → Prop} (hG : xg_told N Rel) (hk : k < 512) (hk5 : 5 * k + 5 ≤ L) (hL : L ≤ 2560) (σ : xS) (τ : yS) (hR : Rel k σ τ) (H : Heap) (locs : List Loc) (ls : Array Slot) (hw : xW E (fun q : Nat => s.heap.size ≤ q) s σ τ H locs) (hl : lv_has ls 4 [(0, .ref b), (1, .ref (E.2.2.1 0 0)), (2, .ref (E.2.2.1 30 0)), (3, .int (nI (5 * k)))])
    (kk : ∀ (σ : xS) (τ : yS), Rel (k + 1) σ τ → ∀ (H : Heap) (locs : List Loc), xW E (fun q : Nat => s.heap.size ≤ q) s σ τ H locs → W p l e room_1 s m #[Value.ref b] below meth c H locs (2000 + 2 * (k + 1)) (20000 + 10 * (k + 1)) (lw_Z below #[Value.ref b] s) (F0 m 580 ls [])) : W p l e room_1 s m #[Value.ref b] below meth c H locs (2000 + 2 * k) (20000 + 10 * k) (lw_Z below #[Value.ref b] s) (F0 m 343 ls []) := by
  have hx := C.1
  have hb := C.2.1
  have hbA : ¬ (fun q : Nat => s.heap.size ≤ q) b := Nat.not_le.mpr hbl
  have g1 : vp_in (nI (5 * k) + 1) L := law_in (j := 1) hk5 ⟨rfl, by decide⟩
  obtain ⟨r, σ1, τ1, h1, h2, h3⟩ := hG k σ τ (xs (nI (5 * k) + 1).toNatClampNeg) hk hR
  refine lv_aload_n hx hb dL_343 rfl (lv_at hl 1 rfl) ?_
  refine lv_aload_n hx hb dL_344 rfl (lv_at hl 0 rfl) ?_
  refine lv_iload_n hx hb dL_345 rfl (lv_at hl 3 rfl) ?_
  refine lv_iconst (v := 1) hx hb dL_346 (by decide) ?_
  refine lv_iadd hx hb dL_347 ?_
  refine va_sld hx hb hX hbl hbA hw.2.2.1 g1 dL_348 ?_
  refine x_callV (As := [.int (xs (nI (5 * k) + 1).toNatClampNeg)]) (rest := []) (st1 := [.int r]) C hw (cA_told l E σ τ (xs (nI (5 * k) + 1).toNatClampNeg) (r, σ1) h1) kL_41 (x_recv C hw 0 0 at_0 rfl rfl) (by decide) rfl rfl hl.1 (lv_room (Nat.le_of_ble_eq_true rfl)) dL_349 ⟨by omega, by omega⟩ rfl (fun H locs hw => ?_)
  refine lv_aload_n hx hb dL_352 rfl (lv_at hl 2 rfl) ?_
  refine lv_aload_n hx hb dL_353 rfl (lv_at hl 0 rfl) ?_
  refine lv_iload_n hx hb dL_354 rfl (lv_at hl 3 rfl) ?_
  refine lv_iconst (v := 1) hx hb dL_355 (by decide) ?_
  refine lv_iadd hx hb dL_356 ?_
  refine va_sld hx hb hX hbl hbA hw.2.2.1 g1 dL_357 ?_
  refine x_callV (As := [.int (xs (nI (5 * k) + 1).toNatClampNeg)]) (rest := [.int r]) (st1 := [.int r, .int r]) C hw (cM_told l E τ σ1 (xs (nI (5 * k) + 1).toNatClampNeg) (r, τ1) h2) kL_45 (x_recvY C hw 30 0 at_30 rfl rfl) (by decide) rfl rfl hl.1 (lv_room (Nat.le_of_ble_eq_true rfl)) dL_358 ⟨by omega, by omega⟩ rfl (fun H locs hw => ?_)
  refine lv_icmp_eq (tgt := 580) hx hb dL_361 (by decide) (fun c9 => ?_) (fun c9 => ?_)
  · refine W.widen (k := 2000 + 2 * (k + 1)) (n := 20000 + 10 * (k + 1)) (by omega) (by omega) ?_
    exact kk σ1 τ1 h3 H locs hw
  · exact absurd rfl c9
set_option maxHeartbeats 4000000 in
set_option maxRecDepth 100000 in
theorem law_check {p : Program} {l : Launch} {e : Env} {s : State} {m : MethodId} {below : List Frame} {meth : Method} {c : Code} {E : xE} {b L : Nat} {xs : Nat → Int32} (C : xC p s m #[Value.ref b] meth c room_1 E (fun q : Nat => s.heap.size ≤ q) code 4 x ret 30 607491 7279775) (hX : va_X b L xs s s.heap) (hbl : b < s.heap.size) {N k : Nat} {Rel : Nat → xS → yS → Prop} (hG : xg_check N Rel) (hk : k < 512) (hk5 : 5 * k + 5 ≤ L) (hL : L ≤ 2560) (σ : xS) (τ : yS) (hR : Rel k σ τ) (H : Heap) (locs : List Loc) (ls : Array Slot) (hw : xW E (fun q : Nat => s.heap.size ≤ q) s σ τ H locs) (hl : lv_has ls 4 [(0, .ref b), (1, .ref (E.2.2.1 0 0)), (2, .ref (E.2.2.1 30 0)), (3, .int (nI (5 * k)))])
    (kk : ∀ (σ : xS) (τ : yS), Rel (k + 1) σ τ → ∀ (H : Heap) (locs : List Loc), xW E (fun q : Nat => s.heap.size ≤ q) s σ τ H locs → W p l e room_1 s m #[Value.ref b] below meth c H locs (2000 + 2 * (k + 1)) (20000 + 10 * (k + 1)) (lw_Z below #[Value.ref b] s) (F0 m 580 ls [])) : W p l e room_1 s m #[Value.ref b] below meth c H locs (2000 + 2 * k) (20000 + 10 * k) (lw_Z below #[Value.ref b] s) (F0 m 366 ls []) := by
  have hx := C.1
  have hb := C.2.1
  have hbA : ¬ (fun q : Nat => s.heap.size ≤ q) b := Nat.not_le.mpr hbl
  have g1 : vp_in (nI (5 * k) + 1) L := law_in (j := 1) hk5 ⟨rfl, by decide⟩
  have g2 : vp_in (nI (5 * k) + 2) L := law_in (j := 2) hk5 ⟨rfl, by decide⟩
  have g3 : vp_in (nI (5 * k) + 3) L := law_in (j := 3) hk5 ⟨rfl, by decide⟩
  obtain ⟨r, σ1, τ1, h1, h2, h3⟩ := hG k σ τ (xs (nI (5 * k) + 1).toNatClampNeg) (xs (nI (5 * k) + 2).toNatClampNeg) (xs (nI (5 * k) + 3).toNatClampNeg) hk hR
  refine lv_aload_n hx hb dL_366 rfl (lv_at hl 1 rfl) ?_
  refine lv_aload_n hx hb dL_367 rfl (lv_at hl 0 rfl) ?_
  refine lv_iload_n hx hb dL_368 rfl (lv_at hl 3 rfl) ?_
  refine lv_iconst (v := 1) hx hb dL_369 (by decide) ?_
  refine lv_iadd hx hb dL_370 ?_
  refine va_sld hx hb hX hbl hbA hw.2.2.1 g1 dL_371 ?_
  refine lv_aload_n hx hb dL_372 rfl (lv_at hl 0 rfl) ?_
  refine lv_iload_n hx hb dL_373 rfl (lv_at hl 3 rfl) ?_
  refine lv_iconst (v := 2) hx hb dL_374 (by decide) ?_
  refine lv_iadd hx hb dL_375 ?_
  refine va_sld hx hb hX hbl hbA hw.2.2.1 g2 dL_376 ?_
  refine lv_aload_n hx hb dL_377 rfl (lv_at hl 0 rfl) ?_
  refine lv_iload_n hx hb dL_378 rfl (lv_at hl 3 rfl) ?_
  refine lv_iconst (v := 3) hx hb dL_379 (by decide) ?_
  refine lv_iadd hx hb dL_380 ?_
  refine va_sld hx hb hX hbl hbA hw.2.2.1 g3 dL_381 ?_
  refine x_callV (As := [.int (xs (nI (5 * k) + 1).toNatClampNeg), .int (xs (nI (5 * k) + 2).toNatClampNeg), .int (xs (nI (5 * k) + 3).toNatClampNeg)]) (rest := []) (st1 := [.int r]) C hw (cA_check l E σ τ (xs (nI (5 * k) + 1).toNatClampNeg) (xs (nI (5 * k) + 2).toNatClampNeg) (xs (nI (5 * k) + 3).toNatClampNeg) (r, σ1) h1) kL_46 (x_recv C hw 0 0 at_0 rfl rfl) (by decide) rfl rfl hl.1 (lv_room (Nat.le_of_ble_eq_true rfl)) dL_382 ⟨by omega, by omega⟩ rfl (fun H locs hw => ?_)
  refine lv_aload_n hx hb dL_385 rfl (lv_at hl 2 rfl) ?_
  refine lv_aload_n hx hb dL_386 rfl (lv_at hl 0 rfl) ?_
  refine lv_iload_n hx hb dL_387 rfl (lv_at hl 3 rfl) ?_
  refine lv_iconst (v := 1) hx hb dL_388 (by decide) ?_
  refine lv_iadd hx hb dL_389 ?_
  refine va_sld hx hb hX hbl hbA hw.2.2.1 g1 dL_390 ?_
  refine lv_aload_n hx hb dL_391 rfl (lv_at hl 0 rfl) ?_
  refine lv_iload_n hx hb dL_392 rfl (lv_at hl 3 rfl) ?_
  refine lv_iconst (v := 2) hx hb dL_393 (by decide) ?_
  refine lv_iadd hx hb dL_394 ?_
  refine va_sld hx hb hX hbl hbA hw.2.2.1 g2 dL_395 ?_
  refine lv_aload_n hx hb dL_396 rfl (lv_at hl 0 rfl) ?_
  refine lv_iload_n hx hb dL_397 rfl (lv_at hl 3 rfl) ?_
  refine lv_iconst (v := 3) hx hb dL_398 (by decide) ?_
  refine lv_iadd hx hb dL_399 ?_
  refine va_sld hx hb hX hbl hbA hw.2.2.1 g3 dL_400 ?_
  refine x_callV (As := [.int (xs (nI (5 * k) + 1).toNatClampNeg), .int (xs (nI (5 * k) + 2).toNatClampNeg), .int (xs (nI (5 * k) + 3).toNatClampNeg)]) (rest := [.int r]) (st1 := [.int r, .int r]) C hw (cM_check_I3 l E τ σ1 (xs (nI (5 * k) + 1).toNatClampNeg) (xs (nI (5 * k) + 2).toNatClampNeg) (xs (nI (5 * k) + 3).toNatClampNeg) (r, τ1) h2) kL_50 (x_recvY C hw 30 0 at_30 rfl rfl) (by decide) rfl rfl hl.1 (lv_room (Nat.le_of_ble_eq_true rfl)) dL_401 ⟨by omega, by omega⟩ rfl (fun H locs hw => ?_)
  refine lv_icmp_eq (tgt := 580) hx hb dL_404 (by decide) (fun c9 => ?_) (fun c9 => ?_)
  · refine W.widen (k := 2000 + 2 * (k + 1)) (n := 20000 + 10 * (k + 1)) (by omega) (by omega) ?_
    exact kk σ1 τ1 h3 H locs hw
  · exact absurd rfl c9
set_option maxHeartbeats 4000000 in
set_option maxRecDepth 100000 in
theorem law_noMore {p : Program} {l : Launch} {e : Env} {s : State} {m : MethodId} {below : List Frame} {meth : Method} {c : Code} {E : xE} {b L : Nat} {xs : Nat → Int32} (C : xC p s m #[Value.ref b] meth c room_1 E (fun q : Nat => s.heap.size ≤ q) code 4 x ret 30 607491 7279775) (hX : va_X b L xs s s.heap) (hbl : b < s.heap.size) {N k : Nat} {Rel : Nat → xS → yS → Prop} (hG : xg_noMore N Rel) (hk : k < 512) (hk5 : 5 * k + 5 ≤ L) (hL : L ≤ 2560) (σ : xS) (τ : yS) (hR : Rel k σ τ) (H : Heap) (locs : List Loc) (ls : Array Slot) (hw : xW E (fun q : Nat => s.heap.size ≤ q) s σ τ H locs) (hl : lv_has ls 4 [(0, .ref b), (1, .ref (E.2.2.1 0 0)), (2, .ref (E.2.2.1 30 0)), (3, .int (nI (5 * k)))])
    (kk : ∀ (σ : xS) (τ : yS), Rel (k + 1) σ τ → ∀ (H : Heap) (locs : List Loc), xW E (fun q : Nat => s.heap.size ≤ q) s σ τ H locs → W p l e room_1 s m #[Value.ref b] below meth c H locs (2000 + 2 * (k + 1)) (20000 + 10 * (k + 1)) (lw_Z below #[Value.ref b] s) (F0 m 580 ls [])) : W p l e room_1 s m #[Value.ref b] below meth c H locs (2000 + 2 * k) (20000 + 10 * k) (lw_Z below #[Value.ref b] s) (F0 m 409 ls []) := by
  have hx := C.1
  have hb := C.2.1
  have hbA : ¬ (fun q : Nat => s.heap.size ≤ q) b := Nat.not_le.mpr hbl
  have g1 : vp_in (nI (5 * k) + 1) L := law_in (j := 1) hk5 ⟨rfl, by decide⟩
  obtain ⟨r, σ1, τ1, h1, h2, h3⟩ := hG k σ τ (xs (nI (5 * k) + 1).toNatClampNeg) hk hR
  refine lv_aload_n hx hb dL_409 rfl (lv_at hl 1 rfl) ?_
  refine lv_aload_n hx hb dL_410 rfl (lv_at hl 0 rfl) ?_
  refine lv_iload_n hx hb dL_411 rfl (lv_at hl 3 rfl) ?_
  refine lv_iconst (v := 1) hx hb dL_412 (by decide) ?_
  refine lv_iadd hx hb dL_413 ?_
  refine va_sld hx hb hX hbl hbA hw.2.2.1 g1 dL_414 ?_
  refine x_callV (As := [.int (xs (nI (5 * k) + 1).toNatClampNeg)]) (rest := []) (st1 := [.int r]) C hw (cA_noMore l E N σ τ (xs (nI (5 * k) + 1).toNatClampNeg) (r, σ1) h1) kL_51 (x_recv C hw 0 0 at_0 rfl rfl) (by decide) rfl rfl hl.1 (lv_room (Nat.le_of_ble_eq_true rfl)) dL_415 ⟨by omega, by omega⟩ rfl (fun H locs hw => ?_)
  refine lv_aload_n hx hb dL_418 rfl (lv_at hl 2 rfl) ?_
  refine lv_aload_n hx hb dL_419 rfl (lv_at hl 0 rfl) ?_
  refine lv_iload_n hx hb dL_420 rfl (lv_at hl 3 rfl) ?_
  refine lv_iconst (v := 1) hx hb dL_421 (by decide) ?_
  refine lv_iadd hx hb dL_422 ?_
  refine va_sld hx hb hX hbl hbA hw.2.2.1 g1 dL_423 ?_
  refine x_callV (As := [.int (xs (nI (5 * k) + 1).toNatClampNeg)]) (rest := [.int r]) (st1 := [.int r, .int r]) C hw (cM_noMore l E N τ σ1 (xs (nI (5 * k) + 1).toNatClampNeg) (r, τ1) h2) kL_54 (x_recvY C hw 30 0 at_30 rfl rfl) (by decide) rfl rfl hl.1 (lv_room (Nat.le_of_ble_eq_true rfl)) dL_424 ⟨by omega, by omega⟩ rfl (fun H locs hw => ?_)
  refine lv_icmp_eq (tgt := 580) hx hb dL_427 (by decide) (fun c9 => ?_) (fun c9 => ?_)
  · refine W.widen (k := 2000 + 2 * (k + 1)) (n := 20000 + 10 * (k + 1)) (by omega) (by omega) ?_
    exact kk σ1 τ1 h3 H locs hw
  · exact absurd rfl c9
set_option maxHeartbeats 4000000 in
set_option maxRecDepth 100000 in
theorem law_restart {p : Program} {l : Launch} {e : Env} {s : State} {m : MethodId} {below : List Frame} {meth : Method} {c : Code} {E : xE} {b L : Nat} {xs : Nat → Int32} (C : xC p s m #[Value.ref b] meth c room_1 E (fun q : Nat => s.heap.size ≤ q) code 4 x ret 30 607491 7279775) (hX : va_X b L xs s s.heap) (hbl : b < s.heap.size) {N k : Nat} {Rel : Nat → xS → yS → Prop} (hG : xg_restart N Rel) (hk : k < 512) (hk5 : 5 * k + 5 ≤ L) (hL : L ≤ 2560) (σ : xS) (τ : yS) (hR : Rel k σ τ) (H : Heap) (locs : List Loc) (ls : Array Slot) (hw : xW E (fun q : Nat => s.heap.size ≤ q) s σ τ H locs) (hl : lv_has ls 4 [(0, .ref b), (1, .ref (E.2.2.1 0 0)), (2, .ref (E.2.2.1 30 0)), (3, .int (nI (5 * k)))])
    (kk : ∀ (σ : xS) (τ : yS), Rel (k + 1) σ τ → ∀ (H : Heap) (locs : List Loc), xW E (fun q : Nat => s.heap.size ≤ q) s σ τ H locs → W p l e room_1 s m #[Value.ref b] below meth c H locs (2000 + 2 * (k + 1)) (20000 + 10 * (k + 1)) (lw_Z below #[Value.ref b] s) (F0 m 580 ls [])) : W p l e room_1 s m #[Value.ref b] below meth c H locs (2000 + 2 * k) (20000 + 10 * k) (lw_Z below #[Value.ref b] s) (F0 m 432 ls []) := by
  have hx := C.1
  have hb := C.2.1
  have hbA : ¬ (fun q : Nat => s.heap.size ≤ q) b := Nat.not_le.mpr hbl
  obtain ⟨r, σ1, τ1, h1, h2, h3⟩ := hG k σ τ hk hR
  refine lv_aload_n hx hb dL_432 rfl (lv_at hl 1 rfl) ?_
  refine x_callV (As := []) (rest := []) (st1 := [.int r]) C hw (cA_restart l E σ τ (r, σ1) h1) kL_55 (x_recv C hw 0 0 at_0 rfl rfl) (by decide) rfl rfl hl.1 (lv_room (Nat.le_of_ble_eq_true rfl)) dL_433 ⟨by omega, by omega⟩ rfl (fun H locs hw => ?_)
  refine lv_aload_n hx hb dL_436 rfl (lv_at hl 2 rfl) ?_
  refine x_callV (As := []) (rest := [.int r]) (st1 := [.int r, .int r]) C hw (cM_restart l E τ σ1 (r, τ1) h2) kL_58 (x_recvY C hw 30 0 at_30 rfl rfl) (by decide) rfl rfl hl.1 (lv_room (Nat.le_of_ble_eq_true rfl)) dL_437 ⟨by omega, by omega⟩ rfl (fun H locs hw => ?_)
  refine lv_icmp_eq (tgt := 580) hx hb dL_440 (by decide) (fun c9 => ?_) (fun c9 => ?_)
  · refine W.widen (k := 2000 + 2 * (k + 1)) (n := 20000 + 10 * (k + 1)) (by omega) (by omega) ?_
    exact kk σ1 τ1 h3 H locs hw
  · exact absurd rfl c9
set_option maxHeartbeats 4000000 in
set_option maxRecDepth 100000 in
theorem law_noted {p : Program} {l : Launch} {e : Env} {s : State} {m : MethodId} {below : List Frame} {meth : Method} {c : Code} {E : xE} {b L : Nat} {xs : Nat → Int32} (C : xC p s m #[Value.ref b] meth c room_1 E (fun q : Nat => s.heap.size ≤ q) code 4 x ret 30 607491 7279775) (hX : va_X b L xs s s.heap) (hbl : b < s.heap.size) {N k : Nat} {Rel : Nat → xS → yS → Prop} (hG : xg_noted N Rel) (hk : k < 512) (hk5 : 5 * k + 5 ≤ L) (hL : L ≤ 2560) (σ : xS) (τ : yS) (hR : Rel k σ τ) (H : Heap) (locs : List Loc) (ls : Array Slot) (hw : xW E (fun q : Nat => s.heap.size ≤ q) s σ τ H locs) (hl : lv_has ls 4 [(0, .ref b), (1, .ref (E.2.2.1 0 0)), (2, .ref (E.2.2.1 30 0)), (3, .int (nI (5 * k)))])
    (kk : ∀ (σ : xS) (τ : yS), Rel (k + 1) σ τ → ∀ (H : Heap) (locs : List Loc), xW E (fun q : Nat => s.heap.size ≤ q) s σ τ H locs → W p l e room_1 s m #[Value.ref b] below meth c H locs (2000 + 2 * (k + 1)) (20000 + 10 * (k + 1)) (lw_Z below #[Value.ref b] s) (F0 m 580 ls [])) : W p l e room_1 s m #[Value.ref b] below meth c H locs (2000 + 2 * k) (20000 + 10 * k) (lw_Z below #[Value.ref b] s) (F0 m 445 ls []) := by
  have hx := C.1
  have hb := C.2.1
  have hbA : ¬ (fun q : Nat => s.heap.size ≤ q) b := Nat.not_le.mpr hbl
  have g1 : vp_in (nI (5 * k) + 1) L := law_in (j := 1) hk5 ⟨rfl, by decide⟩
  have g2 : vp_in (nI (5 * k) + 2) L := law_in (j := 2) hk5 ⟨rfl, by decide⟩
  obtain ⟨r, h1, h2, h3⟩ := hG k σ τ (xs (nI (5 * k) + 1).toNatClampNeg) (xs (nI (5 * k) + 2).toNatClampNeg) hk hR
  refine lv_aload_n hx hb dL_445 rfl (lv_at hl 1 rfl) ?_
  refine lv_aload_n hx hb dL_446 rfl (lv_at hl 0 rfl) ?_
  refine lv_iload_n hx hb dL_447 rfl (lv_at hl 3 rfl) ?_
  refine lv_iconst (v := 1) hx hb dL_448 (by decide) ?_
  refine lv_iadd hx hb dL_449 ?_
  refine va_sld hx hb hX hbl hbA hw.2.2.1 g1 dL_450 ?_
  refine lv_aload_n hx hb dL_451 rfl (lv_at hl 0 rfl) ?_
  refine lv_iload_n hx hb dL_452 rfl (lv_at hl 3 rfl) ?_
  refine lv_iconst (v := 2) hx hb dL_453 (by decide) ?_
  refine lv_iadd hx hb dL_454 ?_
  refine va_sld hx hb hX hbl hbA hw.2.2.1 g2 dL_455 ?_
  refine x_callV (As := [.int (xs (nI (5 * k) + 1).toNatClampNeg), .int (xs (nI (5 * k) + 2).toNatClampNeg)]) (rest := []) (st1 := [.int r]) C hw (cA_noted l E σ τ (xs (nI (5 * k) + 1).toNatClampNeg) (xs (nI (5 * k) + 2).toNatClampNeg) r h1) kL_59 (x_recv C hw 0 0 at_0 rfl rfl) (by decide) rfl rfl hl.1 (lv_room (Nat.le_of_ble_eq_true rfl)) dL_456 ⟨by omega, by omega⟩ rfl (fun H locs hw => ?_)
  refine lv_aload_n hx hb dL_459 rfl (lv_at hl 2 rfl) ?_
  refine lv_aload_n hx hb dL_460 rfl (lv_at hl 0 rfl) ?_
  refine lv_iload_n hx hb dL_461 rfl (lv_at hl 3 rfl) ?_
  refine lv_iconst (v := 1) hx hb dL_462 (by decide) ?_
  refine lv_iadd hx hb dL_463 ?_
  refine va_sld hx hb hX hbl hbA hw.2.2.1 g1 dL_464 ?_
  refine lv_aload_n hx hb dL_465 rfl (lv_at hl 0 rfl) ?_
  refine lv_iload_n hx hb dL_466 rfl (lv_at hl 3 rfl) ?_
  refine lv_iconst (v := 2) hx hb dL_467 (by decide) ?_
  refine lv_iadd hx hb dL_468 ?_
  refine va_sld hx hb hX hbl hbA hw.2.2.1 g2 dL_469 ?_
  refine x_callV (As := [.int (xs (nI (5 * k) + 1).toNatClampNeg), .int (xs (nI (5 * k) + 2).toNatClampNeg)]) (rest := [.int r]) (st1 := [.int r, .int r]) C hw (cM_noted l E τ σ (xs (nI (5 * k) + 1).toNatClampNeg) (xs (nI (5 * k) + 2).toNatClampNeg) r h2) kL_62 (x_recvY C hw 30 0 at_30 rfl rfl) (by decide) rfl rfl hl.1 (lv_room (Nat.le_of_ble_eq_true rfl)) dL_470 ⟨by omega, by omega⟩ rfl (fun H locs hw => ?_)
  refine lv_icmp_eq (tgt := 580) hx hb dL_473 (by decide) (fun c9 => ?_) (fun c9 => ?_)
  · refine W.widen (k := 2000 + 2 * (k + 1)) (n := 20000 + 10 * (k + 1)) (by omega) (by omega) ?_
    exact kk σ τ h3 H locs hw
  · exact absurd rfl c9
set_option maxHeartbeats 4000000 in
set_option maxRecDepth 100000 in
theorem law_telling {p : Program} {l : Launch} {e : Env} {s : State} {m : MethodId} {below : List Frame} {meth : Method} {c : Code} {E : xE} {b L : Nat} {xs : Nat → Int32} (C : xC p s m #[Value.ref b] meth c room_1 E (fun q : Nat => s.heap.size ≤ q) code 4 x ret 30 607491 7279775) (hX : va_X b L xs s s.heap) (hbl : b < s.heap.size) {N k : Nat} {Rel : Nat → xS → yS → Prop} (hG : xg_telling N Rel) (hk : k < 512) (hk5 : 5 * k + 5 ≤ L) (hL : L ≤ 2560) (σ : xS) (τ : yS) (hR : Rel k σ τ) (H : Heap) (locs : List Loc) (ls : Array Slot) (hw : xW E (fun q : Nat => s.heap.size ≤ q) s σ τ H locs) (hl : lv_has ls 4 [(0, .ref b), (1, .ref (E.2.2.1 0 0)), (2, .ref (E.2.2.1 30 0)), (3, .int (nI (5 * k)))])
    (kk : ∀ (σ : xS) (τ : yS), Rel (k + 1) σ τ → ∀ (H : Heap) (locs : List Loc), xW E (fun q : Nat => s.heap.size ≤ q) s σ τ H locs → W p l e room_1 s m #[Value.ref b] below meth c H locs (2000 + 2 * (k + 1)) (20000 + 10 * (k + 1)) (lw_Z below #[Value.ref b] s) (F0 m 580 ls [])) : W p l e room_1 s m #[Value.ref b] below meth c H locs (2000 + 2 * k) (20000 + 10 * k) (lw_Z below #[Value.ref b] s) (F0 m 478 ls []) := by
  have hx := C.1
  have hb := C.2.1
  have hbA : ¬ (fun q : Nat => s.heap.size ≤ q) b := Nat.not_le.mpr hbl
  have g1 : vp_in (nI (5 * k) + 1) L := law_in (j := 1) hk5 ⟨rfl, by decide⟩
  have g2 : vp_in (nI (5 * k) + 2) L := law_in (j := 2) hk5 ⟨rfl, by decide⟩
  obtain ⟨r, h1, h2, h3⟩ := hG k σ τ (xs (nI (5 * k) + 1).toNatClampNeg) (xs (nI (5 * k) + 2).toNatClampNeg) hk hR
  refine lv_aload_n hx hb dL_478 rfl (lv_at hl 1 rfl) ?_
  refine lv_aload_n hx hb dL_479 rfl (lv_at hl 0 rfl) ?_
  refine lv_iload_n hx hb dL_480 rfl (lv_at hl 3 rfl) ?_
  refine lv_iconst (v := 1) hx hb dL_481 (by decide) ?_
  refine lv_iadd hx hb dL_482 ?_
  refine va_sld hx hb hX hbl hbA hw.2.2.1 g1 dL_483 ?_
  refine lv_aload_n hx hb dL_484 rfl (lv_at hl 0 rfl) ?_
  refine lv_iload_n hx hb dL_485 rfl (lv_at hl 3 rfl) ?_
  refine lv_iconst (v := 2) hx hb dL_486 (by decide) ?_
  refine lv_iadd hx hb dL_487 ?_
  refine va_sld hx hb hX hbl hbA hw.2.2.1 g2 dL_488 ?_
  refine x_callV (As := [.int (xs (nI (5 * k) + 1).toNatClampNeg), .int (xs (nI (5 * k) + 2).toNatClampNeg)]) (rest := []) (st1 := [.int r]) C hw (cA_telling l E σ τ (xs (nI (5 * k) + 1).toNatClampNeg) (xs (nI (5 * k) + 2).toNatClampNeg) r h1) kL_63 (x_recv C hw 0 0 at_0 rfl rfl) (by decide) rfl rfl hl.1 (lv_room (Nat.le_of_ble_eq_true rfl)) dL_489 ⟨by omega, by omega⟩ rfl (fun H locs hw => ?_)
  refine lv_aload_n hx hb dL_492 rfl (lv_at hl 2 rfl) ?_
  refine lv_aload_n hx hb dL_493 rfl (lv_at hl 0 rfl) ?_
  refine lv_iload_n hx hb dL_494 rfl (lv_at hl 3 rfl) ?_
  refine lv_iconst (v := 1) hx hb dL_495 (by decide) ?_
  refine lv_iadd hx hb dL_496 ?_
  refine va_sld hx hb hX hbl hbA hw.2.2.1 g1 dL_497 ?_
  refine lv_aload_n hx hb dL_498 rfl (lv_at hl 0 rfl) ?_
  refine lv_iload_n hx hb dL_499 rfl (lv_at hl 3 rfl) ?_
  refine lv_iconst (v := 2) hx hb dL_500 (by decide) ?_
  refine lv_iadd hx hb dL_501 ?_
  refine va_sld hx hb hX hbl hbA hw.2.2.1 g2 dL_502 ?_
  refine x_callV (As := [.int (xs (nI (5 * k) + 1).toNatClampNeg), .int (xs (nI (5 * k) + 2).toNatClampNeg)]) (rest := [.int r]) (st1 := [.int r, .int r]) C hw (cM_telling l E τ σ (xs (nI (5 * k) + 1).toNatClampNeg) (xs (nI (5 * k) + 2).toNatClampNeg) r h2) kL_66 (x_recvY C hw 30 0 at_30 rfl rfl) (by decide) rfl rfl hl.1 (lv_room (Nat.le_of_ble_eq_true rfl)) dL_503 ⟨by omega, by omega⟩ rfl (fun H locs hw => ?_)
  refine lv_icmp_eq (tgt := 580) hx hb dL_506 (by decide) (fun c9 => ?_) (fun c9 => ?_)
  · refine W.widen (k := 2000 + 2 * (k + 1)) (n := 20000 + 10 * (k + 1)) (by omega) (by omega) ?_
    exact kk σ τ h3 H locs hw
  · exact absurd rfl c9
set_option maxHeartbeats 4000000 in
set_option maxRecDepth 100000 in
theorem law_found {p : Program} {l : Launch} {e : Env} {s : State} {m : MethodId} {below : List Frame} {meth : Method} {c : Code} {E : xE} {b L : Nat} {xs : Nat → Int32} (C : xC p s m #[Value.ref b] meth c room_1 E (fun q : Nat => s.heap.size ≤ q) code 4 x ret 30 607491 7279775) (hX : va_X b L xs s s.heap) (hbl : b < s.heap.size) {N k : Nat} {Rel : Nat → xS → yS → Prop} (hG : xg_found N Rel) (hk : k < 512) (hk5 : 5 * k + 5 ≤ L) (hL : L ≤ 2560) (σ : xS) (τ : yS) (hR : Rel k σ τ) (H : Heap) (locs : List Loc) (ls : Array Slot) (hw : xW E (fun q : Nat => s.heap.size ≤ q) s σ τ H locs) (hl : lv_has ls 4 [(0, .ref b), (1, .ref (E.2.2.1 0 0)), (2, .ref (E.2.2.1 30 0)), (3, .int (nI (5 * k)))])
    (kk : ∀ (σ : xS) (τ : yS), Rel (k + 1) σ τ → ∀ (H : Heap) (locs : List Loc), xW E (fun q : Nat => s.heap.size ≤ q) s σ τ H locs → W p l e room_1 s m #[Value.ref b] below meth c H locs (2000 + 2 * (k + 1)) (20000 + 10 * (k + 1)) (lw_Z below #[Value.ref b] s) (F0 m 580 ls [])) : W p l e room_1 s m #[Value.ref b] below meth c H locs (2000 + 2 * k) (20000 + 10 * k) (lw_Z below #[Value.ref b] s) (F0 m 511 ls []) := by
  have hx := C.1
  have hb := C.2.1
  have hbA : ¬ (fun q : Nat => s.heap.size ≤ q) b := Nat.not_le.mpr hbl
  have g1 : vp_in (nI (5 * k) + 1) L := law_in (j := 1) hk5 ⟨rfl, by decide⟩
  obtain ⟨r, h1, h2, h3⟩ := hG k σ τ (xs (nI (5 * k) + 1).toNatClampNeg) hk hR
  refine lv_aload_n hx hb dL_511 rfl (lv_at hl 1 rfl) ?_
  refine lv_aload_n hx hb dL_512 rfl (lv_at hl 0 rfl) ?_
  refine lv_iload_n hx hb dL_513 rfl (lv_at hl 3 rfl) ?_
  refine lv_iconst (v := 1) hx hb dL_514 (by decide) ?_
  refine lv_iadd hx hb dL_515 ?_
  refine va_sld hx hb hX hbl hbA hw.2.2.1 g1 dL_516 ?_
  refine x_callV (As := [.int (xs (nI (5 * k) + 1).toNatClampNeg)]) (rest := []) (st1 := [.int r]) C hw (cA_found l E σ τ (xs (nI (5 * k) + 1).toNatClampNeg) r h1) kL_67 (x_recv C hw 0 0 at_0 rfl rfl) (by decide) rfl rfl hl.1 (lv_room (Nat.le_of_ble_eq_true rfl)) dL_517 ⟨by omega, by omega⟩ rfl (fun H locs hw => ?_)
  refine lv_aload_n hx hb dL_520 rfl (lv_at hl 2 rfl) ?_
  refine lv_aload_n hx hb dL_521 rfl (lv_at hl 0 rfl) ?_
  refine lv_iload_n hx hb dL_522 rfl (lv_at hl 3 rfl) ?_
  refine lv_iconst (v := 1) hx hb dL_523 (by decide) ?_
  refine lv_iadd hx hb dL_524 ?_
  refine va_sld hx hb hX hbl hbA hw.2.2.1 g1 dL_525 ?_
  refine x_callV (As := [.int (xs (nI (5 * k) + 1).toNatClampNeg)]) (rest := [.int r]) (st1 := [.int r, .int r]) C hw (cM_found l E τ σ (xs (nI (5 * k) + 1).toNatClampNeg) r h2) kL_70 (x_recvY C hw 30 0 at_30 rfl rfl) (by decide) rfl rfl hl.1 (lv_room (Nat.le_of_ble_eq_true rfl)) dL_526 ⟨by omega, by omega⟩ rfl (fun H locs hw => ?_)
  refine lv_icmp_eq (tgt := 580) hx hb dL_529 (by decide) (fun c9 => ?_) (fun c9 => ?_)
  · refine W.widen (k := 2000 + 2 * (k + 1)) (n := 20000 + 10 * (k + 1)) (by omega) (by omega) ?_
    exact kk σ τ h3 H locs hw
  · exact absurd rfl c9
set_option maxHeartbeats 4000000 in
set_option maxRecDepth 100000 in
theorem law_caught {p : Program} {l : Launch} {e : Env} {s : State} {m : MethodId} {below : List Frame} {meth : Method} {c : Code} {E : xE} {b L : Nat} {xs : Nat → Int32} (C : xC p s m #[Value.ref b] meth c room_1 E (fun q : Nat => s.heap.size ≤ q) code 4 x ret 30 607491 7279775) (hX : va_X b L xs s s.heap) (hbl : b < s.heap.size) {N k : Nat} {Rel : Nat → xS → yS → Prop} (hG : xg_caught N Rel) (hk : k < 512) (hk5 : 5 * k + 5 ≤ L) (hL : L ≤ 2560) (σ : xS) (τ : yS) (hR : Rel k σ τ) (H : Heap) (locs : List Loc) (ls : Array Slot) (hw : xW E (fun q : Nat => s.heap.size ≤ q) s σ τ H locs) (hl : lv_has ls 4 [(0, .ref b), (1, .ref (E.2.2.1 0 0)), (2, .ref (E.2.2.1 30 0)), (3, .int (nI (5 * k)))])
    (kk : ∀ (σ : xS) (τ : yS), Rel (k + 1) σ τ → ∀ (H : Heap) (locs : List Loc), xW E (fun q : Nat => s.heap.size ≤ q) s σ τ H locs → W p l e room_1 s m #[Value.ref b] below meth c H locs (2000 + 2 * (k + 1)) (20000 + 10 * (k + 1)) (lw_Z below #[Value.ref b] s) (F0 m 580 ls [])) : W p l e room_1 s m #[Value.ref b] below meth c H locs (2000 + 2 * k) (20000 + 10 * k) (lw_Z below #[Value.ref b] s) (F0 m 534 ls []) := by
  have hx := C.1
  have hb := C.2.1
  have hbA : ¬ (fun q : Nat => s.heap.size ≤ q) b := Nat.not_le.mpr hbl
  have g1 : vp_in (nI (5 * k) + 1) L := law_in (j := 1) hk5 ⟨rfl, by decide⟩
  obtain ⟨r, h1, h2, h3⟩ := hG k σ τ (xs (nI (5 * k) + 1).toNatClampNeg) hk hR
  refine lv_aload_n hx hb dL_534 rfl (lv_at hl 1 rfl) ?_
  refine lv_aload_n hx hb dL_535 rfl (lv_at hl 0 rfl) ?_
  refine lv_iload_n hx hb dL_536 rfl (lv_at hl 3 rfl) ?_
  refine lv_iconst (v := 1) hx hb dL_537 (by decide) ?_
  refine lv_iadd hx hb dL_538 ?_
  refine va_sld hx hb hX hbl hbA hw.2.2.1 g1 dL_539 ?_
  refine x_callV (As := [.int (xs (nI (5 * k) + 1).toNatClampNeg)]) (rest := []) (st1 := [.int r]) C hw (cA_caught l E σ τ (xs (nI (5 * k) + 1).toNatClampNeg) r h1) kL_71 (x_recv C hw 0 0 at_0 rfl rfl) (by decide) rfl rfl hl.1 (lv_room (Nat.le_of_ble_eq_true rfl)) dL_540 ⟨by omega, by omega⟩ rfl (fun H locs hw => ?_)
  refine lv_aload_n hx hb dL_543 rfl (lv_at hl 2 rfl) ?_
  refine lv_aload_n hx hb dL_544 rfl (lv_at hl 0 rfl) ?_
  refine lv_iload_n hx hb dL_545 rfl (lv_at hl 3 rfl) ?_
  refine lv_iconst (v := 1) hx hb dL_546 (by decide) ?_
  refine lv_iadd hx hb dL_547 ?_
  refine va_sld hx hb hX hbl hbA hw.2.2.1 g1 dL_548 ?_
  refine x_callV (As := [.int (xs (nI (5 * k) + 1).toNatClampNeg)]) (rest := [.int r]) (st1 := [.int r, .int r]) C hw (cM_caught l E τ σ (xs (nI (5 * k) + 1).toNatClampNeg) r h2) kL_74 (x_recvY C hw 30 0 at_30 rfl rfl) (by decide) rfl rfl hl.1 (lv_room (Nat.le_of_ble_eq_true rfl)) dL_549 ⟨by omega, by omega⟩ rfl (fun H locs hw => ?_)
  refine lv_icmp_eq (tgt := 580) hx hb dL_552 (by decide) (fun c9 => ?_) (fun c9 => ?_)
  · refine W.widen (k := 2000 + 2 * (k + 1)) (n := 20000 + 10 * (k + 1)) (by omega) (by omega) ?_
    exact kk σ τ h3 H locs hw
  · exact absurd rfl c9
set_option maxHeartbeats 4000000 in
set_option maxRecDepth 100000 in
theorem law_count {p : Program} {l : Launch} {e : Env} {s : State} {m : MethodId} {below : List Frame} {meth : Method} {c : Code} {E : xE} {b L : Nat} {xs : Nat → Int32} (C : xC p s m #[Value.ref b] meth c room_1 E (fun q : Nat => s.heap.size ≤ q) code 4 x ret 30 607491 7279775) (hX : va_X b L xs s s.heap) (hbl : b < s.heap.size) {N k : Nat} {Rel : Nat → xS → yS → Prop} (hG : xg_count N Rel) (hk : k < 512) (hk5 : 5 * k + 5 ≤ L) (hL : L ≤ 2560) (σ : xS) (τ : yS) (hR : Rel k σ τ) (H : Heap) (locs : List Loc) (ls : Array Slot) (hw : xW E (fun q : Nat => s.heap.size ≤ q) s σ τ H locs) (hl : lv_has ls 4 [(0, .ref b), (1, .ref (E.2.2.1 0 0)), (2, .ref (E.2.2.1 30 0)), (3, .int (nI (5 * k)))])
    (kk : ∀ (σ : xS) (τ : yS), Rel (k + 1) σ τ → ∀ (H : Heap) (locs : List Loc), xW E (fun q : Nat => s.heap.size ≤ q) s σ τ H locs → W p l e room_1 s m #[Value.ref b] below meth c H locs (2000 + 2 * (k + 1)) (20000 + 10 * (k + 1)) (lw_Z below #[Value.ref b] s) (F0 m 580 ls [])) : W p l e room_1 s m #[Value.ref b] below meth c H locs (2000 + 2 * k) (20000 + 10 * k) (lw_Z below #[Value.ref b] s) (F0 m 557 ls []) := by
  have hx := C.1
  have hb := C.2.1
  have hbA : ¬ (fun q : Nat => s.heap.size ≤ q) b := Nat.not_le.mpr hbl
  have g1 : vp_in (nI (5 * k) + 1) L := law_in (j := 1) hk5 ⟨rfl, by decide⟩
  obtain ⟨r, h1, h2, h3⟩ := hG k σ τ (xs (nI (5 * k) + 1).toNatClampNeg) hk hR
  refine lv_aload_n hx hb dL_557 rfl (lv_at hl 1 rfl) ?_
  refine lv_aload_n hx hb dL_558 rfl (lv_at hl 0 rfl) ?_
  refine lv_iload_n hx hb dL_559 rfl (lv_at hl 3 rfl) ?_
  refine lv_iconst (v := 1) hx hb dL_560 (by decide) ?_
  refine lv_iadd hx hb dL_561 ?_
  refine va_sld hx hb hX hbl hbA hw.2.2.1 g1 dL_562 ?_
  refine x_callV (As := [.int (xs (nI (5 * k) + 1).toNatClampNeg)]) (rest := []) (st1 := [.int r]) C hw (cA_count l E N σ τ (xs (nI (5 * k) + 1).toNatClampNeg) r h1) kL_75 (x_recv C hw 0 0 at_0 rfl rfl) (by decide) rfl rfl hl.1 (lv_room (Nat.le_of_ble_eq_true rfl)) dL_563 ⟨by omega, by omega⟩ rfl (fun H locs hw => ?_)
  refine lv_aload_n hx hb dL_566 rfl (lv_at hl 2 rfl) ?_
  refine lv_aload_n hx hb dL_567 rfl (lv_at hl 0 rfl) ?_
  refine lv_iload_n hx hb dL_568 rfl (lv_at hl 3 rfl) ?_
  refine lv_iconst (v := 1) hx hb dL_569 (by decide) ?_
  refine lv_iadd hx hb dL_570 ?_
  refine va_sld hx hb hX hbl hbA hw.2.2.1 g1 dL_571 ?_
  refine x_callV (As := [.int (xs (nI (5 * k) + 1).toNatClampNeg)]) (rest := [.int r]) (st1 := [.int r, .int r]) C hw (cM_count l E N τ σ (xs (nI (5 * k) + 1).toNatClampNeg) r h2) kL_78 (x_recvY C hw 30 0 at_30 rfl rfl) (by decide) rfl rfl hl.1 (lv_room (Nat.le_of_ble_eq_true rfl)) dL_572 ⟨by omega, by omega⟩ rfl (fun H locs hw => ?_)
  refine lv_icmp_eq (tgt := 580) hx hb dL_575 (by decide) (fun c9 => ?_) (fun c9 => ?_)
  · refine W.widen (k := 2000 + 2 * (k + 1)) (n := 20000 + 10 * (k + 1)) (by omega) (by omega) ?_
    exact kk σ τ h3 H locs hw
  · exact absurd rfl c9
theorem law_inc (k : Nat) : nI (5 * k) + Int32.ofInt 5 = nI (5 * (k + 1)) := by
  rw [show Int32.ofInt 5 = nI 5 from rfl, nI_add, show 5 * (k + 1) = 5 * k + 5 by omega]
theorem law_go {k L : Nat} (hL : L ≤ 2560) (hk : k ≤ 512) (h : ¬ Int32.ofNat L - 5 < nI (5 * k)) : 5 * k + 5 ≤ L := by
  rcases Nat.lt_or_ge L (5 * k + 5) with q | q
  · refine absurd ?_ h
    rw [show (5 : Int32) = nI 5 from rfl, Int32.lt_iff_toInt_lt, show Int32.ofNat L = nI L from rfl, pk_sub_toInt (by omega) (by omega), nI_toInt (by omega)]
    omega
  · exact q
set_option maxHeartbeats 4000000 in
set_option maxRecDepth 100000 in
theorem law_loop {p : Program} {l : Launch} {e : Env} {s : State} {m : MethodId} {below : List Frame} {meth : Method} {c : Code} {E : xE} {b L : Nat} {xs : Nat → Int32} (C : xC p s m #[Value.ref b] meth c room_1 E (fun q : Nat => s.heap.size ≤ q) code 4 x ret 30 607491 7279775) (hX : va_X b L xs s s.heap) (hbl : b < s.heap.size) {N : Nat} {Rel : Nat → xS → yS → Prop} (hG : xGood N Rel) (hL : L ≤ 2560) (hlk : meth.locks = false) : ∀ (n k : Nat), 513 ≤ k + n → k ≤ 512 → ∀ (σ : xS) (τ : yS), Rel k σ τ → ∀ (H : Heap) (locs : List Loc) (ls : Array Slot), xW E (fun q : Nat => s.heap.size ≤ q) s σ τ H locs → lv_has ls 4 [(0, .ref b), (1, .ref (E.2.2.1 0 0)), (2, .ref (E.2.2.1 30 0)), (3, .int (nI (5 * k)))] → W p l e room_1 s m #[Value.ref b] below meth c H locs (2000 + 2 * k) (20000 + 10 * k) (lw_Z below #[Value.ref b] s) (F0 m 18 ls []) := by
  have hx := C.1
  have hb := C.2.1
  have hbA : ¬ (fun q : Nat => s.heap.size ≤ q) b := Nat.not_le.mpr hbl
  obtain ⟨Gdefine, Gmake, Gmatcher, Gcall, Gwhen, Ganswer, Gtold, Gcheck, GnoMore, Grestart, Gnoted, Gtelling, Gfound, Gcaught, Gcount, Gskip⟩ := hG
  intro n
  induction n with
  | zero => intro k h1 h2; omega
  | succ n ih =>
    intro k hkn hk9 σ τ hR H locs ls hw hl
    refine lv_iload_n hx hb dL_18 rfl (lv_at hl 3 rfl) ?_
    refine lv_aload_n hx hb dL_19 rfl (lv_at hl 0 rfl) ?_
    refine va_slen hx hb hX hbl hbA hw.2.2.1 dL_20 ?_
    refine lv_iconst (v := 5) hx hb dL_21 (by decide) ?_
    refine lv_isub hx hb dL_22 ?_
    refine lv_icmp_gt (tgt := 586) hx hb dL_23 (by decide) (fun c1 => ?_) (fun c1 => ?_)
    · refine lv_iconst (v := 1) hx hb dL_586 (by decide) ?_
      refine va_forget (fun q hq => hw.2.2.1.2.2 q hq) ?_
      refine W.widen (k := 607491) (n := 7279775) (by omega) (by omega) ?_
      exact lw_ret hx hb C.re hlk dL_587
    · have hk5 : 5 * k + 5 ≤ L := law_go hL (by omega) c1
      have hk : k < 512 := by omega
      have next : ∀ (σ : xS) (τ : yS), Rel (k + 1) σ τ → ∀ (H : Heap) (locs : List Loc), xW E (fun q : Nat => s.heap.size ≤ q) s σ τ H locs → W p l e room_1 s m #[Value.ref b] below meth c H locs (2000 + 2 * (k + 1)) (20000 + 10 * (k + 1)) (lw_Z below #[Value.ref b] s) (F0 m 580 ls []) := by
        intro σ τ hR H locs hw
        refine lv_iinc (v := nI (5 * (k + 1))) (lv' := [(3, .int (nI (5 * (k + 1)))), (0, .ref b), (1, .ref (E.2.2.1 0 0)), (2, .ref (E.2.2.1 30 0))]) hx hb dL_580 hl (k := 3) rfl (law_inc k) (by decide) rfl (fun ls hl => ?_)
        refine lv_goto (tgt := 18) hx hb dL_583 (by decide) ?_
        exact ih (k + 1) (by omega) (by omega) σ τ hR H locs ls hw (lv_sub hl [1, 2, 3, 0] rfl)
      refine lv_aload_n hx hb dL_26 rfl (lv_at hl 0 rfl) ?_
      refine lv_iload_n hx hb dL_27 rfl (lv_at hl 3 rfl) ?_
      refine va_sld hx hb hX hbl hbA hw.2.2.1 (vp_in_nI (by omega) (by omega)) dL_28 ?_
      refine lv_bipush (v := 15) hx hb dL_29 (by decide) ?_
      refine lv_iand hx hb dL_31 ?_
      generalize xs (nI (5 * k)).toNatClampNeg &&& 15 = op
      by_cases c_0 : op = 0
      · refine lv_tableIn (tgt := 108) hx hb dL_32 (by rw [c_0]; decide) (by rw [c_0]; decide) (by rw [c_0]; rfl) (by decide) ?_
        exact law_define C hX hbl Gdefine hk hk5 hL σ τ hR H locs ls hw hl next
      by_cases c_1 : op = 1
      · refine lv_tableIn (tgt := 177) hx hb dL_32 (by rw [c_1]; decide) (by rw [c_1]; decide) (by rw [c_1]; rfl) (by decide) ?_
        exact law_make C hX hbl Gmake hk hk5 hL σ τ hR H locs ls hw hl next
      by_cases c_2 : op = 2
      · refine lv_tableIn (tgt := 210) hx hb dL_32 (by rw [c_2]; decide) (by rw [c_2]; decide) (by rw [c_2]; rfl) (by decide) ?_
        exact law_matcher C hX hbl Gmatcher hk hk5 hL σ τ hR H locs ls hw hl next
      by_cases c_3 : op = 3
      · refine lv_tableIn (tgt := 243) hx hb dL_32 (by rw [c_3]; decide) (by rw [c_3]; decide) (by rw [c_3]; rfl) (by decide) ?_
        exact law_call C hX hbl Gcall hk hk5 hL σ τ hR H locs ls hw hl next
      by_cases c_4 : op = 4
      · refine lv_tableIn (tgt := 297) hx hb dL_32 (by rw [c_4]; decide) (by rw [c_4]; decide) (by rw [c_4]; rfl) (by decide) ?_
        exact law_when C hX hbl Gwhen hk hk5 hL σ τ hR H locs ls hw hl next
      by_cases c_5 : op = 5
      · refine lv_tableIn (tgt := 310) hx hb dL_32 (by rw [c_5]; decide) (by rw [c_5]; decide) (by rw [c_5]; rfl) (by decide) ?_
        exact law_answer C hX hbl Ganswer hk hk5 hL σ τ hR H locs ls hw hl next
      by_cases c_6 : op = 6
      · refine lv_tableIn (tgt := 343) hx hb dL_32 (by rw [c_6]; decide) (by rw [c_6]; decide) (by rw [c_6]; rfl) (by decide) ?_
        exact law_told C hX hbl Gtold hk hk5 hL σ τ hR H locs ls hw hl next
      by_cases c_7 : op = 7
      · refine lv_tableIn (tgt := 366) hx hb dL_32 (by rw [c_7]; decide) (by rw [c_7]; decide) (by rw [c_7]; rfl) (by decide) ?_
        exact law_check C hX hbl Gcheck hk hk5 hL σ τ hR H locs ls hw hl next
      by_cases c_8 : op = 8
      · refine lv_tableIn (tgt := 409) hx hb dL_32 (by rw [c_8]; decide) (by rw [c_8]; decide) (by rw [c_8]; rfl) (by decide) ?_
        exact law_noMore C hX hbl GnoMore hk hk5 hL σ τ hR H locs ls hw hl next
      by_cases c_9 : op = 9
      · refine lv_tableIn (tgt := 432) hx hb dL_32 (by rw [c_9]; decide) (by rw [c_9]; decide) (by rw [c_9]; rfl) (by decide) ?_
        exact law_restart C hX hbl Grestart hk hk5 hL σ τ hR H locs ls hw hl next
      by_cases c_10 : op = 10
      · refine lv_tableIn (tgt := 445) hx hb dL_32 (by rw [c_10]; decide) (by rw [c_10]; decide) (by rw [c_10]; rfl) (by decide) ?_
        exact law_noted C hX hbl Gnoted hk hk5 hL σ τ hR H locs ls hw hl next
      by_cases c_11 : op = 11
      · refine lv_tableIn (tgt := 478) hx hb dL_32 (by rw [c_11]; decide) (by rw [c_11]; decide) (by rw [c_11]; rfl) (by decide) ?_
        exact law_telling C hX hbl Gtelling hk hk5 hL σ τ hR H locs ls hw hl next
      by_cases c_12 : op = 12
      · refine lv_tableIn (tgt := 511) hx hb dL_32 (by rw [c_12]; decide) (by rw [c_12]; decide) (by rw [c_12]; rfl) (by decide) ?_
        exact law_found C hX hbl Gfound hk hk5 hL σ τ hR H locs ls hw hl next
      by_cases c_13 : op = 13
      · refine lv_tableIn (tgt := 534) hx hb dL_32 (by rw [c_13]; decide) (by rw [c_13]; decide) (by rw [c_13]; rfl) (by decide) ?_
        exact law_caught C hX hbl Gcaught hk hk5 hL σ τ hR H locs ls hw hl next
      by_cases c_14 : op = 14
      · refine lv_tableIn (tgt := 557) hx hb dL_32 (by rw [c_14]; decide) (by rw [c_14]; decide) (by rw [c_14]; rfl) (by decide) ?_
        exact law_count C hX hbl Gcount hk hk5 hL σ τ hR H locs ls hw hl next
      refine lv_tableOut (tgt := 580) hx hb dL_32 (by have n0 := lv_neT c_0 (a := 0) (by decide); have n1 := lv_neT c_1 (a := 1) (by decide); have n2 := lv_neT c_2 (a := 2) (by decide); have n3 := lv_neT c_3 (a := 3) (by decide); have n4 := lv_neT c_4 (a := 4) (by decide); have n5 := lv_neT c_5 (a := 5) (by decide); have n6 := lv_neT c_6 (a := 6) (by decide); have n7 := lv_neT c_7 (a := 7) (by decide); have n8 := lv_neT c_8 (a := 8) (by decide); have n9 := lv_neT c_9 (a := 9) (by decide); have n10 := lv_neT c_10 (a := 10) (by decide); have n11 := lv_neT c_11 (a := 11) (by decide); have n12 := lv_neT c_12 (a := 12) (by decide); have n13 := lv_neT c_13 (a := 13) (by decide); have n14 := lv_neT c_14 (a := 14) (by decide); omega) (by decide) ?_
      refine W.widen (k := 2000 + 2 * (k + 1)) (n := 20000 + 10 * (k + 1)) (by omega) (by omega) ?_
      exact next σ τ (Gskip k σ τ hk hR) H locs hw
