-- StandInsModel answer (II)I
set_option maxRecDepth 100000 in
theorem dM_answer_0 : decode bM_answer 0 = .ok (.iload_n 1, 1) := by decide +kernel
set_option maxRecDepth 100000 in
theorem dM_answer_1 : decode bM_answer 1 = .ok (.iconst 0, 1) := by decide +kernel
set_option maxRecDepth 100000 in
theorem dM_answer_2 : decode bM_answer 2 = .ok (.iconst 3, 1) := by decide +kernel
set_option maxRecDepth 100000 in
theorem dM_answer_3 : decode bM_answer 3 = .ok (.invokestatic 106, 3) := by decide +kernel
set_option maxRecDepth 100000 in
theorem dM_answer_6 : decode bM_answer 6 = .ok (.ifCond .eq 33, 3) := by decide +kernel
set_option maxRecDepth 100000 in
theorem dM_answer_9 : decode bM_answer 9 = .ok (.iload_n 1, 1) := by decide +kernel
set_option maxRecDepth 100000 in
theorem dM_answer_10 : decode bM_answer 10 = .ok (.iconst 1, 1) := by decide +kernel
set_option maxRecDepth 100000 in
theorem dM_answer_11 : decode bM_answer 11 = .ok (.if_icmp .ne 14, 3) := by decide +kernel
set_option maxRecDepth 100000 in
theorem dM_answer_14 : decode bM_answer 14 = .ok (.iload_n 2, 1) := by decide +kernel
set_option maxRecDepth 100000 in
theorem dM_answer_15 : decode bM_answer 15 = .ok (.iconst 0, 1) := by decide +kernel
set_option maxRecDepth 100000 in
theorem dM_answer_16 : decode bM_answer 16 = .ok (.sipush 999, 3) := by decide +kernel
set_option maxRecDepth 100000 in
theorem dM_answer_19 : decode bM_answer 19 = .ok (.invokestatic 106, 3) := by decide +kernel
set_option maxRecDepth 100000 in
theorem dM_answer_22 : decode bM_answer 22 = .ok (.ifCond .eq 17, 3) := by decide +kernel
set_option maxRecDepth 100000 in
theorem dM_answer_25 : decode bM_answer 25 = .ok (.iload_n 1, 1) := by decide +kernel
set_option maxRecDepth 100000 in
theorem dM_answer_26 : decode bM_answer 26 = .ok (.iconst 2, 1) := by decide +kernel
set_option maxRecDepth 100000 in
theorem dM_answer_27 : decode bM_answer 27 = .ok (.if_icmp .ne 14, 3) := by decide +kernel
set_option maxRecDepth 100000 in
theorem dM_answer_30 : decode bM_answer 30 = .ok (.iload_n 2, 1) := by decide +kernel
set_option maxRecDepth 100000 in
theorem dM_answer_31 : decode bM_answer 31 = .ok (.iconst 0, 1) := by decide +kernel
set_option maxRecDepth 100000 in
theorem dM_answer_32 : decode bM_answer 32 = .ok (.iconst 1, 1) := by decide +kernel
set_option maxRecDepth 100000 in
theorem dM_answer_33 : decode bM_answer 33 = .ok (.invokestatic 106, 3) := by decide +kernel
set_option maxRecDepth 100000 in
theorem dM_answer_36 : decode bM_answer 36 = .ok (.ifCond .ne 5, 3) := by decide +kernel
set_option maxRecDepth 100000 in
theorem dM_answer_39 : decode bM_answer 39 = .ok (.iconst (-1), 1) := by decide +kernel
set_option maxRecDepth 100000 in
theorem dM_answer_40 : decode bM_answer 40 = .ok (.ireturn, 1) := by decide +kernel
set_option maxRecDepth 100000 in
theorem dM_answer_41 : decode bM_answer 41 = .ok (.aload_n 0, 1) := by decide +kernel
set_option maxRecDepth 100000 in
theorem dM_answer_42 : decode bM_answer 42 = .ok (.getfield 90, 3) := by decide +kernel
set_option maxRecDepth 100000 in
theorem dM_answer_45 : decode bM_answer 45 = .ok (.iconst 4, 1) := by decide +kernel
set_option maxRecDepth 100000 in
theorem dM_answer_46 : decode bM_answer 46 = .ok (.if_icmp .ne 12, 3) := by decide +kernel
set_option maxRecDepth 100000 in
theorem dM_answer_49 : decode bM_answer 49 = .ok (.aload_n 0, 1) := by decide +kernel
set_option maxRecDepth 100000 in
theorem dM_answer_50 : decode bM_answer 50 = .ok (.getfield 93, 3) := by decide +kernel
set_option maxRecDepth 100000 in
theorem dM_answer_53 : decode bM_answer 53 = .ok (.iconst 1, 1) := by decide +kernel
set_option maxRecDepth 100000 in
theorem dM_answer_54 : decode bM_answer 54 = .ok (.isub, 1) := by decide +kernel
set_option maxRecDepth 100000 in
theorem dM_answer_55 : decode bM_answer 55 = .ok (.goto 5, 3) := by decide +kernel
set_option maxRecDepth 100000 in
theorem dM_answer_58 : decode bM_answer 58 = .ok (.bipush 16, 2) := by decide +kernel
set_option maxRecDepth 100000 in
theorem dM_answer_60 : decode bM_answer 60 = .ok (.istore_n 3, 1) := by decide +kernel
set_option maxRecDepth 100000 in
theorem dM_answer_61 : decode bM_answer 61 = .ok (.aload_n 0, 1) := by decide +kernel
set_option maxRecDepth 100000 in
theorem dM_answer_62 : decode bM_answer 62 = .ok (.getfield 59, 3) := by decide +kernel
set_option maxRecDepth 100000 in
theorem dM_answer_65 : decode bM_answer 65 = .ok (.iload_n 3, 1) := by decide +kernel
set_option maxRecDepth 100000 in
theorem dM_answer_66 : decode bM_answer 66 = .ok (.iaload, 1) := by decide +kernel
set_option maxRecDepth 100000 in
theorem dM_answer_67 : decode bM_answer 67 = .ok (.iconst 4, 1) := by decide +kernel
set_option maxRecDepth 100000 in
theorem dM_answer_68 : decode bM_answer 68 = .ok (.if_icmp .ne 6, 3) := by decide +kernel
set_option maxRecDepth 100000 in
theorem dM_answer_71 : decode bM_answer 71 = .ok (.bipush (-2), 2) := by decide +kernel
set_option maxRecDepth 100000 in
theorem dM_answer_73 : decode bM_answer 73 = .ok (.ireturn, 1) := by decide +kernel
set_option maxRecDepth 100000 in
theorem dM_answer_74 : decode bM_answer 74 = .ok (.aload_n 0, 1) := by decide +kernel
set_option maxRecDepth 100000 in
theorem dM_answer_75 : decode bM_answer 75 = .ok (.getfield 65, 3) := by decide +kernel
set_option maxRecDepth 100000 in
theorem dM_answer_78 : decode bM_answer 78 = .ok (.iconst 4, 1) := by decide +kernel
set_option maxRecDepth 100000 in
theorem dM_answer_79 : decode bM_answer 79 = .ok (.iload_n 3, 1) := by decide +kernel
set_option maxRecDepth 100000 in
theorem dM_answer_80 : decode bM_answer 80 = .ok (.imul, 1) := by decide +kernel
set_option maxRecDepth 100000 in
theorem dM_answer_81 : decode bM_answer 81 = .ok (.aload_n 0, 1) := by decide +kernel
set_option maxRecDepth 100000 in
theorem dM_answer_82 : decode bM_answer 82 = .ok (.getfield 59, 3) := by decide +kernel
set_option maxRecDepth 100000 in
theorem dM_answer_85 : decode bM_answer 85 = .ok (.iload_n 3, 1) := by decide +kernel
set_option maxRecDepth 100000 in
theorem dM_answer_86 : decode bM_answer 86 = .ok (.iaload, 1) := by decide +kernel
set_option maxRecDepth 100000 in
theorem dM_answer_87 : decode bM_answer 87 = .ok (.iadd, 1) := by decide +kernel
set_option maxRecDepth 100000 in
theorem dM_answer_88 : decode bM_answer 88 = .ok (.iload_n 1, 1) := by decide +kernel
set_option maxRecDepth 100000 in
theorem dM_answer_89 : decode bM_answer 89 = .ok (.iastore, 1) := by decide +kernel
set_option maxRecDepth 100000 in
theorem dM_answer_90 : decode bM_answer 90 = .ok (.aload_n 0, 1) := by decide +kernel
set_option maxRecDepth 100000 in
theorem dM_answer_91 : decode bM_answer 91 = .ok (.getfield 68, 3) := by decide +kernel
set_option maxRecDepth 100000 in
theorem dM_answer_94 : decode bM_answer 94 = .ok (.iconst 4, 1) := by decide +kernel
set_option maxRecDepth 100000 in
theorem dM_answer_95 : decode bM_answer 95 = .ok (.iload_n 3, 1) := by decide +kernel
set_option maxRecDepth 100000 in
theorem dM_answer_96 : decode bM_answer 96 = .ok (.imul, 1) := by decide +kernel
set_option maxRecDepth 100000 in
theorem dM_answer_97 : decode bM_answer 97 = .ok (.aload_n 0, 1) := by decide +kernel
set_option maxRecDepth 100000 in
theorem dM_answer_98 : decode bM_answer 98 = .ok (.getfield 59, 3) := by decide +kernel
set_option maxRecDepth 100000 in
theorem dM_answer_101 : decode bM_answer 101 = .ok (.iload_n 3, 1) := by decide +kernel
set_option maxRecDepth 100000 in
theorem dM_answer_102 : decode bM_answer 102 = .ok (.iaload, 1) := by decide +kernel
set_option maxRecDepth 100000 in
theorem dM_answer_103 : decode bM_answer 103 = .ok (.iadd, 1) := by decide +kernel
set_option maxRecDepth 100000 in
theorem dM_answer_104 : decode bM_answer 104 = .ok (.iload_n 2, 1) := by decide +kernel
set_option maxRecDepth 100000 in
theorem dM_answer_105 : decode bM_answer 105 = .ok (.iastore, 1) := by decide +kernel
set_option maxRecDepth 100000 in
theorem dM_answer_106 : decode bM_answer 106 = .ok (.iload_n 3, 1) := by decide +kernel
set_option maxRecDepth 100000 in
theorem dM_answer_107 : decode bM_answer 107 = .ok (.bipush 16, 2) := by decide +kernel
set_option maxRecDepth 100000 in
theorem dM_answer_109 : decode bM_answer 109 = .ok (.if_icmp .ge 37, 3) := by decide +kernel
set_option maxRecDepth 100000 in
theorem dM_answer_112 : decode bM_answer 112 = .ok (.aload_n 0, 1) := by decide +kernel
set_option maxRecDepth 100000 in
theorem dM_answer_113 : decode bM_answer 113 = .ok (.iload_n 3, 1) := by decide +kernel
set_option maxRecDepth 100000 in
theorem dM_answer_114 : decode bM_answer 114 = .ok (.aload_n 0, 1) := by decide +kernel
set_option maxRecDepth 100000 in
theorem dM_answer_115 : decode bM_answer 115 = .ok (.getfield 59, 3) := by decide +kernel
set_option maxRecDepth 100000 in
theorem dM_answer_118 : decode bM_answer 118 = .ok (.iload_n 3, 1) := by decide +kernel
set_option maxRecDepth 100000 in
theorem dM_answer_119 : decode bM_answer 119 = .ok (.iaload, 1) := by decide +kernel
set_option maxRecDepth 100000 in
theorem dM_answer_120 : decode bM_answer 120 = .ok (.aload_n 0, 1) := by decide +kernel
set_option maxRecDepth 100000 in
theorem dM_answer_121 : decode bM_answer 121 = .ok (.aload_n 0, 1) := by decide +kernel
set_option maxRecDepth 100000 in
theorem dM_answer_122 : decode bM_answer 122 = .ok (.getfield 53, 3) := by decide +kernel
set_option maxRecDepth 100000 in
theorem dM_answer_125 : decode bM_answer 125 = .ok (.iload_n 3, 1) := by decide +kernel
set_option maxRecDepth 100000 in
theorem dM_answer_126 : decode bM_answer 126 = .ok (.iaload, 1) := by decide +kernel
set_option maxRecDepth 100000 in
theorem dM_answer_127 : decode bM_answer 127 = .ok (.aload_n 0, 1) := by decide +kernel
set_option maxRecDepth 100000 in
theorem dM_answer_128 : decode bM_answer 128 = .ok (.getfield 56, 3) := by decide +kernel
set_option maxRecDepth 100000 in
theorem dM_answer_131 : decode bM_answer 131 = .ok (.iload_n 3, 1) := by decide +kernel
set_option maxRecDepth 100000 in
theorem dM_answer_132 : decode bM_answer 132 = .ok (.iaload, 1) := by decide +kernel
set_option maxRecDepth 100000 in
theorem dM_answer_133 : decode bM_answer 133 = .ok (.invokevirtual 135, 3) := by decide +kernel
set_option maxRecDepth 100000 in
theorem dM_answer_136 : decode bM_answer 136 = .ok (.invokevirtual 139, 3) := by decide +kernel
set_option maxRecDepth 100000 in
theorem dM_answer_139 : decode bM_answer 139 = .ok (.ifCond .eq 7, 3) := by decide +kernel
set_option maxRecDepth 100000 in
theorem dM_answer_142 : decode bM_answer 142 = .ok (.iconst 1, 1) := by decide +kernel
set_option maxRecDepth 100000 in
theorem dM_answer_143 : decode bM_answer 143 = .ok (.goto 4, 3) := by decide +kernel
set_option maxRecDepth 100000 in
theorem dM_answer_146 : decode bM_answer 146 = .ok (.iconst 0, 1) := by decide +kernel
set_option maxRecDepth 100000 in
theorem dM_answer_147 : decode bM_answer 147 = .ok (.istore 4, 2) := by decide +kernel
set_option maxRecDepth 100000 in
theorem dM_answer_149 : decode bM_answer 149 = .ok (.aload_n 0, 1) := by decide +kernel
set_option maxRecDepth 100000 in
theorem dM_answer_150 : decode bM_answer 150 = .ok (.iconst 0, 1) := by decide +kernel
set_option maxRecDepth 100000 in
theorem dM_answer_151 : decode bM_answer 151 = .ok (.iconst (-1), 1) := by decide +kernel
set_option maxRecDepth 100000 in
theorem dM_answer_152 : decode bM_answer 152 = .ok (.iconst 1, 1) := by decide +kernel
set_option maxRecDepth 100000 in
theorem dM_answer_153 : decode bM_answer 153 = .ok (.iload 4, 2) := by decide +kernel
set_option maxRecDepth 100000 in
theorem dM_answer_155 : decode bM_answer 155 = .ok (.invokevirtual 102, 3) := by decide +kernel
set_option maxRecDepth 100000 in
theorem dM_answer_158 : decode bM_answer 158 = .ok (.istore 5, 2) := by decide +kernel
set_option maxRecDepth 100000 in
theorem dM_answer_160 : decode bM_answer 160 = .ok (.iload 5, 2) := by decide +kernel
set_option maxRecDepth 100000 in
theorem dM_answer_162 : decode bM_answer 162 = .ok (.ifCond .ge 6, 3) := by decide +kernel
set_option maxRecDepth 100000 in
theorem dM_answer_165 : decode bM_answer 165 = .ok (.iload 5, 2) := by decide +kernel
set_option maxRecDepth 100000 in
theorem dM_answer_167 : decode bM_answer 167 = .ok (.ireturn, 1) := by decide +kernel
set_option maxRecDepth 100000 in
theorem dM_answer_168 : decode bM_answer 168 = .ok (.aload_n 0, 1) := by decide +kernel
set_option maxRecDepth 100000 in
theorem dM_answer_169 : decode bM_answer 169 = .ok (.getfield 59, 3) := by decide +kernel
set_option maxRecDepth 100000 in
theorem dM_answer_172 : decode bM_answer 172 = .ok (.iload_n 3, 1) := by decide +kernel
set_option maxRecDepth 100000 in
theorem dM_answer_173 : decode bM_answer 173 = .ok (.dup2, 1) := by decide +kernel
set_option maxRecDepth 100000 in
theorem dM_answer_174 : decode bM_answer 174 = .ok (.iaload, 1) := by decide +kernel
set_option maxRecDepth 100000 in
theorem dM_answer_175 : decode bM_answer 175 = .ok (.iconst 1, 1) := by decide +kernel
set_option maxRecDepth 100000 in
theorem dM_answer_176 : decode bM_answer 176 = .ok (.iadd, 1) := by decide +kernel
set_option maxRecDepth 100000 in
theorem dM_answer_177 : decode bM_answer 177 = .ok (.iastore, 1) := by decide +kernel
set_option maxRecDepth 100000 in
theorem dM_answer_178 : decode bM_answer 178 = .ok (.iload_n 3, 1) := by decide +kernel
set_option maxRecDepth 100000 in
theorem dM_answer_179 : decode bM_answer 179 = .ok (.bipush 16, 2) := by decide +kernel
set_option maxRecDepth 100000 in
theorem dM_answer_181 : decode bM_answer 181 = .ok (.if_icmp .ne 8, 3) := by decide +kernel
set_option maxRecDepth 100000 in
theorem dM_answer_184 : decode bM_answer 184 = .ok (.aload_n 0, 1) := by decide +kernel
set_option maxRecDepth 100000 in
theorem dM_answer_185 : decode bM_answer 185 = .ok (.iconst 0, 1) := by decide +kernel
set_option maxRecDepth 100000 in
theorem dM_answer_186 : decode bM_answer 186 = .ok (.putfield 90, 3) := by decide +kernel
set_option maxRecDepth 100000 in
theorem dM_answer_189 : decode bM_answer 189 = .ok (.aload_n 0, 1) := by decide +kernel
set_option maxRecDepth 100000 in
theorem dM_answer_190 : decode bM_answer 190 = .ok (.getfield 59, 3) := by decide +kernel
set_option maxRecDepth 100000 in
theorem dM_answer_193 : decode bM_answer 193 = .ok (.iload_n 3, 1) := by decide +kernel
set_option maxRecDepth 100000 in
theorem dM_answer_194 : decode bM_answer 194 = .ok (.iaload, 1) := by decide +kernel
set_option maxRecDepth 100000 in
theorem dM_answer_195 : decode bM_answer 195 = .ok (.ireturn, 1) := by decide +kernel
def fM_answer_147 (τ : yS) (a3 : Int32) (t0 : Int32) : Option (Int32 × yS) :=
  xb (fM_misuse τ 0 (-1) 1 t0) fun r27 s28 =>
  if 0 ≤ r27 then
  (if ¬ (a3 < 0 ∨ 17 ≤ a3.toNatClampNeg) then
  xl (y_si s28 47 0 a3.toNatClampNeg ((s28 47 0 a3.toNatClampNeg) + 1)) fun s31 =>
  if a3 = 16 then
  (xl (y_si s31 30 0 9 0) fun s33 =>
  some (s33 47 0 a3.toNatClampNeg, s33))
  else
  (some (s31 47 0 a3.toNatClampNeg, s31))
  else none)
  else
  (some (r27, s28))
def fM_answer_146 (τ : yS) (a3 : Int32) : Option (Int32 × yS) :=
  fM_answer_147 τ a3 0
def fM_answer_60 (τ : yS) (a1 : Int32) (a2 : Int32) (t0 : Int32) : Option (Int32 × yS) :=
  if ¬ (t0 < 0 ∨ 17 ≤ t0.toNatClampNeg) then
  if (τ 47 0 t0.toNatClampNeg) = 4 then
  (some ((-2), τ))
  else
  (if ¬ (((4 * t0) + (τ 47 0 t0.toNatClampNeg)) < 0 ∨ 68 ≤ ((4 * t0) + (τ 47 0 t0.toNatClampNeg)).toNatClampNeg) then
  xl (y_si τ 49 0 (((4 * t0) + (τ 47 0 t0.toNatClampNeg)).toNatClampNeg) a1) fun s37 =>
  if ¬ (((4 * t0) + (s37 47 0 t0.toNatClampNeg)) < 0 ∨ 68 ≤ ((4 * t0) + (s37 47 0 t0.toNatClampNeg)).toNatClampNeg) then
  xl (y_si s37 50 0 (((4 * t0) + (s37 47 0 t0.toNatClampNeg)).toNatClampNeg) a2) fun s39 =>
  if 16 ≤ t0 then
  (fM_answer_146 s39 t0)
  else
  (if ¬ (t0 < 0 ∨ 16 ≤ t0.toNatClampNeg) then
  xp (fM_shape s39 (s39 45 0 t0.toNatClampNeg) (s39 46 0 t0.toNatClampNeg)) fun r43 =>
  xp (fM_willNotDo s39 t0 (s39 47 0 t0.toNatClampNeg) r43) fun r45 =>
  if r45 = 0 then
  (fM_answer_146 s39 t0)
  else
  (fM_answer_147 s39 t0 1)
  else none)
  else none
  else none)
  else none
def fM_answer_41 (τ : yS) (a1 : Int32) (a2 : Int32) : Option (Int32 × yS) :=
  if (τ 30 0 9) = 4 then
  (fM_answer_60 τ a1 a2 ((τ 30 0 29) - 1))
  else
  (fM_answer_60 τ a1 a2 16)
def fM_answer_25 (τ : yS) (a1 : Int32) (a2 : Int32) : Option (Int32 × yS) :=
  if a1 = 2 then
  (if (fM_in a2 0 1) = 0 then
  (some ((-1), τ))
  else
  (fM_answer_41 τ a1 a2))
  else
  (fM_answer_41 τ a1 a2)
def fM_answer (τ : yS) (a1 : Int32) (a2 : Int32) : Option (Int32 × yS) :=
  if (fM_in a1 0 3) = 0 then
  (some ((-1), τ))
  else
  (if a1 = 1 then
  (if (fM_in a2 0 999) = 0 then
  (some ((-1), τ))
  else
  (fM_answer_25 τ a1 a2))
  else
  (fM_answer_25 τ a1 a2))
set_option maxHeartbeats 4000000 in
set_option maxRecDepth 100000 in
theorem wM_answer_147 {p : Program} {l : Launch} {e : Env} {R : Room} {s : State} {m : MethodId} {args : Array Value} {below : List Frame} {meth : Method} {c : Code} {E : xE} {A : Nat → Prop} {σ : xS} (C : xC p s m args meth c R E A bM_answer 6 yM_answer (some .int) 1 0 0) (τ : yS) (a3 : Int32) (t0 : Int32) (res : Int32 × yS) (hf : fM_answer_147 τ a3 t0 = some res) (H : Heap) (locs : List Loc) (ls : Array Slot) (hw : xW E A s σ τ H locs) (hl : lv_has ls 6 [(0, .ref (E.2.2.1 30 0)), (3, .int a3)]) : W p l e R s m args below meth c H locs 0 0 (MQ below (xQ E A (some (.int res.1)) σ res.2) args s 0 0 A) (F0 m 147 ls [.int t0]) := by
  have hx := C.1
  have hb := C.2.1
  unfold fM_answer_147 at hf
  refine lv_istore (lv' := [(4, .int t0), (0, .ref (E.2.2.1 30 0)), (3, .int a3)]) hx hb dM_answer_147 hl (by decide) rfl (fun ls hl => ?_)
  refine lv_aload_n hx hb dM_answer_149 rfl (lv_at hl 1 rfl) ?_
  refine lv_iconst (v := 0) hx hb dM_answer_150 (by decide) ?_
  refine lv_iconst (v := (-1)) hx hb dM_answer_151 (by decide) ?_
  refine lv_iconst (v := 1) hx hb dM_answer_152 (by decide) ?_
  refine lv_iload hx hb dM_answer_153 (lv_at hl 0 rfl) ?_
  obtain ⟨r27, s28, h26, hf⟩ := x_b hf
  refine x_callV (As := [.int 0, .int (-1), .int 1, .int t0]) (rest := []) (st1 := [.int r27]) C hw (cM_misuse l E τ σ 0 (-1) 1 t0 (r27, s28) h26) kM_102 (x_recvY C hw 30 0 at_30 rfl rfl) (by decide) rfl rfl hl.1 (lv_room (Nat.le_of_ble_eq_true rfl)) dM_answer_155 ⟨by decide, by decide⟩ rfl (fun H locs hw => ?_)
  refine lv_istore (lv' := [(5, .int r27), (4, .int t0), (0, .ref (E.2.2.1 30 0)), (3, .int a3)]) hx hb dM_answer_158 hl (by decide) rfl (fun ls hl => ?_)
  refine lv_iload hx hb dM_answer_160 (lv_at hl 0 rfl) ?_
  refine lv_if_ge (tgt := 168) hx hb dM_answer_162 (by decide) (fun c29 => ?_) (fun c29 => ?_)
  · replace hf := x_ip c29 hf
    refine lv_aload_n hx hb dM_answer_168 rfl (lv_at hl 2 rfl) ?_
    refine y_get C hw 30 0 24 (v := .ref (E.2.2.1 47 0)) at_30 rfl rfl ⟨by decide, by decide⟩ wM_59 rfl dM_answer_169 ?_
    refine lv_iload_n hx hb dM_answer_172 rfl (lv_at hl 3 rfl) ?_
    refine lv_dup2_11 hx hb dM_answer_173 rfl rfl ?_
    obtain ⟨g30, hf⟩ := x_g hf
    refine y_ild C hw 47 0 at_47 rfl g30 dM_answer_174 ?_
    refine lv_iconst (v := 1) hx hb dM_answer_175 (by decide) ?_
    refine lv_iadd hx hb dM_answer_176 ?_
    refine y_ist C hw 47 0 at_47 rfl rfl g30 dM_answer_177 (fun H locs hw => ?_)
    obtain ⟨s31, es31, hf⟩ := x_l hf
    rw [← es31] at hw
    refine lv_iload_n hx hb dM_answer_178 rfl (lv_at hl 3 rfl) ?_
    refine lv_bipush (v := 16) hx hb dM_answer_179 (by decide) ?_
    refine lv_icmp_ne (tgt := 189) hx hb dM_answer_181 (by decide) (fun c32 => ?_) (fun c32 => ?_)
    · replace hf := x_in c32 hf
      refine lv_aload_n hx hb dM_answer_189 rfl (lv_at hl 2 rfl) ?_
      refine y_get C hw 30 0 24 (v := .ref (E.2.2.1 47 0)) at_30 rfl rfl ⟨by decide, by decide⟩ wM_59 rfl dM_answer_190 ?_
      refine lv_iload_n hx hb dM_answer_193 rfl (lv_at hl 3 rfl) ?_
      refine y_ild C hw 47 0 at_47 rfl g30 dM_answer_194 ?_
      obtain rfl := Option.some.inj hf
      exact x_iret C hw dM_answer_195
    · replace hf := x_ip c32 hf
      refine lv_aload_n hx hb dM_answer_184 rfl (lv_at hl 2 rfl) ?_
      refine lv_iconst (v := 0) hx hb dM_answer_185 (by decide) ?_
      refine y_puti C hw 30 0 9 at_30 rfl rfl rfl ⟨rfl, rfl⟩ ⟨by decide, by decide⟩ (Nat.le_of_ble_eq_true rfl) wM_90 dM_answer_186 (fun H locs hw => ?_)
      obtain ⟨s33, es33, hf⟩ := x_l hf
      rw [← es33] at hw
      refine lv_aload_n hx hb dM_answer_189 rfl (lv_at hl 2 rfl) ?_
      refine y_get C hw 30 0 24 (v := .ref (E.2.2.1 47 0)) at_30 rfl rfl ⟨by decide, by decide⟩ wM_59 rfl dM_answer_190 ?_
      refine lv_iload_n hx hb dM_answer_193 rfl (lv_at hl 3 rfl) ?_
      refine y_ild C hw 47 0 at_47 rfl g30 dM_answer_194 ?_
      obtain rfl := Option.some.inj hf
      exact x_iret C hw dM_answer_195
  · replace hf := x_in c29 hf
    refine lv_iload hx hb dM_answer_165 (lv_at hl 0 rfl) ?_
    obtain rfl := Option.some.inj hf
    exact x_iret C hw dM_answer_167
set_option maxHeartbeats 4000000 in
set_option maxRecDepth 100000 in
theorem wM_answer_146 {p : Program} {l : Launch} {e : Env} {R : Room} {s : State} {m : MethodId} {args : Array Value} {below : List Frame} {meth : Method} {c : Code} {E : xE} {A : Nat → Prop} {σ : xS} (C : xC p s m args meth c R E A bM_answer 6 yM_answer (some .int) 1 0 0) (τ : yS) (a3 : Int32) (res : Int32 × yS) (hf : fM_answer_146 τ a3 = some res) (H : Heap) (locs : List Loc) (ls : Array Slot) (hw : xW E A s σ τ H locs) (hl : lv_has ls 6 [(0, .ref (E.2.2.1 30 0)), (3, .int a3)]) : W p l e R s m args below meth c H locs 0 0 (MQ below (xQ E A (some (.int res.1)) σ res.2) args s 0 0 A) (F0 m 146 ls []) := by
  have hx := C.1
  have hb := C.2.1
  unfold fM_answer_146 at hf
  refine lv_iconst (v := 0) hx hb dM_answer_146 (by decide) ?_
  exact wM_answer_147 C τ a3 0 res hf H locs ls hw (lv_sub hl [0, 1] rfl)
set_option maxHeartbeats 4000000 in
set_option maxRecDepth 100000 in
theorem wM_answer_60 {p : Program} {l : Launch} {e : Env} {R : Room} {s : State} {m : MethodId} {args : Array Value} {below : List Frame} {meth : Method} {c : Code} {E : xE} {A : Nat → Prop} {σ : xS} (C : xC p s m args meth c R E A bM_answer 6 yM_answer (some .int) 1 0 0) (τ : yS) (a1 : Int32) (a2 : Int32) (t0 : Int32) (res : Int32 × yS) (hf : fM_answer_60 τ a1 a2 t0 = some res) (H : Heap) (locs : List Loc) (ls : Array Slot) (hw : xW E A s σ τ H locs) (hl : lv_has ls 6 [(0, .ref (E.2.2.1 30 0)), (1, .int a1), (2, .int a2)]) : W p l e R s m args below meth c H locs 0 0 (MQ below (xQ E A (some (.int res.1)) σ res.2) args s 0 0 A) (F0 m 60 ls [.int t0]) := by
  have hx := C.1
  have hb := C.2.1
  unfold fM_answer_60 at hf
  refine lv_istore_n (lv' := [(3, .int t0), (0, .ref (E.2.2.1 30 0)), (1, .int a1), (2, .int a2)]) hx hb dM_answer_60 rfl hl (by decide) rfl (fun ls hl => ?_)
  refine lv_aload_n hx hb dM_answer_61 rfl (lv_at hl 1 rfl) ?_
  refine y_get C hw 30 0 24 (v := .ref (E.2.2.1 47 0)) at_30 rfl rfl ⟨by decide, by decide⟩ wM_59 rfl dM_answer_62 ?_
  refine lv_iload_n hx hb dM_answer_65 rfl (lv_at hl 0 rfl) ?_
  obtain ⟨g34, hf⟩ := x_g hf
  refine y_ild C hw 47 0 at_47 rfl g34 dM_answer_66 ?_
  refine lv_iconst (v := 4) hx hb dM_answer_67 (by decide) ?_
  refine lv_icmp_ne (tgt := 74) hx hb dM_answer_68 (by decide) (fun c35 => ?_) (fun c35 => ?_)
  · replace hf := x_in c35 hf
    refine lv_aload_n hx hb dM_answer_74 rfl (lv_at hl 1 rfl) ?_
    refine y_get C hw 30 0 26 (v := .ref (E.2.2.1 49 0)) at_30 rfl rfl ⟨by decide, by decide⟩ wM_65 rfl dM_answer_75 ?_
    refine lv_iconst (v := 4) hx hb dM_answer_78 (by decide) ?_
    refine lv_iload_n hx hb dM_answer_79 rfl (lv_at hl 0 rfl) ?_
    refine lv_imul hx hb dM_answer_80 ?_
    refine lv_aload_n hx hb dM_answer_81 rfl (lv_at hl 1 rfl) ?_
    refine y_get C hw 30 0 24 (v := .ref (E.2.2.1 47 0)) at_30 rfl rfl ⟨by decide, by decide⟩ wM_59 rfl dM_answer_82 ?_
    refine lv_iload_n hx hb dM_answer_85 rfl (lv_at hl 0 rfl) ?_
    refine y_ild C hw 47 0 at_47 rfl g34 dM_answer_86 ?_
    refine lv_iadd hx hb dM_answer_87 ?_
    refine lv_iload_n hx hb dM_answer_88 rfl (lv_at hl 2 rfl) ?_
    obtain ⟨g36, hf⟩ := x_g hf
    refine y_ist C hw 49 0 at_49 rfl rfl g36 dM_answer_89 (fun H locs hw => ?_)
    obtain ⟨s37, es37, hf⟩ := x_l hf
    rw [← es37] at hw
    refine lv_aload_n hx hb dM_answer_90 rfl (lv_at hl 1 rfl) ?_
    refine y_get C hw 30 0 27 (v := .ref (E.2.2.1 50 0)) at_30 rfl rfl ⟨by decide, by decide⟩ wM_68 rfl dM_answer_91 ?_
    refine lv_iconst (v := 4) hx hb dM_answer_94 (by decide) ?_
    refine lv_iload_n hx hb dM_answer_95 rfl (lv_at hl 0 rfl) ?_
    refine lv_imul hx hb dM_answer_96 ?_
    refine lv_aload_n hx hb dM_answer_97 rfl (lv_at hl 1 rfl) ?_
    refine y_get C hw 30 0 24 (v := .ref (E.2.2.1 47 0)) at_30 rfl rfl ⟨by decide, by decide⟩ wM_59 rfl dM_answer_98 ?_
    refine lv_iload_n hx hb dM_answer_101 rfl (lv_at hl 0 rfl) ?_
    refine y_ild C hw 47 0 at_47 rfl g34 dM_answer_102 ?_
    refine lv_iadd hx hb dM_answer_103 ?_
    refine lv_iload_n hx hb dM_answer_104 rfl (lv_at hl 3 rfl) ?_
    obtain ⟨g38, hf⟩ := x_g hf
    refine y_ist C hw 50 0 at_50 rfl rfl g38 dM_answer_105 (fun H locs hw => ?_)
    obtain ⟨s39, es39, hf⟩ := x_l hf
    rw [← es39] at hw
    refine lv_iload_n hx hb dM_answer_106 rfl (lv_at hl 0 rfl) ?_
    refine lv_bipush (v := 16) hx hb dM_answer_107 (by decide) ?_
    refine lv_icmp_ge (tgt := 146) hx hb dM_answer_109 (by decide) (fun c40 => ?_) (fun c40 => ?_)
    · replace hf := x_ip c40 hf
      exact wM_answer_146 C s39 t0 res hf H locs ls hw (lv_sub hl [1, 0] rfl)
    · replace hf := x_in c40 hf
      refine lv_aload_n hx hb dM_answer_112 rfl (lv_at hl 1 rfl) ?_
      refine lv_iload_n hx hb dM_answer_113 rfl (lv_at hl 0 rfl) ?_
      refine lv_aload_n hx hb dM_answer_114 rfl (lv_at hl 1 rfl) ?_
      refine y_get C hw 30 0 24 (v := .ref (E.2.2.1 47 0)) at_30 rfl rfl ⟨by decide, by decide⟩ wM_59 rfl dM_answer_115 ?_
      refine lv_iload_n hx hb dM_answer_118 rfl (lv_at hl 0 rfl) ?_
      refine y_ild C hw 47 0 at_47 rfl g34 dM_answer_119 ?_
      refine lv_aload_n hx hb dM_answer_120 rfl (lv_at hl 1 rfl) ?_
      refine lv_aload_n hx hb dM_answer_121 rfl (lv_at hl 1 rfl) ?_
      refine y_get C hw 30 0 22 (v := .ref (E.2.2.1 45 0)) at_30 rfl rfl ⟨by decide, by decide⟩ wM_53 rfl dM_answer_122 ?_
      refine lv_iload_n hx hb dM_answer_125 rfl (lv_at hl 0 rfl) ?_
      obtain ⟨g41, hf⟩ := x_g hf
      refine y_ild C hw 45 0 at_45 rfl g41 dM_answer_126 ?_
      refine lv_aload_n hx hb dM_answer_127 rfl (lv_at hl 1 rfl) ?_
      refine y_get C hw 30 0 23 (v := .ref (E.2.2.1 46 0)) at_30 rfl rfl ⟨by decide, by decide⟩ wM_56 rfl dM_answer_128 ?_
      refine lv_iload_n hx hb dM_answer_131 rfl (lv_at hl 0 rfl) ?_
      refine y_ild C hw 46 0 at_46 rfl g41 dM_answer_132 ?_
      obtain ⟨r43, h42, hf⟩ := x_p hf
      refine x_callV (As := [.int (s39 45 0 t0.toNatClampNeg), .int (s39 46 0 t0.toNatClampNeg)]) (rest := [.int (s39 47 0 t0.toNatClampNeg), .int t0, .ref (E.2.2.1 30 0)]) (st1 := [.int r43, .int (s39 47 0 t0.toNatClampNeg), .int t0, .ref (E.2.2.1 30 0)]) C hw (cM_shape l E s39 σ (s39 45 0 t0.toNatClampNeg) (s39 46 0 t0.toNatClampNeg) r43 h42) kM_135 (x_recvY C hw 30 0 at_30 rfl rfl) (by decide) rfl rfl hl.1 (lv_room (Nat.le_of_ble_eq_true rfl)) dM_answer_133 ⟨by decide, by decide⟩ rfl (fun H locs hw => ?_)
      obtain ⟨r45, h44, hf⟩ := x_p hf
      refine x_callV (As := [.int t0, .int (s39 47 0 t0.toNatClampNeg), .int r43]) (rest := []) (st1 := [.int r45]) C hw (cM_willNotDo l E s39 σ t0 (s39 47 0 t0.toNatClampNeg) r43 r45 h44) kM_139 (x_recvY C hw 30 0 at_30 rfl rfl) (by decide) rfl rfl hl.1 (lv_room (Nat.le_of_ble_eq_true rfl)) dM_answer_136 ⟨by decide, by decide⟩ rfl (fun H locs hw => ?_)
      refine lv_if_eq (tgt := 146) hx hb dM_answer_139 (by decide) (fun c46 => ?_) (fun c46 => ?_)
      · replace hf := x_ip c46 hf
        exact wM_answer_146 C s39 t0 res hf H locs ls hw (lv_sub hl [1, 0] rfl)
      · replace hf := x_in c46 hf
        refine lv_iconst (v := 1) hx hb dM_answer_142 (by decide) ?_
        refine lv_goto (tgt := 147) hx hb dM_answer_143 (by decide) ?_
        exact wM_answer_147 C s39 t0 1 res hf H locs ls hw (lv_sub hl [1, 0] rfl)
  · replace hf := x_ip c35 hf
    refine lv_bipush (v := (-2)) hx hb dM_answer_71 (by decide) ?_
    obtain rfl := Option.some.inj hf
    exact x_iret C hw dM_answer_73
set_option maxHeartbeats 4000000 in
set_option maxRecDepth 100000 in
theorem wM_answer_41 {p : Program} {l : Launch} {e : Env} {R : Room} {s : State} {m : MethodId} {args : Array Value} {below : List Frame} {meth : Method} {c : Code} {E : xE} {A : Nat → Prop} {σ : xS} (C : xC p s m args meth c R E A bM_answer 6 yM_answer (some .int) 1 0 0) (τ : yS) (a1 : Int32) (a2 : Int32) (res : Int32 × yS) (hf : fM_answer_41 τ a1 a2 = some res) (H : Heap) (locs : List Loc) (ls : Array Slot) (hw : xW E A s σ τ H locs) (hl : lv_has ls 6 [(0, .ref (E.2.2.1 30 0)), (1, .int a1), (2, .int a2)]) : W p l e R s m args below meth c H locs 0 0 (MQ below (xQ E A (some (.int res.1)) σ res.2) args s 0 0 A) (F0 m 41 ls []) := by
  have hx := C.1
  have hb := C.2.1
  unfold fM_answer_41 at hf
  refine lv_aload_n hx hb dM_answer_41 rfl (lv_at hl 0 rfl) ?_
  refine y_get C hw 30 0 9 (v := .int (τ 30 0 9)) at_30 rfl rfl ⟨by decide, by decide⟩ wM_90 rfl dM_answer_42 ?_
  refine lv_iconst (v := 4) hx hb dM_answer_45 (by decide) ?_
  refine lv_icmp_ne (tgt := 58) hx hb dM_answer_46 (by decide) (fun c47 => ?_) (fun c47 => ?_)
  · replace hf := x_in c47 hf
    refine lv_bipush (v := 16) hx hb dM_answer_58 (by decide) ?_
    exact wM_answer_60 C τ a1 a2 16 res hf H locs ls hw (lv_sub hl [0, 1, 2] rfl)
  · replace hf := x_ip c47 hf
    refine lv_aload_n hx hb dM_answer_49 rfl (lv_at hl 0 rfl) ?_
    refine y_get C hw 30 0 29 (v := .int (τ 30 0 29)) at_30 rfl rfl ⟨by decide, by decide⟩ wM_93 rfl dM_answer_50 ?_
    refine lv_iconst (v := 1) hx hb dM_answer_53 (by decide) ?_
    refine lv_isub hx hb dM_answer_54 ?_
    refine lv_goto (tgt := 60) hx hb dM_answer_55 (by decide) ?_
    exact wM_answer_60 C τ a1 a2 ((τ 30 0 29) - 1) res hf H locs ls hw (lv_sub hl [0, 1, 2] rfl)
set_option maxHeartbeats 4000000 in
set_option maxRecDepth 100000 in
theorem wM_answer_25 {p : Program} {l : Launch} {e : Env} {R : Room} {s : State} {m : MethodId} {args : Array Value} {below : List Frame} {meth : Method} {c : Code} {E : xE} {A : Nat → Prop} {σ : xS} (C : xC p s m args meth c R E A bM_answer 6 yM_answer (some .int) 1 0 0) (τ : yS) (a1 : Int32) (a2 : Int32) (res : Int32 × yS) (hf : fM_answer_25 τ a1 a2 = some res) (H : Heap) (locs : List Loc) (ls : Array Slot) (hw : xW E A s σ τ H locs) (hl : lv_has ls 6 [(0, .ref (E.2.2.1 30 0)), (1, .int a1), (2, .int a2)]) : W p l e R s m args below meth c H locs 0 0 (MQ below (xQ E A (some (.int res.1)) σ res.2) args s 0 0 A) (F0 m 25 ls []) := by
  have hx := C.1
  have hb := C.2.1
  unfold fM_answer_25 at hf
  refine lv_iload_n hx hb dM_answer_25 rfl (lv_at hl 1 rfl) ?_
  refine lv_iconst (v := 2) hx hb dM_answer_26 (by decide) ?_
  refine lv_icmp_ne (tgt := 41) hx hb dM_answer_27 (by decide) (fun c48 => ?_) (fun c48 => ?_)
  · replace hf := x_in c48 hf
    exact wM_answer_41 C τ a1 a2 res hf H locs ls hw (lv_sub hl [0, 1, 2] rfl)
  · replace hf := x_ip c48 hf
    refine lv_iload_n hx hb dM_answer_30 rfl (lv_at hl 2 rfl) ?_
    refine lv_iconst (v := 0) hx hb dM_answer_31 (by decide) ?_
    refine lv_iconst (v := 1) hx hb dM_answer_32 (by decide) ?_
    refine x_callS (As := [.int a2, .int 0, .int 1]) (rest := []) (st1 := [.int (fM_in a2 0 1)]) C hw (cM_in l E τ σ a2 0 1) kM_106 (by decide) rfl rfl hl.1 (lv_room (Nat.le_of_ble_eq_true rfl)) dM_answer_33 ⟨by decide, by decide⟩ rfl (fun H locs hw => ?_)
    refine lv_if_ne (tgt := 41) hx hb dM_answer_36 (by decide) (fun c50 => ?_) (fun c50 => ?_)
    · replace hf := x_in c50 hf
      exact wM_answer_41 C τ a1 a2 res hf H locs ls hw (lv_sub hl [0, 1, 2] rfl)
    · replace hf := x_ip c50 hf
      refine lv_iconst (v := (-1)) hx hb dM_answer_39 (by decide) ?_
      obtain rfl := Option.some.inj hf
      exact x_iret C hw dM_answer_40
set_option maxHeartbeats 4000000 in
set_option maxRecDepth 100000 in
theorem cM_answer (l : Launch) (E : xE) (τ : yS) (σ : xS) (a1 : Int32) (a2 : Int32) (res : Int32 × yS) (hf : fM_answer τ a1 a2 = some res) : xM l E yM_answer bM_answer 6 (some .int) 1 0 0 [.ref (E.2.2.1 30 0), .int a1, .int a2] σ τ (some (.int res.1)) σ res.2 := by
  refine x_met (by decide) (Nat.le_of_ble_eq_true rfl) (fun p e R s m args below meth c A ls H locs C hw hl => ?_)
  have hl : lv_has ls 6 [(0, .ref (E.2.2.1 30 0)), (1, .int a1), (2, .int a2)] := hl
  have hx := C.1
  have hb := C.2.1
  unfold fM_answer at hf
  refine lv_iload_n hx hb dM_answer_0 rfl (lv_at hl 1 rfl) ?_
  refine lv_iconst (v := 0) hx hb dM_answer_1 (by decide) ?_
  refine lv_iconst (v := 3) hx hb dM_answer_2 (by decide) ?_
  refine x_callS (As := [.int a1, .int 0, .int 3]) (rest := []) (st1 := [.int (fM_in a1 0 3)]) C hw (cM_in l E τ σ a1 0 3) kM_106 (by decide) rfl rfl hl.1 (lv_room (Nat.le_of_ble_eq_true rfl)) dM_answer_3 ⟨by decide, by decide⟩ rfl (fun H locs hw => ?_)
  refine lv_if_eq (tgt := 39) hx hb dM_answer_6 (by decide) (fun c52 => ?_) (fun c52 => ?_)
  · replace hf := x_ip c52 hf
    refine lv_iconst (v := (-1)) hx hb dM_answer_39 (by decide) ?_
    obtain rfl := Option.some.inj hf
    exact x_iret C hw dM_answer_40
  · replace hf := x_in c52 hf
    refine lv_iload_n hx hb dM_answer_9 rfl (lv_at hl 1 rfl) ?_
    refine lv_iconst (v := 1) hx hb dM_answer_10 (by decide) ?_
    refine lv_icmp_ne (tgt := 25) hx hb dM_answer_11 (by decide) (fun c53 => ?_) (fun c53 => ?_)
    · replace hf := x_in c53 hf
      exact wM_answer_25 C τ a1 a2 res hf H locs ls hw (lv_sub hl [0, 1, 2] rfl)
    · replace hf := x_ip c53 hf
      refine lv_iload_n hx hb dM_answer_14 rfl (lv_at hl 2 rfl) ?_
      refine lv_iconst (v := 0) hx hb dM_answer_15 (by decide) ?_
      refine lv_sipush (v := 999) hx hb dM_answer_16 (by decide) ?_
      refine x_callS (As := [.int a2, .int 0, .int 999]) (rest := []) (st1 := [.int (fM_in a2 0 999)]) C hw (cM_in l E τ σ a2 0 999) kM_106 (by decide) rfl rfl hl.1 (lv_room (Nat.le_of_ble_eq_true rfl)) dM_answer_19 ⟨by decide, by decide⟩ rfl (fun H locs hw => ?_)
      refine lv_if_eq (tgt := 39) hx hb dM_answer_22 (by decide) (fun c55 => ?_) (fun c55 => ?_)
      · replace hf := x_ip c55 hf
        refine lv_iconst (v := (-1)) hx hb dM_answer_39 (by decide) ?_
        obtain rfl := Option.some.inj hf
        exact x_iret C hw dM_answer_40
      · replace hf := x_in c55 hf
        exact wM_answer_25 C τ a1 a2 res hf H locs ls hw (lv_sub hl [0, 1, 2] rfl)
-- StandInsModel told (I)I
set_option maxRecDepth 100000 in
theorem dM_told_0 : decode bM_told 0 = .ok (.iload_n 1, 1) := by decide +kernel
set_option maxRecDepth 100000 in
theorem dM_told_1 : decode bM_told 1 = .ok (.iconst 0, 1) := by decide +kernel
set_option maxRecDepth 100000 in
theorem dM_told_2 : decode bM_told 2 = .ok (.aload_n 0, 1) := by decide +kernel
set_option maxRecDepth 100000 in
theorem dM_told_3 : decode bM_told 3 = .ok (.getfield 110, 3) := by decide +kernel
set_option maxRecDepth 100000 in
theorem dM_told_6 : decode bM_told 6 = .ok (.iconst 1, 1) := by decide +kernel
set_option maxRecDepth 100000 in
theorem dM_told_7 : decode bM_told 7 = .ok (.isub, 1) := by decide +kernel
set_option maxRecDepth 100000 in
theorem dM_told_8 : decode bM_told 8 = .ok (.invokestatic 106, 3) := by decide +kernel
set_option maxRecDepth 100000 in
theorem dM_told_11 : decode bM_told 11 = .ok (.ifCond .ne 5, 3) := by decide +kernel
set_option maxRecDepth 100000 in
theorem dM_told_14 : decode bM_told 14 = .ok (.iconst (-1), 1) := by decide +kernel
set_option maxRecDepth 100000 in
theorem dM_told_15 : decode bM_told 15 = .ok (.ireturn, 1) := by decide +kernel
set_option maxRecDepth 100000 in
theorem dM_told_16 : decode bM_told 16 = .ok (.aload_n 0, 1) := by decide +kernel
set_option maxRecDepth 100000 in
theorem dM_told_17 : decode bM_told 17 = .ok (.aload_n 0, 1) := by decide +kernel
set_option maxRecDepth 100000 in
theorem dM_told_18 : decode bM_told 18 = .ok (.getfield 59, 3) := by decide +kernel
set_option maxRecDepth 100000 in
theorem dM_told_21 : decode bM_told 21 = .ok (.bipush 16, 2) := by decide +kernel
set_option maxRecDepth 100000 in
theorem dM_told_23 : decode bM_told 23 = .ok (.iaload, 1) := by decide +kernel
set_option maxRecDepth 100000 in
theorem dM_told_24 : decode bM_told 24 = .ok (.ifCond .ne 7, 3) := by decide +kernel
set_option maxRecDepth 100000 in
theorem dM_told_27 : decode bM_told 27 = .ok (.iconst 1, 1) := by decide +kernel
set_option maxRecDepth 100000 in
theorem dM_told_28 : decode bM_told 28 = .ok (.goto 4, 3) := by decide +kernel
set_option maxRecDepth 100000 in
theorem dM_told_31 : decode bM_told 31 = .ok (.iconst 0, 1) := by decide +kernel
set_option maxRecDepth 100000 in
theorem dM_told_32 : decode bM_told 32 = .ok (.invokevirtual 113, 3) := by decide +kernel
set_option maxRecDepth 100000 in
theorem dM_told_35 : decode bM_told 35 = .ok (.istore_n 2, 1) := by decide +kernel
set_option maxRecDepth 100000 in
theorem dM_told_36 : decode bM_told 36 = .ok (.iload_n 2, 1) := by decide +kernel
set_option maxRecDepth 100000 in
theorem dM_told_37 : decode bM_told 37 = .ok (.ifCond .ge 5, 3) := by decide +kernel
set_option maxRecDepth 100000 in
theorem dM_told_40 : decode bM_told 40 = .ok (.iload_n 2, 1) := by decide +kernel
set_option maxRecDepth 100000 in
theorem dM_told_41 : decode bM_told 41 = .ok (.ireturn, 1) := by decide +kernel
set_option maxRecDepth 100000 in
theorem dM_told_42 : decode bM_told 42 = .ok (.aload_n 0, 1) := by decide +kernel
set_option maxRecDepth 100000 in
theorem dM_told_43 : decode bM_told 43 = .ok (.iconst 2, 1) := by decide +kernel
set_option maxRecDepth 100000 in
theorem dM_told_44 : decode bM_told 44 = .ok (.putfield 90, 3) := by decide +kernel
set_option maxRecDepth 100000 in
theorem dM_told_47 : decode bM_told 47 = .ok (.aload_n 0, 1) := by decide +kernel
set_option maxRecDepth 100000 in
theorem dM_told_48 : decode bM_told 48 = .ok (.iload_n 1, 1) := by decide +kernel
set_option maxRecDepth 100000 in
theorem dM_told_49 : decode bM_told 49 = .ok (.putfield 87, 3) := by decide +kernel
set_option maxRecDepth 100000 in
theorem dM_told_52 : decode bM_told 52 = .ok (.aload_n 0, 1) := by decide +kernel
set_option maxRecDepth 100000 in
theorem dM_told_53 : decode bM_told 53 = .ok (.getfield 59, 3) := by decide +kernel
set_option maxRecDepth 100000 in
theorem dM_told_56 : decode bM_told 56 = .ok (.bipush 16, 2) := by decide +kernel
set_option maxRecDepth 100000 in
theorem dM_told_58 : decode bM_told 58 = .ok (.iaload, 1) := by decide +kernel
set_option maxRecDepth 100000 in
theorem dM_told_59 : decode bM_told 59 = .ok (.ireturn, 1) := by decide +kernel
def fM_told_32 (τ : yS) (a1 : Int32) (t0 : Int32) : Option (Int32 × yS) :=
  xb (fM_other τ t0) fun r8 s9 =>
  if 0 ≤ r8 then
  (xl (y_si s9 30 0 9 2) fun s11 =>
  xl (y_si s11 30 0 10 a1) fun s12 =>
  some (s12 47 0 ((16 : Int32).toNatClampNeg), s12))
  else
  (some (r8, s9))
def fM_told (τ : yS) (a1 : Int32) : Option (Int32 × yS) :=
  if (fM_in a1 0 ((τ 30 0 4) - 1)) = 0 then
  (some ((-1), τ))
  else
  (if (τ 47 0 ((16 : Int32).toNatClampNeg)) = 0 then
  (fM_told_32 τ a1 1)
  else
  (fM_told_32 τ a1 0))
set_option maxHeartbeats 4000000 in
set_option maxRecDepth 100000 in
theorem wM_told_32 {p : Program} {l : Launch} {e : Env} {R : Room} {s : State} {m : MethodId} {args : Array Value} {below : List Frame} {meth : Method} {c : Code} {E : xE} {A : Nat → Prop} {σ : xS} (C : xC p s m args meth c R E A bM_told 3 yM_told (some .int) 2 0 0) (τ : yS) (a1 : Int32) (t0 : Int32) (res : Int32 × yS) (hf : fM_told_32 τ a1 t0 = some res) (H : Heap) (locs : List Loc) (ls : Array Slot) (hw : xW E A s σ τ H locs) (hl : lv_has ls 3 [(0, .ref (E.2.2.1 30 0)), (1, .int a1)]) : W p l e R s m args below meth c H locs 0 0 (MQ below (xQ E A (some (.int res.1)) σ res.2) args s 0 0 A) (F0 m 32 ls [.int t0, .ref (E.2.2.1 30 0)]) := by
  have hx := C.1
  have hb := C.2.1
  unfold fM_told_32 at hf
  obtain ⟨r8, s9, h7, hf⟩ := x_b hf
  refine x_callV (As := [.int t0]) (rest := []) (st1 := [.int r8]) C hw (cM_other l E τ σ t0 (r8, s9) h7) kM_113 (x_recvY C hw 30 0 at_30 rfl rfl) (by decide) rfl rfl hl.1 (lv_room (Nat.le_of_ble_eq_true rfl)) dM_told_32 ⟨by decide, by decide⟩ rfl (fun H locs hw => ?_)
  refine lv_istore_n (lv' := [(2, .int r8), (0, .ref (E.2.2.1 30 0)), (1, .int a1)]) hx hb dM_told_35 rfl hl (by decide) rfl (fun ls hl => ?_)
  refine lv_iload_n hx hb dM_told_36 rfl (lv_at hl 0 rfl) ?_
  refine lv_if_ge (tgt := 42) hx hb dM_told_37 (by decide) (fun c10 => ?_) (fun c10 => ?_)
  · replace hf := x_ip c10 hf
    refine lv_aload_n hx hb dM_told_42 rfl (lv_at hl 1 rfl) ?_
    refine lv_iconst (v := 2) hx hb dM_told_43 (by decide) ?_
    refine y_puti C hw 30 0 9 at_30 rfl rfl rfl ⟨rfl, rfl⟩ ⟨by decide, by decide⟩ (Nat.le_of_ble_eq_true rfl) wM_90 dM_told_44 (fun H locs hw => ?_)
    obtain ⟨s11, es11, hf⟩ := x_l hf
    rw [← es11] at hw
    refine lv_aload_n hx hb dM_told_47 rfl (lv_at hl 1 rfl) ?_
    refine lv_iload_n hx hb dM_told_48 rfl (lv_at hl 2 rfl) ?_
    refine y_puti C hw 30 0 10 at_30 rfl rfl rfl ⟨rfl, rfl⟩ ⟨by decide, by decide⟩ (Nat.le_of_ble_eq_true rfl) wM_87 dM_told_49 (fun H locs hw => ?_)
    obtain ⟨s12, es12, hf⟩ := x_l hf
    rw [← es12] at hw
    refine lv_aload_n hx hb dM_told_52 rfl (lv_at hl 1 rfl) ?_
    refine y_get C hw 30 0 24 (v := .ref (E.2.2.1 47 0)) at_30 rfl rfl ⟨by decide, by decide⟩ wM_59 rfl dM_told_53 ?_
    refine lv_bipush (v := 16) hx hb dM_told_56 (by decide) ?_
    refine y_ild C hw 47 0 at_47 rfl (by decide) dM_told_58 ?_
    obtain rfl := Option.some.inj hf
    exact x_iret C hw dM_told_59
  · replace hf := x_in c10 hf
    refine lv_iload_n hx hb dM_told_40 rfl (lv_at hl 0 rfl) ?_
    obtain rfl := Option.some.inj hf
    exact x_iret C hw dM_told_41
set_option maxHeartbeats 4000000 in
set_option maxRecDepth 100000 in
theorem cM_told (l : Launch) (E : xE) (τ : yS) (σ : xS) (a1 : Int32) (res : Int32 × yS) (hf : fM_told τ a1 = some res) : xM l E yM_told bM_told 3 (some .int) 2 0 0 [.ref (E.2.2.1 30 0), .int a1] σ τ (some (.int res.1)) σ res.2 := by
  refine x_met (by decide) (Nat.le_of_ble_eq_true rfl) (fun p e R s m args below meth c A ls H locs C hw hl => ?_)
  have hl : lv_has ls 3 [(0, .ref (E.2.2.1 30 0)), (1, .int a1)] := hl
  have hx := C.1
  have hb := C.2.1
  unfold fM_told at hf
  refine lv_iload_n hx hb dM_told_0 rfl (lv_at hl 1 rfl) ?_
  refine lv_iconst (v := 0) hx hb dM_told_1 (by decide) ?_
  refine lv_aload_n hx hb dM_told_2 rfl (lv_at hl 0 rfl) ?_
  refine y_get C hw 30 0 4 (v := .int (τ 30 0 4)) at_30 rfl rfl ⟨by decide, by decide⟩ wM_110 rfl dM_told_3 ?_
  refine lv_iconst (v := 1) hx hb dM_told_6 (by decide) ?_
  refine lv_isub hx hb dM_told_7 ?_
  refine x_callS (As := [.int a1, .int 0, .int ((τ 30 0 4) - 1)]) (rest := []) (st1 := [.int (fM_in a1 0 ((τ 30 0 4) - 1))]) C hw (cM_in l E τ σ a1 0 ((τ 30 0 4) - 1)) kM_106 (by decide) rfl rfl hl.1 (lv_room (Nat.le_of_ble_eq_true rfl)) dM_told_8 ⟨by decide, by decide⟩ rfl (fun H locs hw => ?_)
  refine lv_if_ne (tgt := 16) hx hb dM_told_11 (by decide) (fun c14 => ?_) (fun c14 => ?_)
  · replace hf := x_in c14 hf
    refine lv_aload_n hx hb dM_told_16 rfl (lv_at hl 0 rfl) ?_
    refine lv_aload_n hx hb dM_told_17 rfl (lv_at hl 0 rfl) ?_
    refine y_get C hw 30 0 24 (v := .ref (E.2.2.1 47 0)) at_30 rfl rfl ⟨by decide, by decide⟩ wM_59 rfl dM_told_18 ?_
    refine lv_bipush (v := 16) hx hb dM_told_21 (by decide) ?_
    refine y_ild C hw 47 0 at_47 rfl (by decide) dM_told_23 ?_
    refine lv_if_ne (tgt := 31) hx hb dM_told_24 (by decide) (fun c15 => ?_) (fun c15 => ?_)
    · replace hf := x_in c15 hf
      refine lv_iconst (v := 0) hx hb dM_told_31 (by decide) ?_
      exact wM_told_32 C τ a1 0 res hf H locs ls hw (lv_sub hl [0, 1] rfl)
    · replace hf := x_ip c15 hf
      refine lv_iconst (v := 1) hx hb dM_told_27 (by decide) ?_
      refine lv_goto (tgt := 32) hx hb dM_told_28 (by decide) ?_
      exact wM_told_32 C τ a1 1 res hf H locs ls hw (lv_sub hl [0, 1] rfl)
  · replace hf := x_ip c14 hf
    refine lv_iconst (v := (-1)) hx hb dM_told_14 (by decide) ?_
    obtain rfl := Option.some.inj hf
    exact x_iret C hw dM_told_15
-- StandInsModel check (III)I
set_option maxRecDepth 100000 in
theorem dM_check_I3_0 : decode bM_check_I3 0 = .ok (.iload_n 1, 1) := by decide +kernel
set_option maxRecDepth 100000 in
theorem dM_check_I3_1 : decode bM_check_I3 1 = .ok (.iconst 0, 1) := by decide +kernel
set_option maxRecDepth 100000 in
theorem dM_check_I3_2 : decode bM_check_I3 2 = .ok (.aload_n 0, 1) := by decide +kernel
set_option maxRecDepth 100000 in
theorem dM_check_I3_3 : decode bM_check_I3 3 = .ok (.getfield 110, 3) := by decide +kernel
set_option maxRecDepth 100000 in
theorem dM_check_I3_6 : decode bM_check_I3 6 = .ok (.iconst 1, 1) := by decide +kernel
set_option maxRecDepth 100000 in
theorem dM_check_I3_7 : decode bM_check_I3 7 = .ok (.isub, 1) := by decide +kernel
set_option maxRecDepth 100000 in
theorem dM_check_I3_8 : decode bM_check_I3 8 = .ok (.invokestatic 106, 3) := by decide +kernel
set_option maxRecDepth 100000 in
theorem dM_check_I3_11 : decode bM_check_I3 11 = .ok (.ifCond .eq 31, 3) := by decide +kernel
set_option maxRecDepth 100000 in
theorem dM_check_I3_14 : decode bM_check_I3 14 = .ok (.iload_n 2, 1) := by decide +kernel
set_option maxRecDepth 100000 in
theorem dM_check_I3_15 : decode bM_check_I3 15 = .ok (.iconst 0, 1) := by decide +kernel
set_option maxRecDepth 100000 in
theorem dM_check_I3_16 : decode bM_check_I3 16 = .ok (.iconst 4, 1) := by decide +kernel
set_option maxRecDepth 100000 in
theorem dM_check_I3_17 : decode bM_check_I3 17 = .ok (.invokestatic 106, 3) := by decide +kernel
set_option maxRecDepth 100000 in
theorem dM_check_I3_20 : decode bM_check_I3 20 = .ok (.ifCond .eq 22, 3) := by decide +kernel
set_option maxRecDepth 100000 in
theorem dM_check_I3_23 : decode bM_check_I3 23 = .ok (.iload_n 3, 1) := by decide +kernel
set_option maxRecDepth 100000 in
theorem dM_check_I3_24 : decode bM_check_I3 24 = .ok (.iload_n 2, 1) := by decide +kernel
set_option maxRecDepth 100000 in
theorem dM_check_I3_25 : decode bM_check_I3 25 = .ok (.iconst 4, 1) := by decide +kernel
set_option maxRecDepth 100000 in
theorem dM_check_I3_26 : decode bM_check_I3 26 = .ok (.if_icmp .ne 7, 3) := by decide +kernel
set_option maxRecDepth 100000 in
theorem dM_check_I3_29 : decode bM_check_I3 29 = .ok (.iconst 1, 1) := by decide +kernel
set_option maxRecDepth 100000 in
theorem dM_check_I3_30 : decode bM_check_I3 30 = .ok (.goto 4, 3) := by decide +kernel
set_option maxRecDepth 100000 in
theorem dM_check_I3_33 : decode bM_check_I3 33 = .ok (.iconst 0, 1) := by decide +kernel
set_option maxRecDepth 100000 in
theorem dM_check_I3_34 : decode bM_check_I3 34 = .ok (.bipush 40, 2) := by decide +kernel
set_option maxRecDepth 100000 in
theorem dM_check_I3_36 : decode bM_check_I3 36 = .ok (.invokestatic 106, 3) := by decide +kernel
set_option maxRecDepth 100000 in
theorem dM_check_I3_39 : decode bM_check_I3 39 = .ok (.ifCond .ne 5, 3) := by decide +kernel
set_option maxRecDepth 100000 in
theorem dM_check_I3_42 : decode bM_check_I3 42 = .ok (.iconst (-1), 1) := by decide +kernel
set_option maxRecDepth 100000 in
theorem dM_check_I3_43 : decode bM_check_I3 43 = .ok (.ireturn, 1) := by decide +kernel
set_option maxRecDepth 100000 in
theorem dM_check_I3_44 : decode bM_check_I3 44 = .ok (.aload_n 0, 1) := by decide +kernel
set_option maxRecDepth 100000 in
theorem dM_check_I3_45 : decode bM_check_I3 45 = .ok (.iconst 0, 1) := by decide +kernel
set_option maxRecDepth 100000 in
theorem dM_check_I3_46 : decode bM_check_I3 46 = .ok (.invokevirtual 113, 3) := by decide +kernel
set_option maxRecDepth 100000 in
theorem dM_check_I3_49 : decode bM_check_I3 49 = .ok (.istore 4, 2) := by decide +kernel
set_option maxRecDepth 100000 in
theorem dM_check_I3_51 : decode bM_check_I3 51 = .ok (.iload 4, 2) := by decide +kernel
set_option maxRecDepth 100000 in
theorem dM_check_I3_53 : decode bM_check_I3 53 = .ok (.ifCond .ge 6, 3) := by decide +kernel
set_option maxRecDepth 100000 in
theorem dM_check_I3_56 : decode bM_check_I3 56 = .ok (.iload 4, 2) := by decide +kernel
set_option maxRecDepth 100000 in
theorem dM_check_I3_58 : decode bM_check_I3 58 = .ok (.ireturn, 1) := by decide +kernel
set_option maxRecDepth 100000 in
theorem dM_check_I3_59 : decode bM_check_I3 59 = .ok (.aload_n 0, 1) := by decide +kernel
set_option maxRecDepth 100000 in
theorem dM_check_I3_60 : decode bM_check_I3 60 = .ok (.iconst 3, 1) := by decide +kernel
set_option maxRecDepth 100000 in
theorem dM_check_I3_61 : decode bM_check_I3 61 = .ok (.putfield 90, 3) := by decide +kernel
set_option maxRecDepth 100000 in
theorem dM_check_I3_64 : decode bM_check_I3 64 = .ok (.aload_n 0, 1) := by decide +kernel
set_option maxRecDepth 100000 in
theorem dM_check_I3_65 : decode bM_check_I3 65 = .ok (.iload_n 1, 1) := by decide +kernel
set_option maxRecDepth 100000 in
theorem dM_check_I3_66 : decode bM_check_I3 66 = .ok (.putfield 87, 3) := by decide +kernel
set_option maxRecDepth 100000 in
theorem dM_check_I3_69 : decode bM_check_I3 69 = .ok (.aload_n 0, 1) := by decide +kernel
set_option maxRecDepth 100000 in
theorem dM_check_I3_70 : decode bM_check_I3 70 = .ok (.iload_n 2, 1) := by decide +kernel
set_option maxRecDepth 100000 in
theorem dM_check_I3_71 : decode bM_check_I3 71 = .ok (.putfield 183, 3) := by decide +kernel
set_option maxRecDepth 100000 in
theorem dM_check_I3_74 : decode bM_check_I3 74 = .ok (.aload_n 0, 1) := by decide +kernel
set_option maxRecDepth 100000 in
theorem dM_check_I3_75 : decode bM_check_I3 75 = .ok (.iload_n 3, 1) := by decide +kernel
set_option maxRecDepth 100000 in
theorem dM_check_I3_76 : decode bM_check_I3 76 = .ok (.putfield 190, 3) := by decide +kernel
set_option maxRecDepth 100000 in
theorem dM_check_I3_79 : decode bM_check_I3 79 = .ok (.iconst 1, 1) := by decide +kernel
set_option maxRecDepth 100000 in
theorem dM_check_I3_80 : decode bM_check_I3 80 = .ok (.ireturn, 1) := by decide +kernel
def fM_check_I3_34 (τ : yS) (a1 : Int32) (a2 : Int32) (a3 : Int32) (t0 : Int32) (t1 : Int32) : Option (Int32 × yS) :=
  if (fM_in t1 t0 40) = 0 then
  (some ((-1), τ))
  else
  (xb (fM_other τ 0) fun r14 s15 =>
  if 0 ≤ r14 then
  (xl (y_si s15 30 0 9 3) fun s17 =>
  xl (y_si s17 30 0 10 a1) fun s18 =>
  xl (y_si s18 30 0 11 a2) fun s19 =>
  xl (y_si s19 30 0 12 a3) fun s20 =>
  some (1, s20))
  else
  (some (r14, s15)))
def fM_check_I3 (τ : yS) (a1 : Int32) (a2 : Int32) (a3 : Int32) : Option (Int32 × yS) :=
  if (fM_in a1 0 ((τ 30 0 4) - 1)) = 0 then
  (some ((-1), τ))
  else
  (if (fM_in a2 0 4) = 0 then
  (some ((-1), τ))
  else
  (if a2 = 4 then
  (fM_check_I3_34 τ a1 a2 a3 1 a3)
  else
  (fM_check_I3_34 τ a1 a2 a3 0 a3)))
set_option maxHeartbeats 4000000 in
set_option maxRecDepth 100000 in
theorem wM_check_I3_34 {p : Program} {l : Launch} {e : Env} {R : Room} {s : State} {m : MethodId} {args : Array Value} {below : List Frame} {meth : Method} {c : Code} {E : xE} {A : Nat → Prop} {σ : xS} (C : xC p s m args meth c R E A bM_check_I3 5 yM_check_I3 (some .int) 2 0 0) (τ : yS) (a1 : Int32) (a2 : Int32) (a3 : Int32) (t0 : Int32) (t1 : Int32) (res : Int32 × yS) (hf : fM_check_I3_34 τ a1 a2 a3 t0 t1 = some res) (H : Heap) (locs : List Loc) (ls : Array Slot) (hw : xW E A s σ τ H locs) (hl : lv_has ls 5 [(0, .ref (E.2.2.1 30 0)), (1, .int a1), (2, .int a2), (3, .int a3)]) : W p l e R s m args below meth c H locs 0 0 (MQ below (xQ E A (some (.int res.1)) σ res.2) args s 0 0 A) (F0 m 34 ls [.int t0, .int t1]) := by
  have hx := C.1
  have hb := C.2.1
  unfold fM_check_I3_34 at hf
  refine lv_bipush (v := 40) hx hb dM_check_I3_34 (by decide) ?_
  refine x_callS (As := [.int t1, .int t0, .int 40]) (rest := []) (st1 := [.int (fM_in t1 t0 40)]) C hw (cM_in l E τ σ t1 t0 40) kM_106 (by decide) rfl rfl hl.1 (lv_room (Nat.le_of_ble_eq_true rfl)) dM_check_I3_36 ⟨by decide, by decide⟩ rfl (fun H locs hw => ?_)
  refine lv_if_ne (tgt := 44) hx hb dM_check_I3_39 (by decide) (fun c12 => ?_) (fun c12 => ?_)
  · replace hf := x_in c12 hf
    refine lv_aload_n hx hb dM_check_I3_44 rfl (lv_at hl 0 rfl) ?_
    refine lv_iconst (v := 0) hx hb dM_check_I3_45 (by decide) ?_
    obtain ⟨r14, s15, h13, hf⟩ := x_b hf
    refine x_callV (As := [.int 0]) (rest := []) (st1 := [.int r14]) C hw (cM_other l E τ σ 0 (r14, s15) h13) kM_113 (x_recvY C hw 30 0 at_30 rfl rfl) (by decide) rfl rfl hl.1 (lv_room (Nat.le_of_ble_eq_true rfl)) dM_check_I3_46 ⟨by decide, by decide⟩ rfl (fun H locs hw => ?_)
    refine lv_istore (lv' := [(4, .int r14), (0, .ref (E.2.2.1 30 0)), (1, .int a1), (2, .int a2), (3, .int a3)]) hx hb dM_check_I3_49 hl (by decide) rfl (fun ls hl => ?_)
    refine lv_iload hx hb dM_check_I3_51 (lv_at hl 0 rfl) ?_
    refine lv_if_ge (tgt := 59) hx hb dM_check_I3_53 (by decide) (fun c16 => ?_) (fun c16 => ?_)
    · replace hf := x_ip c16 hf
      refine lv_aload_n hx hb dM_check_I3_59 rfl (lv_at hl 1 rfl) ?_
      refine lv_iconst (v := 3) hx hb dM_check_I3_60 (by decide) ?_
      refine y_puti C hw 30 0 9 at_30 rfl rfl rfl ⟨rfl, rfl⟩ ⟨by decide, by decide⟩ (Nat.le_of_ble_eq_true rfl) wM_90 dM_check_I3_61 (fun H locs hw => ?_)
      obtain ⟨s17, es17, hf⟩ := x_l hf
      rw [← es17] at hw
      refine lv_aload_n hx hb dM_check_I3_64 rfl (lv_at hl 1 rfl) ?_
      refine lv_iload_n hx hb dM_check_I3_65 rfl (lv_at hl 2 rfl) ?_
      refine y_puti C hw 30 0 10 at_30 rfl rfl rfl ⟨rfl, rfl⟩ ⟨by decide, by decide⟩ (Nat.le_of_ble_eq_true rfl) wM_87 dM_check_I3_66 (fun H locs hw => ?_)
      obtain ⟨s18, es18, hf⟩ := x_l hf
      rw [← es18] at hw
      refine lv_aload_n hx hb dM_check_I3_69 rfl (lv_at hl 1 rfl) ?_
      refine lv_iload_n hx hb dM_check_I3_70 rfl (lv_at hl 3 rfl) ?_
      refine y_puti C hw 30 0 11 at_30 rfl rfl rfl ⟨rfl, rfl⟩ ⟨by decide, by decide⟩ (Nat.le_of_ble_eq_true rfl) wM_183 dM_check_I3_71 (fun H locs hw => ?_)
      obtain ⟨s19, es19, hf⟩ := x_l hf
      rw [← es19] at hw
      refine lv_aload_n hx hb dM_check_I3_74 rfl (lv_at hl 1 rfl) ?_
      refine lv_iload_n hx hb dM_check_I3_75 rfl (lv_at hl 4 rfl) ?_
      refine y_puti C hw 30 0 12 at_30 rfl rfl rfl ⟨rfl, rfl⟩ ⟨by decide, by decide⟩ (Nat.le_of_ble_eq_true rfl) wM_190 dM_check_I3_76 (fun H locs hw => ?_)
      obtain ⟨s20, es20, hf⟩ := x_l hf
      rw [← es20] at hw
      refine lv_iconst (v := 1) hx hb dM_check_I3_79 (by decide) ?_
      obtain rfl := Option.some.inj hf
      exact x_iret C hw dM_check_I3_80
    · replace hf := x_in c16 hf
      refine lv_iload hx hb dM_check_I3_56 (lv_at hl 0 rfl) ?_
      obtain rfl := Option.some.inj hf
      exact x_iret C hw dM_check_I3_58
  · replace hf := x_ip c12 hf
    refine lv_iconst (v := (-1)) hx hb dM_check_I3_42 (by decide) ?_
    obtain rfl := Option.some.inj hf
    exact x_iret C hw dM_check_I3_43
set_option maxHeartbeats 4000000 in
set_option maxRecDepth 100000 in
theorem cM_check_I3 (l : Launch) (E : xE) (τ : yS) (σ : xS) (a1 : Int32) (a2 : Int32) (a3 : Int32) (res : Int32 × yS) (hf : fM_check_I3 τ a1 a2 a3 = some res) : xM l E yM_check_I3 bM_check_I3 5 (some .int) 2 0 0 [.ref (E.2.2.1 30 0), .int a1, .int a2, .int a3] σ τ (some (.int res.1)) σ res.2 := by
  refine x_met (by decide) (Nat.le_of_ble_eq_true rfl) (fun p e R s m args below meth c A ls H locs C hw hl => ?_)
  have hl : lv_has ls 5 [(0, .ref (E.2.2.1 30 0)), (1, .int a1), (2, .int a2), (3, .int a3)] := hl
  have hx := C.1
  have hb := C.2.1
  unfold fM_check_I3 at hf
  refine lv_iload_n hx hb dM_check_I3_0 rfl (lv_at hl 1 rfl) ?_
  refine lv_iconst (v := 0) hx hb dM_check_I3_1 (by decide) ?_
  refine lv_aload_n hx hb dM_check_I3_2 rfl (lv_at hl 0 rfl) ?_
  refine y_get C hw 30 0 4 (v := .int (τ 30 0 4)) at_30 rfl rfl ⟨by decide, by decide⟩ wM_110 rfl dM_check_I3_3 ?_
  refine lv_iconst (v := 1) hx hb dM_check_I3_6 (by decide) ?_
  refine lv_isub hx hb dM_check_I3_7 ?_
  refine x_callS (As := [.int a1, .int 0, .int ((τ 30 0 4) - 1)]) (rest := []) (st1 := [.int (fM_in a1 0 ((τ 30 0 4) - 1))]) C hw (cM_in l E τ σ a1 0 ((τ 30 0 4) - 1)) kM_106 (by decide) rfl rfl hl.1 (lv_room (Nat.le_of_ble_eq_true rfl)) dM_check_I3_8 ⟨by decide, by decide⟩ rfl (fun H locs hw => ?_)
  refine lv_if_eq (tgt := 42) hx hb dM_check_I3_11 (by decide) (fun c22 => ?_) (fun c22 => ?_)
  · replace hf := x_ip c22 hf
    refine lv_iconst (v := (-1)) hx hb dM_check_I3_42 (by decide) ?_
    obtain rfl := Option.some.inj hf
    exact x_iret C hw dM_check_I3_43
  · replace hf := x_in c22 hf
    refine lv_iload_n hx hb dM_check_I3_14 rfl (lv_at hl 2 rfl) ?_
    refine lv_iconst (v := 0) hx hb dM_check_I3_15 (by decide) ?_
    refine lv_iconst (v := 4) hx hb dM_check_I3_16 (by decide) ?_
    refine x_callS (As := [.int a2, .int 0, .int 4]) (rest := []) (st1 := [.int (fM_in a2 0 4)]) C hw (cM_in l E τ σ a2 0 4) kM_106 (by decide) rfl rfl hl.1 (lv_room (Nat.le_of_ble_eq_true rfl)) dM_check_I3_17 ⟨by decide, by decide⟩ rfl (fun H locs hw => ?_)
    refine lv_if_eq (tgt := 42) hx hb dM_check_I3_20 (by decide) (fun c24 => ?_) (fun c24 => ?_)
    · replace hf := x_ip c24 hf
      refine lv_iconst (v := (-1)) hx hb dM_check_I3_42 (by decide) ?_
      obtain rfl := Option.some.inj hf
      exact x_iret C hw dM_check_I3_43
    · replace hf := x_in c24 hf
      refine lv_iload_n hx hb dM_check_I3_23 rfl (lv_at hl 3 rfl) ?_
      refine lv_iload_n hx hb dM_check_I3_24 rfl (lv_at hl 2 rfl) ?_
      refine lv_iconst (v := 4) hx hb dM_check_I3_25 (by decide) ?_
      refine lv_icmp_ne (tgt := 33) hx hb dM_check_I3_26 (by decide) (fun c25 => ?_) (fun c25 => ?_)
      · replace hf := x_in c25 hf
        refine lv_iconst (v := 0) hx hb dM_check_I3_33 (by decide) ?_
        exact wM_check_I3_34 C τ a1 a2 a3 0 a3 res hf H locs ls hw (lv_sub hl [0, 1, 2, 3] rfl)
      · replace hf := x_ip c25 hf
        refine lv_iconst (v := 1) hx hb dM_check_I3_29 (by decide) ?_
        refine lv_goto (tgt := 34) hx hb dM_check_I3_30 (by decide) ?_
        exact wM_check_I3_34 C τ a1 a2 a3 1 a3 res hf H locs ls hw (lv_sub hl [0, 1, 2, 3] rfl)
-- StandInsModel noMore (I)I
set_option maxRecDepth 100000 in
theorem dM_noMore_0 : decode bM_noMore 0 = .ok (.iload_n 1, 1) := by decide +kernel
set_option maxRecDepth 100000 in
theorem dM_noMore_1 : decode bM_noMore 1 = .ok (.iconst 0, 1) := by decide +kernel
set_option maxRecDepth 100000 in
theorem dM_noMore_2 : decode bM_noMore 2 = .ok (.aload_n 0, 1) := by decide +kernel
set_option maxRecDepth 100000 in
theorem dM_noMore_3 : decode bM_noMore 3 = .ok (.getfield 110, 3) := by decide +kernel
set_option maxRecDepth 100000 in
theorem dM_noMore_6 : decode bM_noMore 6 = .ok (.iconst 1, 1) := by decide +kernel
set_option maxRecDepth 100000 in
theorem dM_noMore_7 : decode bM_noMore 7 = .ok (.isub, 1) := by decide +kernel
set_option maxRecDepth 100000 in
theorem dM_noMore_8 : decode bM_noMore 8 = .ok (.invokestatic 106, 3) := by decide +kernel
set_option maxRecDepth 100000 in
theorem dM_noMore_11 : decode bM_noMore 11 = .ok (.ifCond .ne 5, 3) := by decide +kernel
set_option maxRecDepth 100000 in
theorem dM_noMore_14 : decode bM_noMore 14 = .ok (.iconst (-1), 1) := by decide +kernel
set_option maxRecDepth 100000 in
theorem dM_noMore_15 : decode bM_noMore 15 = .ok (.ireturn, 1) := by decide +kernel
set_option maxRecDepth 100000 in
theorem dM_noMore_16 : decode bM_noMore 16 = .ok (.aload_n 0, 1) := by decide +kernel
set_option maxRecDepth 100000 in
theorem dM_noMore_17 : decode bM_noMore 17 = .ok (.iconst 0, 1) := by decide +kernel
set_option maxRecDepth 100000 in
theorem dM_noMore_18 : decode bM_noMore 18 = .ok (.invokevirtual 113, 3) := by decide +kernel
set_option maxRecDepth 100000 in
theorem dM_noMore_21 : decode bM_noMore 21 = .ok (.istore_n 2, 1) := by decide +kernel
set_option maxRecDepth 100000 in
theorem dM_noMore_22 : decode bM_noMore 22 = .ok (.iload_n 2, 1) := by decide +kernel
set_option maxRecDepth 100000 in
theorem dM_noMore_23 : decode bM_noMore 23 = .ok (.ifCond .ge 5, 3) := by decide +kernel
set_option maxRecDepth 100000 in
theorem dM_noMore_26 : decode bM_noMore 26 = .ok (.iload_n 2, 1) := by decide +kernel
set_option maxRecDepth 100000 in
theorem dM_noMore_27 : decode bM_noMore 27 = .ok (.ireturn, 1) := by decide +kernel
set_option maxRecDepth 100000 in
theorem dM_noMore_28 : decode bM_noMore 28 = .ok (.iconst 0, 1) := by decide +kernel
set_option maxRecDepth 100000 in
theorem dM_noMore_29 : decode bM_noMore 29 = .ok (.istore_n 3, 1) := by decide +kernel
set_option maxRecDepth 100000 in
theorem dM_noMore_30 : decode bM_noMore 30 = .ok (.iload_n 3, 1) := by decide +kernel
set_option maxRecDepth 100000 in
theorem dM_noMore_31 : decode bM_noMore 31 = .ok (.aload_n 0, 1) := by decide +kernel
set_option maxRecDepth 100000 in
theorem dM_noMore_32 : decode bM_noMore 32 = .ok (.getfield 130, 3) := by decide +kernel
set_option maxRecDepth 100000 in
theorem dM_noMore_35 : decode bM_noMore 35 = .ok (.if_icmp .ge 35, 3) := by decide +kernel
set_option maxRecDepth 100000 in
theorem dM_noMore_38 : decode bM_noMore 38 = .ok (.aload_n 0, 1) := by decide +kernel
set_option maxRecDepth 100000 in
theorem dM_noMore_39 : decode bM_noMore 39 = .ok (.getfield 35, 3) := by decide +kernel
set_option maxRecDepth 100000 in
theorem dM_noMore_42 : decode bM_noMore 42 = .ok (.iload_n 3, 1) := by decide +kernel
set_option maxRecDepth 100000 in
theorem dM_noMore_43 : decode bM_noMore 43 = .ok (.iaload, 1) := by decide +kernel
set_option maxRecDepth 100000 in
theorem dM_noMore_44 : decode bM_noMore 44 = .ok (.iload_n 1, 1) := by decide +kernel
set_option maxRecDepth 100000 in
theorem dM_noMore_45 : decode bM_noMore 45 = .ok (.if_icmp .ne 19, 3) := by decide +kernel
set_option maxRecDepth 100000 in
theorem dM_noMore_48 : decode bM_noMore 48 = .ok (.aload_n 0, 1) := by decide +kernel
set_option maxRecDepth 100000 in
theorem dM_noMore_49 : decode bM_noMore 49 = .ok (.getfield 50, 3) := by decide +kernel
set_option maxRecDepth 100000 in
theorem dM_noMore_52 : decode bM_noMore 52 = .ok (.iload_n 3, 1) := by decide +kernel
set_option maxRecDepth 100000 in
theorem dM_noMore_53 : decode bM_noMore 53 = .ok (.baload, 1) := by decide +kernel
set_option maxRecDepth 100000 in
theorem dM_noMore_54 : decode bM_noMore 54 = .ok (.ifCond .ne 10, 3) := by decide +kernel
set_option maxRecDepth 100000 in
theorem dM_noMore_57 : decode bM_noMore 57 = .ok (.aload_n 0, 1) := by decide +kernel
set_option maxRecDepth 100000 in
theorem dM_noMore_58 : decode bM_noMore 58 = .ok (.getfield 32, 3) := by decide +kernel
set_option maxRecDepth 100000 in
theorem dM_noMore_61 : decode bM_noMore 61 = .ok (.iload_n 3, 1) := by decide +kernel
set_option maxRecDepth 100000 in
theorem dM_noMore_62 : decode bM_noMore 62 = .ok (.iaload, 1) := by decide +kernel
set_option maxRecDepth 100000 in
theorem dM_noMore_63 : decode bM_noMore 63 = .ok (.ireturn, 1) := by decide +kernel
set_option maxRecDepth 100000 in
theorem dM_noMore_64 : decode bM_noMore 64 = .ok (.iinc 3 1, 3) := by decide +kernel
set_option maxRecDepth 100000 in
theorem dM_noMore_67 : decode bM_noMore 67 = .ok (.goto (-37), 3) := by decide +kernel
set_option maxRecDepth 100000 in
theorem dM_noMore_70 : decode bM_noMore 70 = .ok (.bipush (-6), 2) := by decide +kernel
set_option maxRecDepth 100000 in
theorem dM_noMore_72 : decode bM_noMore 72 = .ok (.ireturn, 1) := by decide +kernel
def fM_noMore_64 (N : Nat) (rec30 : yS → Int32 → Int32 → Option (Int32 × yS)) (τ : yS) (a1 : Int32) (a3 : Int32) : Option (Int32 × yS) :=
  rec30 τ a1 (a3 + 1)
def fM_noMore_30b (N : Nat) (rec30 : yS → Int32 → Int32 → Option (Int32 × yS)) (τ : yS) (a1 : Int32) (a3 : Int32) : Option (Int32 × yS) :=
  if (τ 30 0 20) ≤ a3 then
  (some ((-6), τ))
  else
  (if ¬ (a3 < 0 ∨ 40 ≤ a3.toNatClampNeg) then
  if (τ 39 0 a3.toNatClampNeg) = a1 then
  (if (τ 44 0 a3.toNatClampNeg) = 0 then
  (some (τ 38 0 a3.toNatClampNeg, τ))
  else
  (fM_noMore_64 N rec30 τ a1 a3))
  else
  (fM_noMore_64 N rec30 τ a1 a3)
  else none)
def fM_noMore_30 (N : Nat) : Nat → yS → Int32 → Int32 → Option (Int32 × yS)
  | 0, _, _, _ => none
  | n + 1, τ, a1, a3 => fM_noMore_30b N (fM_noMore_30 N n) τ a1 a3
def fM_noMore (N : Nat) (τ : yS) (a1 : Int32) : Option (Int32 × yS) :=
  if (fM_in a1 0 ((τ 30 0 4) - 1)) = 0 then
  (some ((-1), τ))
  else
  (xb (fM_other τ 0) fun r12 s13 =>
  if 0 ≤ r12 then
  (fM_noMore_30 N N s13 a1 0)
  else
  (some (r12, s13)))
set_option maxHeartbeats 4000000 in
set_option maxRecDepth 100000 in
theorem wM_noMore_64 {p : Program} {l : Launch} {e : Env} {R : Room} {s : State} {m : MethodId} {args : Array Value} {below : List Frame} {meth : Method} {c : Code} {E : xE} {A : Nat → Prop} {σ : xS} (C : xC p s m args meth c R E A bM_noMore 4 yM_noMore (some .int) 2 0 0) (N : Nat) (τ : yS) (rec30 : yS → Int32 → Int32 → Option (Int32 × yS)) (hrec30 : ∀ (τ : yS) (a1 : Int32) (a3 : Int32) (res : Int32 × yS), rec30 τ a1 a3 = some res → ∀ (H : Heap) (locs : List Loc) (ls : Array Slot), xW E A s σ τ H locs → lv_has ls 4 [(0, .ref (E.2.2.1 30 0)), (1, .int a1), (3, .int a3)] → W p l e R s m args below meth c H locs 0 0 (MQ below (xQ E A (some (.int res.1)) σ res.2) args s 0 0 A) (F0 m 30 ls [])) (a1 : Int32) (a3 : Int32) (res : Int32 × yS) (hf : fM_noMore_64 N rec30 τ a1 a3 = some res) (H : Heap) (locs : List Loc) (ls : Array Slot) (hw : xW E A s σ τ H locs) (hl : lv_has ls 4 [(0, .ref (E.2.2.1 30 0)), (1, .int a1), (3, .int a3)]) : W p l e R s m args below meth c H locs 0 0 (MQ below (xQ E A (some (.int res.1)) σ res.2) args s 0 0 A) (F0 m 64 ls []) := by
  have hx := C.1
  have hb := C.2.1
  unfold fM_noMore_64 at hf
  refine lv_iinc (v := a3 + 1) (lv' := [(3, .int (a3 + 1)), (0, .ref (E.2.2.1 30 0)), (1, .int a1)]) hx hb dM_noMore_64 hl (k := 2) rfl rfl (by decide) rfl (fun ls hl => ?_)
  refine lv_goto (tgt := 30) hx hb dM_noMore_67 (by decide) ?_
  exact hrec30 τ a1 (a3 + 1) res hf H locs ls hw (lv_sub hl [1, 2, 0] rfl)
set_option maxHeartbeats 4000000 in
set_option maxRecDepth 100000 in
theorem wM_noMore_30b {p : Program} {l : Launch} {e : Env} {R : Room} {s : State} {m : MethodId} {args : Array Value} {below : List Frame} {meth : Method} {c : Code} {E : xE} {A : Nat → Prop} {σ : xS} (C : xC p s m args meth c R E A bM_noMore 4 yM_noMore (some .int) 2 0 0) (N : Nat) (τ : yS) (rec30 : yS → Int32 → Int32 → Option (Int32 × yS)) (hrec30 : ∀ (τ : yS) (a1 : Int32) (a3 : Int32) (res : Int32 × yS), rec30 τ a1 a3 = some res → ∀ (H : Heap) (locs : List Loc) (ls : Array Slot), xW E A s σ τ H locs → lv_has ls 4 [(0, .ref (E.2.2.1 30 0)), (1, .int a1), (3, .int a3)] → W p l e R s m args below meth c H locs 0 0 (MQ below (xQ E A (some (.int res.1)) σ res.2) args s 0 0 A) (F0 m 30 ls [])) (a1 : Int32) (a3 : Int32) (res : Int32 × yS) (hf : fM_noMore_30b N rec30 τ a1 a3 = some res) (H : Heap) (locs : List Loc) (ls : Array Slot) (hw : xW E A s σ τ H locs) (hl : lv_has ls 4 [(0, .ref (E.2.2.1 30 0)), (1, .int a1), (3, .int a3)]) : W p l e R s m args below meth c H locs 0 0 (MQ below (xQ E A (some (.int res.1)) σ res.2) args s 0 0 A) (F0 m 30 ls []) := by
  have hx := C.1
  have hb := C.2.1
  unfold fM_noMore_30b at hf
  refine lv_iload_n hx hb dM_noMore_30 rfl (lv_at hl 2 rfl) ?_
  refine lv_aload_n hx hb dM_noMore_31 rfl (lv_at hl 0 rfl) ?_
  refine y_get C hw 30 0 20 (v := .int (τ 30 0 20)) at_30 rfl rfl ⟨by decide, by decide⟩ wM_130 rfl dM_noMore_32 ?_
  refine lv_icmp_ge (tgt := 70) hx hb dM_noMore_35 (by decide) (fun c5 => ?_) (fun c5 => ?_)
  · replace hf := x_ip c5 hf
    refine lv_bipush (v := (-6)) hx hb dM_noMore_70 (by decide) ?_
    obtain rfl := Option.some.inj hf
    exact x_iret C hw dM_noMore_72
  · replace hf := x_in c5 hf
    refine lv_aload_n hx hb dM_noMore_38 rfl (lv_at hl 0 rfl) ?_
    refine y_get C hw 30 0 14 (v := .ref (E.2.2.1 39 0)) at_30 rfl rfl ⟨by decide, by decide⟩ wM_35 rfl dM_noMore_39 ?_
    refine lv_iload_n hx hb dM_noMore_42 rfl (lv_at hl 2 rfl) ?_
    obtain ⟨g6, hf⟩ := x_g hf
    refine y_ild C hw 39 0 at_39 rfl g6 dM_noMore_43 ?_
    refine lv_iload_n hx hb dM_noMore_44 rfl (lv_at hl 1 rfl) ?_
    refine lv_icmp_ne (tgt := 64) hx hb dM_noMore_45 (by decide) (fun c7 => ?_) (fun c7 => ?_)
    · replace hf := x_in c7 hf
      exact wM_noMore_64 C N τ rec30 hrec30 a1 a3 res hf H locs ls hw (lv_sub hl [0, 1, 2] rfl)
    · replace hf := x_ip c7 hf
      refine lv_aload_n hx hb dM_noMore_48 rfl (lv_at hl 0 rfl) ?_
      refine y_get C hw 30 0 19 (v := .ref (E.2.2.1 44 0)) at_30 rfl rfl ⟨by decide, by decide⟩ wM_50 rfl dM_noMore_49 ?_
      refine lv_iload_n hx hb dM_noMore_52 rfl (lv_at hl 2 rfl) ?_
      refine y_zld C hw 44 0 at_44 rfl g6 dM_noMore_53 ?_
      refine lv_if_ne (tgt := 64) hx hb dM_noMore_54 (by decide) (fun c8 => ?_) (fun c8 => ?_)
      · replace hf := x_in c8 hf
        exact wM_noMore_64 C N τ rec30 hrec30 a1 a3 res hf H locs ls hw (lv_sub hl [0, 1, 2] rfl)
      · replace hf := x_ip c8 hf
        refine lv_aload_n hx hb dM_noMore_57 rfl (lv_at hl 0 rfl) ?_
        refine y_get C hw 30 0 13 (v := .ref (E.2.2.1 38 0)) at_30 rfl rfl ⟨by decide, by decide⟩ wM_32 rfl dM_noMore_58 ?_
        refine lv_iload_n hx hb dM_noMore_61 rfl (lv_at hl 2 rfl) ?_
        refine y_ild C hw 38 0 at_38 rfl g6 dM_noMore_62 ?_
        obtain rfl := Option.some.inj hf
        exact x_iret C hw dM_noMore_63
set_option maxHeartbeats 4000000 in
set_option maxRecDepth 100000 in
theorem wM_noMore_30 {p : Program} {l : Launch} {e : Env} {R : Room} {s : State} {m : MethodId} {args : Array Value} {below : List Frame} {meth : Method} {c : Code} {E : xE} {A : Nat → Prop} {σ : xS} (C : xC p s m args meth c R E A bM_noMore 4 yM_noMore (some .int) 2 0 0) (N : Nat) (n : Nat) : ∀ (τ : yS) (a1 : Int32) (a3 : Int32) (res : Int32 × yS), fM_noMore_30 N n τ a1 a3 = some res → ∀ (H : Heap) (locs : List Loc) (ls : Array Slot), xW E A s σ τ H locs → lv_has ls 4 [(0, .ref (E.2.2.1 30 0)), (1, .int a1), (3, .int a3)] → W p l e R s m args below meth c H locs 0 0 (MQ below (xQ E A (some (.int res.1)) σ res.2) args s 0 0 A) (F0 m 30 ls []) := by
  induction n with
  | zero => intro τ a1 a3 res hf; cases hf
  | succ n ih =>
    intro τ a1 a3 res hf H locs ls hw hl
    exact wM_noMore_30b C N τ (fM_noMore_30 N n) ih a1 a3 res hf H locs ls hw hl
set_option maxHeartbeats 4000000 in
set_option maxRecDepth 100000 in
theorem cM_noMore (l : Launch) (E : xE) (N : Nat) (τ : yS) (σ : xS) (a1 : Int32) (res : Int32 × yS) (hf : fM_noMore N τ a1 = some res) : xM l E yM_noMore bM_noMore 4 (some .int) 2 0 0 [.ref (E.2.2.1 30 0), .int a1] σ τ (some (.int res.1)) σ res.2 := by
  refine x_met (by decide) (Nat.le_of_ble_eq_true rfl) (fun p e R s m args below meth c A ls H locs C hw hl => ?_)
  have hl : lv_has ls 4 [(0, .ref (E.2.2.1 30 0)), (1, .int a1)] := hl
  have hx := C.1
  have hb := C.2.1
  unfold fM_noMore at hf
  refine lv_iload_n hx hb dM_noMore_0 rfl (lv_at hl 1 rfl) ?_
  refine lv_iconst (v := 0) hx hb dM_noMore_1 (by decide) ?_
  refine lv_aload_n hx hb dM_noMore_2 rfl (lv_at hl 0 rfl) ?_
  refine y_get C hw 30 0 4 (v := .int (τ 30 0 4)) at_30 rfl rfl ⟨by decide, by decide⟩ wM_110 rfl dM_noMore_3 ?_
  refine lv_iconst (v := 1) hx hb dM_noMore_6 (by decide) ?_
  refine lv_isub hx hb dM_noMore_7 ?_
  refine x_callS (As := [.int a1, .int 0, .int ((τ 30 0 4) - 1)]) (rest := []) (st1 := [.int (fM_in a1 0 ((τ 30 0 4) - 1))]) C hw (cM_in l E τ σ a1 0 ((τ 30 0 4) - 1)) kM_106 (by decide) rfl rfl hl.1 (lv_room (Nat.le_of_ble_eq_true rfl)) dM_noMore_8 ⟨by decide, by decide⟩ rfl (fun H locs hw => ?_)
  refine lv_if_ne (tgt := 16) hx hb dM_noMore_11 (by decide) (fun c10 => ?_) (fun c10 => ?_)
  · replace hf := x_in c10 hf
    refine lv_aload_n hx hb dM_noMore_16 rfl (lv_at hl 0 rfl) ?_
    refine lv_iconst (v := 0) hx hb dM_noMore_17 (by decide) ?_
    obtain ⟨r12, s13, h11, hf⟩ := x_b hf
    refine x_callV (As := [.int 0]) (rest := []) (st1 := [.int r12]) C hw (cM_other l E τ σ 0 (r12, s13) h11) kM_113 (x_recvY C hw 30 0 at_30 rfl rfl) (by decide) rfl rfl hl.1 (lv_room (Nat.le_of_ble_eq_true rfl)) dM_noMore_18 ⟨by decide, by decide⟩ rfl (fun H locs hw => ?_)
    refine lv_istore_n (lv' := [(2, .int r12), (0, .ref (E.2.2.1 30 0)), (1, .int a1)]) hx hb dM_noMore_21 rfl hl (by decide) rfl (fun ls hl => ?_)
    refine lv_iload_n hx hb dM_noMore_22 rfl (lv_at hl 0 rfl) ?_
    refine lv_if_ge (tgt := 28) hx hb dM_noMore_23 (by decide) (fun c14 => ?_) (fun c14 => ?_)
    · replace hf := x_ip c14 hf
      refine lv_iconst (v := 0) hx hb dM_noMore_28 (by decide) ?_
      refine lv_istore_n (lv' := [(3, .int 0), (2, .int r12), (0, .ref (E.2.2.1 30 0)), (1, .int a1)]) hx hb dM_noMore_29 rfl hl (by decide) rfl (fun ls hl => ?_)
      exact wM_noMore_30 C N N s13 a1 0 res hf H locs ls hw (lv_sub hl [2, 3, 0] rfl)
    · replace hf := x_in c14 hf
      refine lv_iload_n hx hb dM_noMore_26 rfl (lv_at hl 0 rfl) ?_
      obtain rfl := Option.some.inj hf
      exact x_iret C hw dM_noMore_27
  · replace hf := x_ip c10 hf
    refine lv_iconst (v := (-1)) hx hb dM_noMore_14 (by decide) ?_
    obtain rfl := Option.some.inj hf
    exact x_iret C hw dM_noMore_15
-- StandInsModel restart ()I
set_option maxRecDepth 100000 in
theorem dM_restart_0 : decode bM_restart 0 = .ok (.aload_n 0, 1) := by decide +kernel
set_option maxRecDepth 100000 in
theorem dM_restart_1 : decode bM_restart 1 = .ok (.iconst 0, 1) := by decide +kernel
set_option maxRecDepth 100000 in
theorem dM_restart_2 : decode bM_restart 2 = .ok (.invokevirtual 113, 3) := by decide +kernel
set_option maxRecDepth 100000 in
theorem dM_restart_5 : decode bM_restart 5 = .ok (.istore_n 1, 1) := by decide +kernel
set_option maxRecDepth 100000 in
theorem dM_restart_6 : decode bM_restart 6 = .ok (.iload_n 1, 1) := by decide +kernel
set_option maxRecDepth 100000 in
theorem dM_restart_7 : decode bM_restart 7 = .ok (.ifCond .ge 5, 3) := by decide +kernel
set_option maxRecDepth 100000 in
theorem dM_restart_10 : decode bM_restart 10 = .ok (.iload_n 1, 1) := by decide +kernel
set_option maxRecDepth 100000 in
theorem dM_restart_11 : decode bM_restart 11 = .ok (.ireturn, 1) := by decide +kernel
set_option maxRecDepth 100000 in
theorem dM_restart_12 : decode bM_restart 12 = .ok (.aload_n 0, 1) := by decide +kernel
set_option maxRecDepth 100000 in
theorem dM_restart_13 : decode bM_restart 13 = .ok (.getfield 74, 3) := by decide +kernel
set_option maxRecDepth 100000 in
theorem dM_restart_16 : decode bM_restart 16 = .ok (.istore_n 2, 1) := by decide +kernel
set_option maxRecDepth 100000 in
theorem dM_restart_17 : decode bM_restart 17 = .ok (.aload_n 0, 1) := by decide +kernel
set_option maxRecDepth 100000 in
theorem dM_restart_18 : decode bM_restart 18 = .ok (.iconst (-1), 1) := by decide +kernel
set_option maxRecDepth 100000 in
theorem dM_restart_19 : decode bM_restart 19 = .ok (.putfield 74, 3) := by decide +kernel
set_option maxRecDepth 100000 in
theorem dM_restart_22 : decode bM_restart 22 = .ok (.iload_n 2, 1) := by decide +kernel
set_option maxRecDepth 100000 in
theorem dM_restart_23 : decode bM_restart 23 = .ok (.ireturn, 1) := by decide +kernel
def fM_restart (τ : yS) : Option (Int32 × yS) :=
  xb (fM_other τ 0) fun r2 s3 =>
  if 0 ≤ r2 then
  (xl (y_si s3 30 0 31 (-1)) fun s5 =>
  some (s3 30 0 31, s5))
  else
  (some (r2, s3))
set_option maxHeartbeats 4000000 in
set_option maxRecDepth 100000 in
theorem cM_restart (l : Launch) (E : xE) (τ : yS) (σ : xS) (res : Int32 × yS) (hf : fM_restart τ = some res) : xM l E yM_restart bM_restart 3 (some .int) 2 0 0 [.ref (E.2.2.1 30 0)] σ τ (some (.int res.1)) σ res.2 := by
  refine x_met (by decide) (Nat.le_of_ble_eq_true rfl) (fun p e R s m args below meth c A ls H locs C hw hl => ?_)
  have hl : lv_has ls 3 [(0, .ref (E.2.2.1 30 0))] := hl
  have hx := C.1
  have hb := C.2.1
  unfold fM_restart at hf
  refine lv_aload_n hx hb dM_restart_0 rfl (lv_at hl 0 rfl) ?_
  refine lv_iconst (v := 0) hx hb dM_restart_1 (by decide) ?_
  obtain ⟨r2, s3, h1, hf⟩ := x_b hf
  refine x_callV (As := [.int 0]) (rest := []) (st1 := [.int r2]) C hw (cM_other l E τ σ 0 (r2, s3) h1) kM_113 (x_recvY C hw 30 0 at_30 rfl rfl) (by decide) rfl rfl hl.1 (lv_room (Nat.le_of_ble_eq_true rfl)) dM_restart_2 ⟨by decide, by decide⟩ rfl (fun H locs hw => ?_)
  refine lv_istore_n (lv' := [(1, .int r2), (0, .ref (E.2.2.1 30 0))]) hx hb dM_restart_5 rfl hl (by decide) rfl (fun ls hl => ?_)
  refine lv_iload_n hx hb dM_restart_6 rfl (lv_at hl 0 rfl) ?_
  refine lv_if_ge (tgt := 12) hx hb dM_restart_7 (by decide) (fun c4 => ?_) (fun c4 => ?_)
  · replace hf := x_ip c4 hf
    refine lv_aload_n hx hb dM_restart_12 rfl (lv_at hl 1 rfl) ?_
    refine y_get C hw 30 0 31 (v := .int (s3 30 0 31)) at_30 rfl rfl ⟨by decide, by decide⟩ wM_74 rfl dM_restart_13 ?_
    refine lv_istore_n (lv' := [(2, .int (s3 30 0 31)), (1, .int r2), (0, .ref (E.2.2.1 30 0))]) hx hb dM_restart_16 rfl hl (by decide) rfl (fun ls hl => ?_)
    refine lv_aload_n hx hb dM_restart_17 rfl (lv_at hl 2 rfl) ?_
    refine lv_iconst (v := (-1)) hx hb dM_restart_18 (by decide) ?_
    refine y_puti C hw 30 0 31 at_30 rfl rfl rfl ⟨rfl, rfl⟩ ⟨by decide, by decide⟩ (Nat.le_of_ble_eq_true rfl) wM_74 dM_restart_19 (fun H locs hw => ?_)
    obtain ⟨s5, es5, hf⟩ := x_l hf
    rw [← es5] at hw
    refine lv_iload_n hx hb dM_restart_22 rfl (lv_at hl 0 rfl) ?_
    obtain rfl := Option.some.inj hf
    exact x_iret C hw dM_restart_23
  · replace hf := x_in c4 hf
    refine lv_iload_n hx hb dM_restart_10 rfl (lv_at hl 0 rfl) ?_
    obtain rfl := Option.some.inj hf
    exact x_iret C hw dM_restart_11
-- StandInsModel noted (II)I
set_option maxRecDepth 100000 in
theorem dM_noted_0 : decode bM_noted 0 = .ok (.iload_n 1, 1) := by decide +kernel
set_option maxRecDepth 100000 in
theorem dM_noted_1 : decode bM_noted 1 = .ok (.iconst 0, 1) := by decide +kernel
set_option maxRecDepth 100000 in
theorem dM_noted_2 : decode bM_noted 2 = .ok (.aload_n 0, 1) := by decide +kernel
set_option maxRecDepth 100000 in
theorem dM_noted_3 : decode bM_noted 3 = .ok (.getfield 130, 3) := by decide +kernel
set_option maxRecDepth 100000 in
theorem dM_noted_6 : decode bM_noted 6 = .ok (.iconst 1, 1) := by decide +kernel
set_option maxRecDepth 100000 in
theorem dM_noted_7 : decode bM_noted 7 = .ok (.isub, 1) := by decide +kernel
set_option maxRecDepth 100000 in
theorem dM_noted_8 : decode bM_noted 8 = .ok (.invokestatic 106, 3) := by decide +kernel
set_option maxRecDepth 100000 in
theorem dM_noted_11 : decode bM_noted 11 = .ok (.ifCond .ne 5, 3) := by decide +kernel
set_option maxRecDepth 100000 in
theorem dM_noted_14 : decode bM_noted 14 = .ok (.iconst (-1), 1) := by decide +kernel
set_option maxRecDepth 100000 in
theorem dM_noted_15 : decode bM_noted 15 = .ok (.ireturn, 1) := by decide +kernel
set_option maxRecDepth 100000 in
theorem dM_noted_16 : decode bM_noted 16 = .ok (.iload_n 2, 1) := by decide +kernel
set_option maxRecDepth 100000 in
theorem dM_noted_17 : decode bM_noted 17 = .ok (.tableswitch 100 0 6 #[43, 50, 57, 64, 71, 78, 93], 43) := by decide +kernel
set_option maxRecDepth 100000 in
theorem dM_noted_60 : decode bM_noted 60 = .ok (.aload_n 0, 1) := by decide +kernel
set_option maxRecDepth 100000 in
theorem dM_noted_61 : decode bM_noted 61 = .ok (.getfield 32, 3) := by decide +kernel
set_option maxRecDepth 100000 in
theorem dM_noted_64 : decode bM_noted 64 = .ok (.iload_n 1, 1) := by decide +kernel
set_option maxRecDepth 100000 in
theorem dM_noted_65 : decode bM_noted 65 = .ok (.iaload, 1) := by decide +kernel
set_option maxRecDepth 100000 in
theorem dM_noted_66 : decode bM_noted 66 = .ok (.ireturn, 1) := by decide +kernel
set_option maxRecDepth 100000 in
theorem dM_noted_67 : decode bM_noted 67 = .ok (.aload_n 0, 1) := by decide +kernel
set_option maxRecDepth 100000 in
theorem dM_noted_68 : decode bM_noted 68 = .ok (.getfield 35, 3) := by decide +kernel
set_option maxRecDepth 100000 in
theorem dM_noted_71 : decode bM_noted 71 = .ok (.iload_n 1, 1) := by decide +kernel
set_option maxRecDepth 100000 in
theorem dM_noted_72 : decode bM_noted 72 = .ok (.iaload, 1) := by decide +kernel
set_option maxRecDepth 100000 in
theorem dM_noted_73 : decode bM_noted 73 = .ok (.ireturn, 1) := by decide +kernel
set_option maxRecDepth 100000 in
theorem dM_noted_74 : decode bM_noted 74 = .ok (.aload_n 0, 1) := by decide +kernel
set_option maxRecDepth 100000 in
theorem dM_noted_75 : decode bM_noted 75 = .ok (.getfield 38, 3) := by decide +kernel
set_option maxRecDepth 100000 in
theorem dM_noted_78 : decode bM_noted 78 = .ok (.iload_n 1, 1) := by decide +kernel
set_option maxRecDepth 100000 in
theorem dM_noted_79 : decode bM_noted 79 = .ok (.iaload, 1) := by decide +kernel
set_option maxRecDepth 100000 in
theorem dM_noted_80 : decode bM_noted 80 = .ok (.ireturn, 1) := by decide +kernel
set_option maxRecDepth 100000 in
theorem dM_noted_81 : decode bM_noted 81 = .ok (.aload_n 0, 1) := by decide +kernel
set_option maxRecDepth 100000 in
theorem dM_noted_82 : decode bM_noted 82 = .ok (.getfield 41, 3) := by decide +kernel
set_option maxRecDepth 100000 in
theorem dM_noted_85 : decode bM_noted 85 = .ok (.iload_n 1, 1) := by decide +kernel
set_option maxRecDepth 100000 in
theorem dM_noted_86 : decode bM_noted 86 = .ok (.iaload, 1) := by decide +kernel
set_option maxRecDepth 100000 in
theorem dM_noted_87 : decode bM_noted 87 = .ok (.ireturn, 1) := by decide +kernel
set_option maxRecDepth 100000 in
theorem dM_noted_88 : decode bM_noted 88 = .ok (.aload_n 0, 1) := by decide +kernel
set_option maxRecDepth 100000 in
theorem dM_noted_89 : decode bM_noted 89 = .ok (.getfield 44, 3) := by decide +kernel
set_option maxRecDepth 100000 in
theorem dM_noted_92 : decode bM_noted 92 = .ok (.iload_n 1, 1) := by decide +kernel
set_option maxRecDepth 100000 in
theorem dM_noted_93 : decode bM_noted 93 = .ok (.iaload, 1) := by decide +kernel
set_option maxRecDepth 100000 in
theorem dM_noted_94 : decode bM_noted 94 = .ok (.ireturn, 1) := by decide +kernel
set_option maxRecDepth 100000 in
theorem dM_noted_95 : decode bM_noted 95 = .ok (.aload_n 0, 1) := by decide +kernel
set_option maxRecDepth 100000 in
theorem dM_noted_96 : decode bM_noted 96 = .ok (.getfield 50, 3) := by decide +kernel
set_option maxRecDepth 100000 in
theorem dM_noted_99 : decode bM_noted 99 = .ok (.iload_n 1, 1) := by decide +kernel
set_option maxRecDepth 100000 in
theorem dM_noted_100 : decode bM_noted 100 = .ok (.baload, 1) := by decide +kernel
set_option maxRecDepth 100000 in
theorem dM_noted_101 : decode bM_noted 101 = .ok (.ifCond .eq 7, 3) := by decide +kernel
set_option maxRecDepth 100000 in
theorem dM_noted_104 : decode bM_noted 104 = .ok (.iconst 1, 1) := by decide +kernel
set_option maxRecDepth 100000 in
theorem dM_noted_105 : decode bM_noted 105 = .ok (.goto 4, 3) := by decide +kernel
set_option maxRecDepth 100000 in
theorem dM_noted_108 : decode bM_noted 108 = .ok (.iconst 0, 1) := by decide +kernel
set_option maxRecDepth 100000 in
theorem dM_noted_109 : decode bM_noted 109 = .ok (.ireturn, 1) := by decide +kernel
set_option maxRecDepth 100000 in
theorem dM_noted_110 : decode bM_noted 110 = .ok (.aload_n 0, 1) := by decide +kernel
set_option maxRecDepth 100000 in
theorem dM_noted_111 : decode bM_noted 111 = .ok (.getfield 47, 3) := by decide +kernel
set_option maxRecDepth 100000 in
theorem dM_noted_114 : decode bM_noted 114 = .ok (.iload_n 1, 1) := by decide +kernel
set_option maxRecDepth 100000 in
theorem dM_noted_115 : decode bM_noted 115 = .ok (.iaload, 1) := by decide +kernel
set_option maxRecDepth 100000 in
theorem dM_noted_116 : decode bM_noted 116 = .ok (.ireturn, 1) := by decide +kernel
set_option maxRecDepth 100000 in
theorem dM_noted_117 : decode bM_noted 117 = .ok (.iconst (-1), 1) := by decide +kernel
set_option maxRecDepth 100000 in
theorem dM_noted_118 : decode bM_noted 118 = .ok (.ireturn, 1) := by decide +kernel
def fM_noted (τ : yS) (a1 : Int32) (a2 : Int32) : Option (Int32) :=
  if (fM_in a1 0 ((τ 30 0 20) - 1)) = 0 then
  (some (-1))
  else
  (if a2 = 0 then
  (if ¬ (a1 < 0 ∨ 40 ≤ a1.toNatClampNeg) then
  some (τ 38 0 a1.toNatClampNeg)
  else none)
  else
  (if a2 = 1 then
  (if ¬ (a1 < 0 ∨ 40 ≤ a1.toNatClampNeg) then
  some (τ 39 0 a1.toNatClampNeg)
  else none)
  else
  (if a2 = 2 then
  (if ¬ (a1 < 0 ∨ 40 ≤ a1.toNatClampNeg) then
  some (τ 40 0 a1.toNatClampNeg)
  else none)
  else
  (if a2 = 3 then
  (if ¬ (a1 < 0 ∨ 40 ≤ a1.toNatClampNeg) then
  some (τ 41 0 a1.toNatClampNeg)
  else none)
  else
  (if a2 = 4 then
  (if ¬ (a1 < 0 ∨ 40 ≤ a1.toNatClampNeg) then
  some (τ 42 0 a1.toNatClampNeg)
  else none)
  else
  (if a2 = 5 then
  (if ¬ (a1 < 0 ∨ 40 ≤ a1.toNatClampNeg) then
  if (τ 44 0 a1.toNatClampNeg) = 0 then
  (some 0)
  else
  (some 1)
  else none)
  else
  (if a2 = 6 then
  (if ¬ (a1 < 0 ∨ 40 ≤ a1.toNatClampNeg) then
  some (τ 43 0 a1.toNatClampNeg)
  else none)
  else
  (some (-1)))))))))
set_option maxHeartbeats 4000000 in
set_option maxRecDepth 100000 in
theorem cM_noted (l : Launch) (E : xE) (τ : yS) (σ : xS) (a1 : Int32) (a2 : Int32) (res : Int32) (hf : fM_noted τ a1 a2 = some res) : xM l E yM_noted bM_noted 3 (some .int) 1 0 0 [.ref (E.2.2.1 30 0), .int a1, .int a2] σ τ (some (.int res)) σ τ := by
  refine x_met (by decide) (Nat.le_of_ble_eq_true rfl) (fun p e R s m args below meth c A ls H locs C hw hl => ?_)
  have hl : lv_has ls 3 [(0, .ref (E.2.2.1 30 0)), (1, .int a1), (2, .int a2)] := hl
  have hx := C.1
  have hb := C.2.1
  unfold fM_noted at hf
  refine lv_iload_n hx hb dM_noted_0 rfl (lv_at hl 1 rfl) ?_
  refine lv_iconst (v := 0) hx hb dM_noted_1 (by decide) ?_
  refine lv_aload_n hx hb dM_noted_2 rfl (lv_at hl 0 rfl) ?_
  refine y_get C hw 30 0 20 (v := .int (τ 30 0 20)) at_30 rfl rfl ⟨by decide, by decide⟩ wM_130 rfl dM_noted_3 ?_
  refine lv_iconst (v := 1) hx hb dM_noted_6 (by decide) ?_
  refine lv_isub hx hb dM_noted_7 ?_
  refine x_callS (As := [.int a1, .int 0, .int ((τ 30 0 20) - 1)]) (rest := []) (st1 := [.int (fM_in a1 0 ((τ 30 0 20) - 1))]) C hw (cM_in l E τ σ a1 0 ((τ 30 0 20) - 1)) kM_106 (by decide) rfl rfl hl.1 (lv_room (Nat.le_of_ble_eq_true rfl)) dM_noted_8 ⟨by decide, by decide⟩ rfl (fun H locs hw => ?_)
  refine lv_if_ne (tgt := 16) hx hb dM_noted_11 (by decide) (fun c2 => ?_) (fun c2 => ?_)
  · replace hf := x_in c2 hf
    refine lv_iload_n hx hb dM_noted_16 rfl (lv_at hl 2 rfl) ?_
    by_cases c3 : a2 = 0
    · replace hf := x_ip c3 hf
      refine lv_tableIn (tgt := 60) hx hb dM_noted_17 (by rw [c3]; decide) (by rw [c3]; decide) (by rw [c3]; rfl) (by decide) ?_
      refine lv_aload_n hx hb dM_noted_60 rfl (lv_at hl 0 rfl) ?_
      refine y_get C hw 30 0 13 (v := .ref (E.2.2.1 38 0)) at_30 rfl rfl ⟨by decide, by decide⟩ wM_32 rfl dM_noted_61 ?_
      refine lv_iload_n hx hb dM_noted_64 rfl (lv_at hl 1 rfl) ?_
      obtain ⟨g4, hf⟩ := x_g hf
      refine y_ild C hw 38 0 at_38 rfl g4 dM_noted_65 ?_
      obtain rfl := Option.some.inj hf
      exact x_iret C hw dM_noted_66
    · replace hf := x_in c3 hf
      by_cases c5 : a2 = 1
      · replace hf := x_ip c5 hf
        refine lv_tableIn (tgt := 67) hx hb dM_noted_17 (by rw [c5]; decide) (by rw [c5]; decide) (by rw [c5]; rfl) (by decide) ?_
        refine lv_aload_n hx hb dM_noted_67 rfl (lv_at hl 0 rfl) ?_
        refine y_get C hw 30 0 14 (v := .ref (E.2.2.1 39 0)) at_30 rfl rfl ⟨by decide, by decide⟩ wM_35 rfl dM_noted_68 ?_
        refine lv_iload_n hx hb dM_noted_71 rfl (lv_at hl 1 rfl) ?_
        obtain ⟨g6, hf⟩ := x_g hf
        refine y_ild C hw 39 0 at_39 rfl g6 dM_noted_72 ?_
        obtain rfl := Option.some.inj hf
        exact x_iret C hw dM_noted_73
      · replace hf := x_in c5 hf
        by_cases c7 : a2 = 2
        · replace hf := x_ip c7 hf
          refine lv_tableIn (tgt := 74) hx hb dM_noted_17 (by rw [c7]; decide) (by rw [c7]; decide) (by rw [c7]; rfl) (by decide) ?_
          refine lv_aload_n hx hb dM_noted_74 rfl (lv_at hl 0 rfl) ?_
          refine y_get C hw 30 0 15 (v := .ref (E.2.2.1 40 0)) at_30 rfl rfl ⟨by decide, by decide⟩ wM_38 rfl dM_noted_75 ?_
          refine lv_iload_n hx hb dM_noted_78 rfl (lv_at hl 1 rfl) ?_
          obtain ⟨g8, hf⟩ := x_g hf
          refine y_ild C hw 40 0 at_40 rfl g8 dM_noted_79 ?_
          obtain rfl := Option.some.inj hf
          exact x_iret C hw dM_noted_80
        · replace hf := x_in c7 hf
          by_cases c9 : a2 = 3
          · replace hf := x_ip c9 hf
            refine lv_tableIn (tgt := 81) hx hb dM_noted_17 (by rw [c9]; decide) (by rw [c9]; decide) (by rw [c9]; rfl) (by decide) ?_
            refine lv_aload_n hx hb dM_noted_81 rfl (lv_at hl 0 rfl) ?_
            refine y_get C hw 30 0 16 (v := .ref (E.2.2.1 41 0)) at_30 rfl rfl ⟨by decide, by decide⟩ wM_41 rfl dM_noted_82 ?_
            refine lv_iload_n hx hb dM_noted_85 rfl (lv_at hl 1 rfl) ?_
            obtain ⟨g10, hf⟩ := x_g hf
            refine y_ild C hw 41 0 at_41 rfl g10 dM_noted_86 ?_
            obtain rfl := Option.some.inj hf
            exact x_iret C hw dM_noted_87
          · replace hf := x_in c9 hf
            by_cases c11 : a2 = 4
            · replace hf := x_ip c11 hf
              refine lv_tableIn (tgt := 88) hx hb dM_noted_17 (by rw [c11]; decide) (by rw [c11]; decide) (by rw [c11]; rfl) (by decide) ?_
              refine lv_aload_n hx hb dM_noted_88 rfl (lv_at hl 0 rfl) ?_
              refine y_get C hw 30 0 17 (v := .ref (E.2.2.1 42 0)) at_30 rfl rfl ⟨by decide, by decide⟩ wM_44 rfl dM_noted_89 ?_
              refine lv_iload_n hx hb dM_noted_92 rfl (lv_at hl 1 rfl) ?_
              obtain ⟨g12, hf⟩ := x_g hf
              refine y_ild C hw 42 0 at_42 rfl g12 dM_noted_93 ?_
              obtain rfl := Option.some.inj hf
              exact x_iret C hw dM_noted_94
            · replace hf := x_in c11 hf
              by_cases c13 : a2 = 5
              · replace hf := x_ip c13 hf
                refine lv_tableIn (tgt := 95) hx hb dM_noted_17 (by rw [c13]; decide) (by rw [c13]; decide) (by rw [c13]; rfl) (by decide) ?_
                refine lv_aload_n hx hb dM_noted_95 rfl (lv_at hl 0 rfl) ?_
                refine y_get C hw 30 0 19 (v := .ref (E.2.2.1 44 0)) at_30 rfl rfl ⟨by decide, by decide⟩ wM_50 rfl dM_noted_96 ?_
                refine lv_iload_n hx hb dM_noted_99 rfl (lv_at hl 1 rfl) ?_
                obtain ⟨g14, hf⟩ := x_g hf
                refine y_zld C hw 44 0 at_44 rfl g14 dM_noted_100 ?_
                refine lv_if_eq (tgt := 108) hx hb dM_noted_101 (by decide) (fun c15 => ?_) (fun c15 => ?_)
                · replace hf := x_ip c15 hf
                  refine lv_iconst (v := 0) hx hb dM_noted_108 (by decide) ?_
                  obtain rfl := Option.some.inj hf
                  exact x_iret C hw dM_noted_109
                · replace hf := x_in c15 hf
                  refine lv_iconst (v := 1) hx hb dM_noted_104 (by decide) ?_
                  refine lv_goto (tgt := 109) hx hb dM_noted_105 (by decide) ?_
                  obtain rfl := Option.some.inj hf
                  exact x_iret C hw dM_noted_109
              · replace hf := x_in c13 hf
                by_cases c16 : a2 = 6
                · replace hf := x_ip c16 hf
                  refine lv_tableIn (tgt := 110) hx hb dM_noted_17 (by rw [c16]; decide) (by rw [c16]; decide) (by rw [c16]; rfl) (by decide) ?_
                  refine lv_aload_n hx hb dM_noted_110 rfl (lv_at hl 0 rfl) ?_
                  refine y_get C hw 30 0 18 (v := .ref (E.2.2.1 43 0)) at_30 rfl rfl ⟨by decide, by decide⟩ wM_47 rfl dM_noted_111 ?_
                  refine lv_iload_n hx hb dM_noted_114 rfl (lv_at hl 1 rfl) ?_
                  obtain ⟨g17, hf⟩ := x_g hf
                  refine y_ild C hw 43 0 at_43 rfl g17 dM_noted_115 ?_
                  obtain rfl := Option.some.inj hf
                  exact x_iret C hw dM_noted_116
                · replace hf := x_in c16 hf
                  refine lv_tableOut (tgt := 117) hx hb dM_noted_17 (by have nc3 := lv_neT c3 (a := 0) (by decide); have nc5 := lv_neT c5 (a := 1) (by decide); have nc7 := lv_neT c7 (a := 2) (by decide); have nc9 := lv_neT c9 (a := 3) (by decide); have nc11 := lv_neT c11 (a := 4) (by decide); have nc13 := lv_neT c13 (a := 5) (by decide); have nc16 := lv_neT c16 (a := 6) (by decide); omega) (by decide) ?_
                  refine lv_iconst (v := (-1)) hx hb dM_noted_117 (by decide) ?_
                  obtain rfl := Option.some.inj hf
                  exact x_iret C hw dM_noted_118
  · replace hf := x_ip c2 hf
    refine lv_iconst (v := (-1)) hx hb dM_noted_14 (by decide) ?_
    obtain rfl := Option.some.inj hf
    exact x_iret C hw dM_noted_15
