-- StandInsModel single (III)V
set_option maxRecDepth 100000 in
theorem dM_single_0 : decode bM_single 0 = .ok (.aload_n 0, 1) := by decide +kernel
set_option maxRecDepth 100000 in
theorem dM_single_1 : decode bM_single 1 = .ok (.getfield 23, 3) := by decide +kernel
set_option maxRecDepth 100000 in
theorem dM_single_4 : decode bM_single 4 = .ok (.iload_n 1, 1) := by decide +kernel
set_option maxRecDepth 100000 in
theorem dM_single_5 : decode bM_single 5 = .ok (.iconst 1, 1) := by decide +kernel
set_option maxRecDepth 100000 in
theorem dM_single_6 : decode bM_single 6 = .ok (.iastore, 1) := by decide +kernel
set_option maxRecDepth 100000 in
theorem dM_single_7 : decode bM_single 7 = .ok (.aload_n 0, 1) := by decide +kernel
set_option maxRecDepth 100000 in
theorem dM_single_8 : decode bM_single 8 = .ok (.getfield 26, 3) := by decide +kernel
set_option maxRecDepth 100000 in
theorem dM_single_11 : decode bM_single 11 = .ok (.bipush 8, 2) := by decide +kernel
set_option maxRecDepth 100000 in
theorem dM_single_13 : decode bM_single 13 = .ok (.iload_n 1, 1) := by decide +kernel
set_option maxRecDepth 100000 in
theorem dM_single_14 : decode bM_single 14 = .ok (.imul, 1) := by decide +kernel
set_option maxRecDepth 100000 in
theorem dM_single_15 : decode bM_single 15 = .ok (.iload_n 2, 1) := by decide +kernel
set_option maxRecDepth 100000 in
theorem dM_single_16 : decode bM_single 16 = .ok (.iastore, 1) := by decide +kernel
set_option maxRecDepth 100000 in
theorem dM_single_17 : decode bM_single 17 = .ok (.aload_n 0, 1) := by decide +kernel
set_option maxRecDepth 100000 in
theorem dM_single_18 : decode bM_single 18 = .ok (.getfield 29, 3) := by decide +kernel
set_option maxRecDepth 100000 in
theorem dM_single_21 : decode bM_single 21 = .ok (.bipush 8, 2) := by decide +kernel
set_option maxRecDepth 100000 in
theorem dM_single_23 : decode bM_single 23 = .ok (.iload_n 1, 1) := by decide +kernel
set_option maxRecDepth 100000 in
theorem dM_single_24 : decode bM_single 24 = .ok (.imul, 1) := by decide +kernel
set_option maxRecDepth 100000 in
theorem dM_single_25 : decode bM_single 25 = .ok (.iload_n 3, 1) := by decide +kernel
set_option maxRecDepth 100000 in
theorem dM_single_26 : decode bM_single 26 = .ok (.iastore, 1) := by decide +kernel
set_option maxRecDepth 100000 in
theorem dM_single_27 : decode bM_single 27 = .ok (.return_, 1) := by decide +kernel
def fM_single (τ : yS) (a1 : Int32) (a2 : Int32) (a3 : Int32) : Option (yS) :=
  if ¬ (a1 < 0 ∨ 120 ≤ a1.toNatClampNeg) then
  xl (y_si τ 35 0 a1.toNatClampNeg 1) fun s2 =>
  if ¬ ((8 * a1) < 0 ∨ 960 ≤ (8 * a1).toNatClampNeg) then
  xl (y_si s2 36 0 ((8 * a1).toNatClampNeg) a2) fun s4 =>
  xl (y_si s4 37 0 ((8 * a1).toNatClampNeg) a3) fun s5 =>
  some s5
  else none
  else none
set_option maxHeartbeats 4000000 in
set_option maxRecDepth 100000 in
theorem cM_single (l : Launch) (E : xE) (τ : yS) (σ : xS) (a1 : Int32) (a2 : Int32) (a3 : Int32) (res : yS) (hf : fM_single τ a1 a2 a3 = some res) : xM l E yM_single bM_single 4 none 0 0 0 [.ref (E.2.2.1 30 0), .int a1, .int a2, .int a3] σ τ none σ res := by
  refine x_met (by decide) (Nat.le_of_ble_eq_true rfl) (fun p e R s m args below meth c A ls H locs C hw hl => ?_)
  have hl : lv_has ls 4 [(0, .ref (E.2.2.1 30 0)), (1, .int a1), (2, .int a2), (3, .int a3)] := hl
  have hx := C.1
  have hb := C.2.1
  unfold fM_single at hf
  refine lv_aload_n hx hb dM_single_0 rfl (lv_at hl 0 rfl) ?_
  refine y_get C hw 30 0 5 (v := .ref (E.2.2.1 35 0)) at_30 rfl rfl ⟨by decide, by decide⟩ wM_23 rfl dM_single_1 ?_
  refine lv_iload_n hx hb dM_single_4 rfl (lv_at hl 1 rfl) ?_
  refine lv_iconst (v := 1) hx hb dM_single_5 (by decide) ?_
  obtain ⟨g1, hf⟩ := x_g hf
  refine y_ist C hw 35 0 at_35 rfl rfl g1 dM_single_6 (fun H locs hw => ?_)
  obtain ⟨s2, es2, hf⟩ := x_l hf
  rw [← es2] at hw
  refine lv_aload_n hx hb dM_single_7 rfl (lv_at hl 0 rfl) ?_
  refine y_get C hw 30 0 6 (v := .ref (E.2.2.1 36 0)) at_30 rfl rfl ⟨by decide, by decide⟩ wM_26 rfl dM_single_8 ?_
  refine lv_bipush (v := 8) hx hb dM_single_11 (by decide) ?_
  refine lv_iload_n hx hb dM_single_13 rfl (lv_at hl 1 rfl) ?_
  refine lv_imul hx hb dM_single_14 ?_
  refine lv_iload_n hx hb dM_single_15 rfl (lv_at hl 2 rfl) ?_
  obtain ⟨g3, hf⟩ := x_g hf
  refine y_ist C hw 36 0 at_36 rfl rfl g3 dM_single_16 (fun H locs hw => ?_)
  obtain ⟨s4, es4, hf⟩ := x_l hf
  rw [← es4] at hw
  refine lv_aload_n hx hb dM_single_17 rfl (lv_at hl 0 rfl) ?_
  refine y_get C hw 30 0 7 (v := .ref (E.2.2.1 37 0)) at_30 rfl rfl ⟨by decide, by decide⟩ wM_29 rfl dM_single_18 ?_
  refine lv_bipush (v := 8) hx hb dM_single_21 (by decide) ?_
  refine lv_iload_n hx hb dM_single_23 rfl (lv_at hl 1 rfl) ?_
  refine lv_imul hx hb dM_single_24 ?_
  refine lv_iload_n hx hb dM_single_25 rfl (lv_at hl 3 rfl) ?_
  refine y_ist C hw 37 0 at_37 rfl rfl g3 dM_single_26 (fun H locs hw => ?_)
  obtain ⟨s5, es5, hf⟩ := x_l hf
  rw [← es5] at hw
  obtain rfl := Option.some.inj hf
  exact x_vret C hw dM_single_27
-- StandInsModel matcher (II)I
set_option maxRecDepth 100000 in
theorem dM_matcher_0 : decode bM_matcher 0 = .ok (.iload_n 1, 1) := by decide +kernel
set_option maxRecDepth 100000 in
theorem dM_matcher_1 : decode bM_matcher 1 = .ok (.iconst 0, 1) := by decide +kernel
set_option maxRecDepth 100000 in
theorem dM_matcher_2 : decode bM_matcher 2 = .ok (.bipush 7, 2) := by decide +kernel
set_option maxRecDepth 100000 in
theorem dM_matcher_4 : decode bM_matcher 4 = .ok (.invokestatic 106, 3) := by decide +kernel
set_option maxRecDepth 100000 in
theorem dM_matcher_7 : decode bM_matcher 7 = .ok (.ifCond .ne 5, 3) := by decide +kernel
set_option maxRecDepth 100000 in
theorem dM_matcher_10 : decode bM_matcher 10 = .ok (.iconst (-1), 1) := by decide +kernel
set_option maxRecDepth 100000 in
theorem dM_matcher_11 : decode bM_matcher 11 = .ok (.ireturn, 1) := by decide +kernel
set_option maxRecDepth 100000 in
theorem dM_matcher_12 : decode bM_matcher 12 = .ok (.iload_n 1, 1) := by decide +kernel
set_option maxRecDepth 100000 in
theorem dM_matcher_13 : decode bM_matcher 13 = .ok (.iconst 4, 1) := by decide +kernel
set_option maxRecDepth 100000 in
theorem dM_matcher_14 : decode bM_matcher 14 = .ok (.if_icmp .eq 8, 3) := by decide +kernel
set_option maxRecDepth 100000 in
theorem dM_matcher_17 : decode bM_matcher 17 = .ok (.iload_n 1, 1) := by decide +kernel
set_option maxRecDepth 100000 in
theorem dM_matcher_18 : decode bM_matcher 18 = .ok (.iconst 5, 1) := by decide +kernel
set_option maxRecDepth 100000 in
theorem dM_matcher_19 : decode bM_matcher 19 = .ok (.if_icmp .ne 7, 3) := by decide +kernel
set_option maxRecDepth 100000 in
theorem dM_matcher_22 : decode bM_matcher 22 = .ok (.iconst 2, 1) := by decide +kernel
set_option maxRecDepth 100000 in
theorem dM_matcher_23 : decode bM_matcher 23 = .ok (.goto 14, 3) := by decide +kernel
set_option maxRecDepth 100000 in
theorem dM_matcher_26 : decode bM_matcher 26 = .ok (.iload_n 1, 1) := by decide +kernel
set_option maxRecDepth 100000 in
theorem dM_matcher_27 : decode bM_matcher 27 = .ok (.bipush 6, 2) := by decide +kernel
set_option maxRecDepth 100000 in
theorem dM_matcher_29 : decode bM_matcher 29 = .ok (.if_icmp .ne 7, 3) := by decide +kernel
set_option maxRecDepth 100000 in
theorem dM_matcher_32 : decode bM_matcher 32 = .ok (.iconst 1, 1) := by decide +kernel
set_option maxRecDepth 100000 in
theorem dM_matcher_33 : decode bM_matcher 33 = .ok (.goto 4, 3) := by decide +kernel
set_option maxRecDepth 100000 in
theorem dM_matcher_36 : decode bM_matcher 36 = .ok (.iconst 0, 1) := by decide +kernel
set_option maxRecDepth 100000 in
theorem dM_matcher_37 : decode bM_matcher 37 = .ok (.istore_n 3, 1) := by decide +kernel
set_option maxRecDepth 100000 in
theorem dM_matcher_38 : decode bM_matcher 38 = .ok (.iconst 1, 1) := by decide +kernel
set_option maxRecDepth 100000 in
theorem dM_matcher_39 : decode bM_matcher 39 = .ok (.istore 4, 2) := by decide +kernel
set_option maxRecDepth 100000 in
theorem dM_matcher_41 : decode bM_matcher 41 = .ok (.aload_n 0, 1) := by decide +kernel
set_option maxRecDepth 100000 in
theorem dM_matcher_42 : decode bM_matcher 42 = .ok (.getfield 96, 3) := by decide +kernel
set_option maxRecDepth 100000 in
theorem dM_matcher_45 : decode bM_matcher 45 = .ok (.iload_n 3, 1) := by decide +kernel
set_option maxRecDepth 100000 in
theorem dM_matcher_46 : decode bM_matcher 46 = .ok (.if_icmp .ge 7, 3) := by decide +kernel
set_option maxRecDepth 100000 in
theorem dM_matcher_49 : decode bM_matcher 49 = .ok (.iconst 1, 1) := by decide +kernel
set_option maxRecDepth 100000 in
theorem dM_matcher_50 : decode bM_matcher 50 = .ok (.goto 4, 3) := by decide +kernel
set_option maxRecDepth 100000 in
theorem dM_matcher_53 : decode bM_matcher 53 = .ok (.iconst 0, 1) := by decide +kernel
set_option maxRecDepth 100000 in
theorem dM_matcher_54 : decode bM_matcher 54 = .ok (.istore 5, 2) := by decide +kernel
set_option maxRecDepth 100000 in
theorem dM_matcher_56 : decode bM_matcher 56 = .ok (.aload_n 0, 1) := by decide +kernel
set_option maxRecDepth 100000 in
theorem dM_matcher_57 : decode bM_matcher 57 = .ok (.getfield 96, 3) := by decide +kernel
set_option maxRecDepth 100000 in
theorem dM_matcher_60 : decode bM_matcher 60 = .ok (.iload_n 3, 1) := by decide +kernel
set_option maxRecDepth 100000 in
theorem dM_matcher_61 : decode bM_matcher 61 = .ok (.isub, 1) := by decide +kernel
set_option maxRecDepth 100000 in
theorem dM_matcher_62 : decode bM_matcher 62 = .ok (.istore 6, 2) := by decide +kernel
set_option maxRecDepth 100000 in
theorem dM_matcher_64 : decode bM_matcher 64 = .ok (.iload 6, 2) := by decide +kernel
set_option maxRecDepth 100000 in
theorem dM_matcher_66 : decode bM_matcher 66 = .ok (.aload_n 0, 1) := by decide +kernel
set_option maxRecDepth 100000 in
theorem dM_matcher_67 : decode bM_matcher 67 = .ok (.getfield 96, 3) := by decide +kernel
set_option maxRecDepth 100000 in
theorem dM_matcher_70 : decode bM_matcher 70 = .ok (.if_icmp .ge 26, 3) := by decide +kernel
set_option maxRecDepth 100000 in
theorem dM_matcher_73 : decode bM_matcher 73 = .ok (.iload 5, 2) := by decide +kernel
set_option maxRecDepth 100000 in
theorem dM_matcher_75 : decode bM_matcher 75 = .ok (.ifCond .ne 21, 3) := by decide +kernel
set_option maxRecDepth 100000 in
theorem dM_matcher_78 : decode bM_matcher 78 = .ok (.iload 4, 2) := by decide +kernel
set_option maxRecDepth 100000 in
theorem dM_matcher_80 : decode bM_matcher 80 = .ok (.aload_n 0, 1) := by decide +kernel
set_option maxRecDepth 100000 in
theorem dM_matcher_81 : decode bM_matcher 81 = .ok (.getfield 23, 3) := by decide +kernel
set_option maxRecDepth 100000 in
theorem dM_matcher_84 : decode bM_matcher 84 = .ok (.iload 6, 2) := by decide +kernel
set_option maxRecDepth 100000 in
theorem dM_matcher_86 : decode bM_matcher 86 = .ok (.iaload, 1) := by decide +kernel
set_option maxRecDepth 100000 in
theorem dM_matcher_87 : decode bM_matcher 87 = .ok (.iadd, 1) := by decide +kernel
set_option maxRecDepth 100000 in
theorem dM_matcher_88 : decode bM_matcher 88 = .ok (.istore 4, 2) := by decide +kernel
set_option maxRecDepth 100000 in
theorem dM_matcher_90 : decode bM_matcher 90 = .ok (.iinc 6 1, 3) := by decide +kernel
set_option maxRecDepth 100000 in
theorem dM_matcher_93 : decode bM_matcher 93 = .ok (.goto (-29), 3) := by decide +kernel
set_option maxRecDepth 100000 in
theorem dM_matcher_96 : decode bM_matcher 96 = .ok (.iload_n 3, 1) := by decide +kernel
set_option maxRecDepth 100000 in
theorem dM_matcher_97 : decode bM_matcher 97 = .ok (.ifCond .ne 12, 3) := by decide +kernel
set_option maxRecDepth 100000 in
theorem dM_matcher_100 : decode bM_matcher 100 = .ok (.aload_n 0, 1) := by decide +kernel
set_option maxRecDepth 100000 in
theorem dM_matcher_101 : decode bM_matcher 101 = .ok (.getfield 96, 3) := by decide +kernel
set_option maxRecDepth 100000 in
theorem dM_matcher_104 : decode bM_matcher 104 = .ok (.bipush 6, 2) := by decide +kernel
set_option maxRecDepth 100000 in
theorem dM_matcher_106 : decode bM_matcher 106 = .ok (.if_icmp .eq 10, 3) := by decide +kernel
set_option maxRecDepth 100000 in
theorem dM_matcher_109 : decode bM_matcher 109 = .ok (.iload 4, 2) := by decide +kernel
set_option maxRecDepth 100000 in
theorem dM_matcher_111 : decode bM_matcher 111 = .ok (.bipush 8, 2) := by decide +kernel
set_option maxRecDepth 100000 in
theorem dM_matcher_113 : decode bM_matcher 113 = .ok (.if_icmp .le 6, 3) := by decide +kernel
set_option maxRecDepth 100000 in
theorem dM_matcher_116 : decode bM_matcher 116 = .ok (.bipush (-2), 2) := by decide +kernel
set_option maxRecDepth 100000 in
theorem dM_matcher_118 : decode bM_matcher 118 = .ok (.ireturn, 1) := by decide +kernel
set_option maxRecDepth 100000 in
theorem dM_matcher_119 : decode bM_matcher 119 = .ok (.aload_n 0, 1) := by decide +kernel
set_option maxRecDepth 100000 in
theorem dM_matcher_120 : decode bM_matcher 120 = .ok (.iconst 1, 1) := by decide +kernel
set_option maxRecDepth 100000 in
theorem dM_matcher_121 : decode bM_matcher 121 = .ok (.iconst (-1), 1) := by decide +kernel
set_option maxRecDepth 100000 in
theorem dM_matcher_122 : decode bM_matcher 122 = .ok (.iconst 0, 1) := by decide +kernel
set_option maxRecDepth 100000 in
theorem dM_matcher_123 : decode bM_matcher 123 = .ok (.iload 5, 2) := by decide +kernel
set_option maxRecDepth 100000 in
theorem dM_matcher_125 : decode bM_matcher 125 = .ok (.invokevirtual 102, 3) := by decide +kernel
set_option maxRecDepth 100000 in
theorem dM_matcher_128 : decode bM_matcher 128 = .ok (.istore 6, 2) := by decide +kernel
set_option maxRecDepth 100000 in
theorem dM_matcher_130 : decode bM_matcher 130 = .ok (.iload 6, 2) := by decide +kernel
set_option maxRecDepth 100000 in
theorem dM_matcher_132 : decode bM_matcher 132 = .ok (.ifCond .ge 6, 3) := by decide +kernel
set_option maxRecDepth 100000 in
theorem dM_matcher_135 : decode bM_matcher 135 = .ok (.iload 6, 2) := by decide +kernel
set_option maxRecDepth 100000 in
theorem dM_matcher_137 : decode bM_matcher 137 = .ok (.ireturn, 1) := by decide +kernel
set_option maxRecDepth 100000 in
theorem dM_matcher_138 : decode bM_matcher 138 = .ok (.aload_n 0, 1) := by decide +kernel
set_option maxRecDepth 100000 in
theorem dM_matcher_139 : decode bM_matcher 139 = .ok (.getfield 90, 3) := by decide +kernel
set_option maxRecDepth 100000 in
theorem dM_matcher_142 : decode bM_matcher 142 = .ok (.iconst 2, 1) := by decide +kernel
set_option maxRecDepth 100000 in
theorem dM_matcher_143 : decode bM_matcher 143 = .ok (.if_icmp .eq 16, 3) := by decide +kernel
set_option maxRecDepth 100000 in
theorem dM_matcher_146 : decode bM_matcher 146 = .ok (.aload_n 0, 1) := by decide +kernel
set_option maxRecDepth 100000 in
theorem dM_matcher_147 : decode bM_matcher 147 = .ok (.getfield 90, 3) := by decide +kernel
set_option maxRecDepth 100000 in
theorem dM_matcher_150 : decode bM_matcher 150 = .ok (.iconst 3, 1) := by decide +kernel
set_option maxRecDepth 100000 in
theorem dM_matcher_151 : decode bM_matcher 151 = .ok (.if_icmp .eq 8, 3) := by decide +kernel
set_option maxRecDepth 100000 in
theorem dM_matcher_154 : decode bM_matcher 154 = .ok (.aload_n 0, 1) := by decide +kernel
set_option maxRecDepth 100000 in
theorem dM_matcher_155 : decode bM_matcher 155 = .ok (.iconst 0, 1) := by decide +kernel
set_option maxRecDepth 100000 in
theorem dM_matcher_156 : decode bM_matcher 156 = .ok (.putfield 90, 3) := by decide +kernel
set_option maxRecDepth 100000 in
theorem dM_matcher_159 : decode bM_matcher 159 = .ok (.iload_n 3, 1) := by decide +kernel
set_option maxRecDepth 100000 in
theorem dM_matcher_160 : decode bM_matcher 160 = .ok (.ifCond .ne 28, 3) := by decide +kernel
set_option maxRecDepth 100000 in
theorem dM_matcher_163 : decode bM_matcher 163 = .ok (.aload_n 0, 1) := by decide +kernel
set_option maxRecDepth 100000 in
theorem dM_matcher_164 : decode bM_matcher 164 = .ok (.aload_n 0, 1) := by decide +kernel
set_option maxRecDepth 100000 in
theorem dM_matcher_165 : decode bM_matcher 165 = .ok (.getfield 96, 3) := by decide +kernel
set_option maxRecDepth 100000 in
theorem dM_matcher_168 : decode bM_matcher 168 = .ok (.iload_n 1, 1) := by decide +kernel
set_option maxRecDepth 100000 in
theorem dM_matcher_169 : decode bM_matcher 169 = .ok (.iload_n 2, 1) := by decide +kernel
set_option maxRecDepth 100000 in
theorem dM_matcher_170 : decode bM_matcher 170 = .ok (.invokevirtual 117, 3) := by decide +kernel
set_option maxRecDepth 100000 in
theorem dM_matcher_173 : decode bM_matcher 173 = .ok (.aload_n 0, 1) := by decide +kernel
set_option maxRecDepth 100000 in
theorem dM_matcher_174 : decode bM_matcher 174 = .ok (.dup, 1) := by decide +kernel
set_option maxRecDepth 100000 in
theorem dM_matcher_175 : decode bM_matcher 175 = .ok (.getfield 96, 3) := by decide +kernel
set_option maxRecDepth 100000 in
theorem dM_matcher_178 : decode bM_matcher 178 = .ok (.iconst 1, 1) := by decide +kernel
set_option maxRecDepth 100000 in
theorem dM_matcher_179 : decode bM_matcher 179 = .ok (.iadd, 1) := by decide +kernel
set_option maxRecDepth 100000 in
theorem dM_matcher_180 : decode bM_matcher 180 = .ok (.putfield 96, 3) := by decide +kernel
set_option maxRecDepth 100000 in
theorem dM_matcher_183 : decode bM_matcher 183 = .ok (.aload_n 0, 1) := by decide +kernel
set_option maxRecDepth 100000 in
theorem dM_matcher_184 : decode bM_matcher 184 = .ok (.getfield 96, 3) := by decide +kernel
set_option maxRecDepth 100000 in
theorem dM_matcher_187 : decode bM_matcher 187 = .ok (.ireturn, 1) := by decide +kernel
set_option maxRecDepth 100000 in
theorem dM_matcher_188 : decode bM_matcher 188 = .ok (.aload_n 0, 1) := by decide +kernel
set_option maxRecDepth 100000 in
theorem dM_matcher_189 : decode bM_matcher 189 = .ok (.getfield 26, 3) := by decide +kernel
set_option maxRecDepth 100000 in
theorem dM_matcher_192 : decode bM_matcher 192 = .ok (.bipush 48, 2) := by decide +kernel
set_option maxRecDepth 100000 in
theorem dM_matcher_194 : decode bM_matcher 194 = .ok (.iload_n 1, 1) := by decide +kernel
set_option maxRecDepth 100000 in
theorem dM_matcher_195 : decode bM_matcher 195 = .ok (.iastore, 1) := by decide +kernel
set_option maxRecDepth 100000 in
theorem dM_matcher_196 : decode bM_matcher 196 = .ok (.aload_n 0, 1) := by decide +kernel
set_option maxRecDepth 100000 in
theorem dM_matcher_197 : decode bM_matcher 197 = .ok (.getfield 29, 3) := by decide +kernel
set_option maxRecDepth 100000 in
theorem dM_matcher_200 : decode bM_matcher 200 = .ok (.bipush 48, 2) := by decide +kernel
set_option maxRecDepth 100000 in
theorem dM_matcher_202 : decode bM_matcher 202 = .ok (.iconst 0, 1) := by decide +kernel
set_option maxRecDepth 100000 in
theorem dM_matcher_203 : decode bM_matcher 203 = .ok (.iastore, 1) := by decide +kernel
set_option maxRecDepth 100000 in
theorem dM_matcher_204 : decode bM_matcher 204 = .ok (.iconst 1, 1) := by decide +kernel
set_option maxRecDepth 100000 in
theorem dM_matcher_205 : decode bM_matcher 205 = .ok (.istore 7, 2) := by decide +kernel
set_option maxRecDepth 100000 in
theorem dM_matcher_207 : decode bM_matcher 207 = .ok (.aload_n 0, 1) := by decide +kernel
set_option maxRecDepth 100000 in
theorem dM_matcher_208 : decode bM_matcher 208 = .ok (.getfield 96, 3) := by decide +kernel
set_option maxRecDepth 100000 in
theorem dM_matcher_211 : decode bM_matcher 211 = .ok (.iload_n 3, 1) := by decide +kernel
set_option maxRecDepth 100000 in
theorem dM_matcher_212 : decode bM_matcher 212 = .ok (.isub, 1) := by decide +kernel
set_option maxRecDepth 100000 in
theorem dM_matcher_213 : decode bM_matcher 213 = .ok (.istore 8, 2) := by decide +kernel
set_option maxRecDepth 100000 in
theorem dM_matcher_215 : decode bM_matcher 215 = .ok (.iload 8, 2) := by decide +kernel
set_option maxRecDepth 100000 in
theorem dM_matcher_217 : decode bM_matcher 217 = .ok (.aload_n 0, 1) := by decide +kernel
set_option maxRecDepth 100000 in
theorem dM_matcher_218 : decode bM_matcher 218 = .ok (.getfield 96, 3) := by decide +kernel
set_option maxRecDepth 100000 in
theorem dM_matcher_221 : decode bM_matcher 221 = .ok (.if_icmp .ge 31, 3) := by decide +kernel
set_option maxRecDepth 100000 in
theorem dM_matcher_224 : decode bM_matcher 224 = .ok (.aload_n 0, 1) := by decide +kernel
set_option maxRecDepth 100000 in
theorem dM_matcher_225 : decode bM_matcher 225 = .ok (.iload 8, 2) := by decide +kernel
set_option maxRecDepth 100000 in
theorem dM_matcher_227 : decode bM_matcher 227 = .ok (.bipush 6, 2) := by decide +kernel
set_option maxRecDepth 100000 in
theorem dM_matcher_229 : decode bM_matcher 229 = .ok (.iload 7, 2) := by decide +kernel
set_option maxRecDepth 100000 in
theorem dM_matcher_231 : decode bM_matcher 231 = .ok (.invokevirtual 121, 3) := by decide +kernel
set_option maxRecDepth 100000 in
theorem dM_matcher_234 : decode bM_matcher 234 = .ok (.iload 7, 2) := by decide +kernel
set_option maxRecDepth 100000 in
theorem dM_matcher_236 : decode bM_matcher 236 = .ok (.aload_n 0, 1) := by decide +kernel
set_option maxRecDepth 100000 in
theorem dM_matcher_237 : decode bM_matcher 237 = .ok (.getfield 23, 3) := by decide +kernel
set_option maxRecDepth 100000 in
theorem dM_matcher_240 : decode bM_matcher 240 = .ok (.iload 8, 2) := by decide +kernel
set_option maxRecDepth 100000 in
theorem dM_matcher_242 : decode bM_matcher 242 = .ok (.iaload, 1) := by decide +kernel
set_option maxRecDepth 100000 in
theorem dM_matcher_243 : decode bM_matcher 243 = .ok (.iadd, 1) := by decide +kernel
set_option maxRecDepth 100000 in
theorem dM_matcher_244 : decode bM_matcher 244 = .ok (.istore 7, 2) := by decide +kernel
set_option maxRecDepth 100000 in
theorem dM_matcher_246 : decode bM_matcher 246 = .ok (.iinc 8 1, 3) := by decide +kernel
set_option maxRecDepth 100000 in
theorem dM_matcher_249 : decode bM_matcher 249 = .ok (.goto (-34), 3) := by decide +kernel
set_option maxRecDepth 100000 in
theorem dM_matcher_252 : decode bM_matcher 252 = .ok (.aload_n 0, 1) := by decide +kernel
set_option maxRecDepth 100000 in
theorem dM_matcher_253 : decode bM_matcher 253 = .ok (.getfield 23, 3) := by decide +kernel
set_option maxRecDepth 100000 in
theorem dM_matcher_256 : decode bM_matcher 256 = .ok (.bipush 6, 2) := by decide +kernel
set_option maxRecDepth 100000 in
theorem dM_matcher_258 : decode bM_matcher 258 = .ok (.iload 7, 2) := by decide +kernel
set_option maxRecDepth 100000 in
theorem dM_matcher_260 : decode bM_matcher 260 = .ok (.iastore, 1) := by decide +kernel
set_option maxRecDepth 100000 in
theorem dM_matcher_261 : decode bM_matcher 261 = .ok (.aload_n 0, 1) := by decide +kernel
set_option maxRecDepth 100000 in
theorem dM_matcher_262 : decode bM_matcher 262 = .ok (.dup, 1) := by decide +kernel
set_option maxRecDepth 100000 in
theorem dM_matcher_263 : decode bM_matcher 263 = .ok (.getfield 96, 3) := by decide +kernel
set_option maxRecDepth 100000 in
theorem dM_matcher_266 : decode bM_matcher 266 = .ok (.iload_n 3, 1) := by decide +kernel
set_option maxRecDepth 100000 in
theorem dM_matcher_267 : decode bM_matcher 267 = .ok (.iconst 1, 1) := by decide +kernel
set_option maxRecDepth 100000 in
theorem dM_matcher_268 : decode bM_matcher 268 = .ok (.isub, 1) := by decide +kernel
set_option maxRecDepth 100000 in
theorem dM_matcher_269 : decode bM_matcher 269 = .ok (.isub, 1) := by decide +kernel
set_option maxRecDepth 100000 in
theorem dM_matcher_270 : decode bM_matcher 270 = .ok (.putfield 96, 3) := by decide +kernel
set_option maxRecDepth 100000 in
theorem dM_matcher_273 : decode bM_matcher 273 = .ok (.aload_n 0, 1) := by decide +kernel
set_option maxRecDepth 100000 in
theorem dM_matcher_274 : decode bM_matcher 274 = .ok (.getfield 23, 3) := by decide +kernel
set_option maxRecDepth 100000 in
theorem dM_matcher_277 : decode bM_matcher 277 = .ok (.aload_n 0, 1) := by decide +kernel
set_option maxRecDepth 100000 in
theorem dM_matcher_278 : decode bM_matcher 278 = .ok (.getfield 96, 3) := by decide +kernel
set_option maxRecDepth 100000 in
theorem dM_matcher_281 : decode bM_matcher 281 = .ok (.iconst 1, 1) := by decide +kernel
set_option maxRecDepth 100000 in
theorem dM_matcher_282 : decode bM_matcher 282 = .ok (.isub, 1) := by decide +kernel
set_option maxRecDepth 100000 in
theorem dM_matcher_283 : decode bM_matcher 283 = .ok (.iload 7, 2) := by decide +kernel
set_option maxRecDepth 100000 in
theorem dM_matcher_285 : decode bM_matcher 285 = .ok (.iastore, 1) := by decide +kernel
set_option maxRecDepth 100000 in
theorem dM_matcher_286 : decode bM_matcher 286 = .ok (.aload_n 0, 1) := by decide +kernel
set_option maxRecDepth 100000 in
theorem dM_matcher_287 : decode bM_matcher 287 = .ok (.bipush 6, 2) := by decide +kernel
set_option maxRecDepth 100000 in
theorem dM_matcher_289 : decode bM_matcher 289 = .ok (.aload_n 0, 1) := by decide +kernel
set_option maxRecDepth 100000 in
theorem dM_matcher_290 : decode bM_matcher 290 = .ok (.getfield 96, 3) := by decide +kernel
set_option maxRecDepth 100000 in
theorem dM_matcher_293 : decode bM_matcher 293 = .ok (.iconst 1, 1) := by decide +kernel
set_option maxRecDepth 100000 in
theorem dM_matcher_294 : decode bM_matcher 294 = .ok (.isub, 1) := by decide +kernel
set_option maxRecDepth 100000 in
theorem dM_matcher_295 : decode bM_matcher 295 = .ok (.iconst 0, 1) := by decide +kernel
set_option maxRecDepth 100000 in
theorem dM_matcher_296 : decode bM_matcher 296 = .ok (.invokevirtual 121, 3) := by decide +kernel
set_option maxRecDepth 100000 in
theorem dM_matcher_299 : decode bM_matcher 299 = .ok (.aload_n 0, 1) := by decide +kernel
set_option maxRecDepth 100000 in
theorem dM_matcher_300 : decode bM_matcher 300 = .ok (.getfield 96, 3) := by decide +kernel
set_option maxRecDepth 100000 in
theorem dM_matcher_303 : decode bM_matcher 303 = .ok (.ireturn, 1) := by decide +kernel
def fM_matcher_215b (N : Nat) (rec215 : yS → Int32 → Int32 → Int32 → Option (Int32 × yS)) (τ : yS) (a3 : Int32) (a7 : Int32) (a8 : Int32) : Option (Int32 × yS) :=
  if (τ 30 0 8) ≤ a8 then
  (xl (y_si τ 35 0 ((6 : Int32).toNatClampNeg) a7) fun s32 =>
  xl (y_si s32 30 0 8 ((s32 30 0 8) - (a3 - 1))) fun s33 =>
  if ¬ (((s33 30 0 8) - 1) < 0 ∨ 120 ≤ ((s33 30 0 8) - 1).toNatClampNeg) then
  xl (y_si s33 35 0 (((s33 30 0 8) - 1).toNatClampNeg) a7) fun s35 =>
  xp (fM_copy N s35 6 ((s35 30 0 8) - 1) 0) fun s37 =>
  some (s37 30 0 8, s37)
  else none)
  else
  (xp (fM_copy N τ a8 6 a7) fun s39 =>
  if ¬ (a8 < 0 ∨ 120 ≤ a8.toNatClampNeg) then
  rec215 s39 a3 (a7 + (s39 35 0 a8.toNatClampNeg)) (a8 + 1)
  else none)
def fM_matcher_215 (N : Nat) : Nat → yS → Int32 → Int32 → Int32 → Option (Int32 × yS)
  | 0, _, _, _, _ => none
  | n + 1, τ, a3, a7, a8 => fM_matcher_215b N (fM_matcher_215 N n) τ a3 a7 a8
def fM_matcher_159 (N : Nat) (τ : yS) (a1 : Int32) (a2 : Int32) (a3 : Int32) : Option (Int32 × yS) :=
  if a3 = 0 then
  (xp (fM_single τ (τ 30 0 8) a1 a2) fun s45 =>
  xl (y_si s45 30 0 8 ((s45 30 0 8) + 1)) fun s46 =>
  some (s46 30 0 8, s46))
  else
  (xl (y_si τ 36 0 ((48 : Int32).toNatClampNeg) a1) fun s42 =>
  xl (y_si s42 37 0 ((48 : Int32).toNatClampNeg) 0) fun s43 =>
  fM_matcher_215 N N s43 a3 1 ((s43 30 0 8) - a3))
def fM_matcher_109 (N : Nat) (τ : yS) (a1 : Int32) (a2 : Int32) (a3 : Int32) (a4 : Int32) (a5 : Int32) : Option (Int32 × yS) :=
  if a4 ≤ 8 then
  (xb (fM_misuse τ 1 (-1) 0 a5) fun r49 s50 =>
  if 0 ≤ r49 then
  (if (s50 30 0 9) = 2 then
  (fM_matcher_159 N s50 a1 a2 a3)
  else
  (if (s50 30 0 9) = 3 then
  (fM_matcher_159 N s50 a1 a2 a3)
  else
  (xl (y_si s50 30 0 9 0) fun s54 =>
  fM_matcher_159 N s54 a1 a2 a3)))
  else
  (some (r49, s50)))
  else
  (some ((-2), τ))
def fM_matcher_96 (N : Nat) (τ : yS) (a1 : Int32) (a2 : Int32) (a3 : Int32) (a4 : Int32) (a5 : Int32) : Option (Int32 × yS) :=
  if a3 = 0 then
  (if (τ 30 0 8) = 6 then
  (some ((-2), τ))
  else
  (fM_matcher_109 N τ a1 a2 a3 a4 a5))
  else
  (fM_matcher_109 N τ a1 a2 a3 a4 a5)
def fM_matcher_64b (N : Nat) (rec64 : yS → Int32 → Int32 → Int32 → Int32 → Int32 → Int32 → Option (Int32 × yS)) (τ : yS) (a1 : Int32) (a2 : Int32) (a3 : Int32) (a4 : Int32) (a5 : Int32) (a6 : Int32) : Option (Int32 × yS) :=
  if (τ 30 0 8) ≤ a6 then
  (fM_matcher_96 N τ a1 a2 a3 a4 a5)
  else
  (if a5 = 0 then
  (if ¬ (a6 < 0 ∨ 120 ≤ a6.toNatClampNeg) then
  rec64 τ a1 a2 a3 (a4 + (τ 35 0 a6.toNatClampNeg)) a5 (a6 + 1)
  else none)
  else
  (fM_matcher_96 N τ a1 a2 a3 a4 a5))
def fM_matcher_64 (N : Nat) : Nat → yS → Int32 → Int32 → Int32 → Int32 → Int32 → Int32 → Option (Int32 × yS)
  | 0, _, _, _, _, _, _, _ => none
  | n + 1, τ, a1, a2, a3, a4, a5, a6 => fM_matcher_64b N (fM_matcher_64 N n) τ a1 a2 a3 a4 a5 a6
def fM_matcher_54 (N : Nat) (τ : yS) (a1 : Int32) (a2 : Int32) (a3 : Int32) (a4 : Int32) (t0 : Int32) : Option (Int32 × yS) :=
  fM_matcher_64 N N τ a1 a2 a3 a4 t0 ((τ 30 0 8) - a3)
def fM_matcher_37 (N : Nat) (τ : yS) (a1 : Int32) (a2 : Int32) (t0 : Int32) : Option (Int32 × yS) :=
  if t0 ≤ (τ 30 0 8) then
  (fM_matcher_54 N τ a1 a2 t0 1 0)
  else
  (fM_matcher_54 N τ a1 a2 t0 1 1)
def fM_matcher_22 (N : Nat) (τ : yS) (a1 : Int32) (a2 : Int32) : Option (Int32 × yS) :=
  fM_matcher_37 N τ a1 a2 2
def fM_matcher (N : Nat) (τ : yS) (a1 : Int32) (a2 : Int32) : Option (Int32 × yS) :=
  if (fM_in a1 0 7) = 0 then
  (some ((-1), τ))
  else
  (if a1 = 4 then
  (fM_matcher_22 N τ a1 a2)
  else
  (if a1 = 5 then
  (fM_matcher_22 N τ a1 a2)
  else
  (if a1 = 6 then
  (fM_matcher_37 N τ a1 a2 1)
  else
  (fM_matcher_37 N τ a1 a2 0))))
set_option maxHeartbeats 4000000 in
set_option maxRecDepth 100000 in
theorem wM_matcher_215b {p : Program} {l : Launch} {e : Env} {R : Room} {s : State} {m : MethodId} {args : Array Value} {below : List Frame} {meth : Method} {c : Code} {E : xE} {A : Nat → Prop} {σ : xS} (C : xC p s m args meth c R E A bM_matcher 9 yM_matcher (some .int) 1 0 0) (N : Nat) (τ : yS) (rec215 : yS → Int32 → Int32 → Int32 → Option (Int32 × yS)) (hrec215 : ∀ (τ : yS) (a3 : Int32) (a7 : Int32) (a8 : Int32) (res : Int32 × yS), rec215 τ a3 a7 a8 = some res → ∀ (H : Heap) (locs : List Loc) (ls : Array Slot), xW E A s σ τ H locs → lv_has ls 9 [(0, .ref (E.2.2.1 30 0)), (3, .int a3), (7, .int a7), (8, .int a8)] → W p l e R s m args below meth c H locs 0 0 (MQ below (xQ E A (some (.int res.1)) σ res.2) args s 0 0 A) (F0 m 215 ls [])) (a3 : Int32) (a7 : Int32) (a8 : Int32) (res : Int32 × yS) (hf : fM_matcher_215b N rec215 τ a3 a7 a8 = some res) (H : Heap) (locs : List Loc) (ls : Array Slot) (hw : xW E A s σ τ H locs) (hl : lv_has ls 9 [(0, .ref (E.2.2.1 30 0)), (3, .int a3), (7, .int a7), (8, .int a8)]) : W p l e R s m args below meth c H locs 0 0 (MQ below (xQ E A (some (.int res.1)) σ res.2) args s 0 0 A) (F0 m 215 ls []) := by
  have hx := C.1
  have hb := C.2.1
  unfold fM_matcher_215b at hf
  refine lv_iload hx hb dM_matcher_215 (lv_at hl 3 rfl) ?_
  refine lv_aload_n hx hb dM_matcher_217 rfl (lv_at hl 0 rfl) ?_
  refine y_get C hw 30 0 8 (v := .int (τ 30 0 8)) at_30 rfl rfl ⟨by decide, by decide⟩ wM_96 rfl dM_matcher_218 ?_
  refine lv_icmp_ge (tgt := 252) hx hb dM_matcher_221 (by decide) (fun c31 => ?_) (fun c31 => ?_)
  · replace hf := x_ip c31 hf
    refine lv_aload_n hx hb dM_matcher_252 rfl (lv_at hl 0 rfl) ?_
    refine y_get C hw 30 0 5 (v := .ref (E.2.2.1 35 0)) at_30 rfl rfl ⟨by decide, by decide⟩ wM_23 rfl dM_matcher_253 ?_
    refine lv_bipush (v := 6) hx hb dM_matcher_256 (by decide) ?_
    refine lv_iload hx hb dM_matcher_258 (lv_at hl 2 rfl) ?_
    refine y_ist C hw 35 0 at_35 rfl rfl (by decide) dM_matcher_260 (fun H locs hw => ?_)
    obtain ⟨s32, es32, hf⟩ := x_l hf
    rw [← es32] at hw
    refine lv_aload_n hx hb dM_matcher_261 rfl (lv_at hl 0 rfl) ?_
    refine lv_dup hx hb dM_matcher_262 rfl ?_
    refine y_get C hw 30 0 8 (v := .int (s32 30 0 8)) at_30 rfl rfl ⟨by decide, by decide⟩ wM_96 rfl dM_matcher_263 ?_
    refine lv_iload_n hx hb dM_matcher_266 rfl (lv_at hl 1 rfl) ?_
    refine lv_iconst (v := 1) hx hb dM_matcher_267 (by decide) ?_
    refine lv_isub hx hb dM_matcher_268 ?_
    refine lv_isub hx hb dM_matcher_269 ?_
    refine y_puti C hw 30 0 8 at_30 rfl rfl rfl ⟨rfl, rfl⟩ ⟨by decide, by decide⟩ (Nat.le_of_ble_eq_true rfl) wM_96 dM_matcher_270 (fun H locs hw => ?_)
    obtain ⟨s33, es33, hf⟩ := x_l hf
    rw [← es33] at hw
    refine lv_aload_n hx hb dM_matcher_273 rfl (lv_at hl 0 rfl) ?_
    refine y_get C hw 30 0 5 (v := .ref (E.2.2.1 35 0)) at_30 rfl rfl ⟨by decide, by decide⟩ wM_23 rfl dM_matcher_274 ?_
    refine lv_aload_n hx hb dM_matcher_277 rfl (lv_at hl 0 rfl) ?_
    refine y_get C hw 30 0 8 (v := .int (s33 30 0 8)) at_30 rfl rfl ⟨by decide, by decide⟩ wM_96 rfl dM_matcher_278 ?_
    refine lv_iconst (v := 1) hx hb dM_matcher_281 (by decide) ?_
    refine lv_isub hx hb dM_matcher_282 ?_
    refine lv_iload hx hb dM_matcher_283 (lv_at hl 2 rfl) ?_
    obtain ⟨g34, hf⟩ := x_g hf
    refine y_ist C hw 35 0 at_35 rfl rfl g34 dM_matcher_285 (fun H locs hw => ?_)
    obtain ⟨s35, es35, hf⟩ := x_l hf
    rw [← es35] at hw
    refine lv_aload_n hx hb dM_matcher_286 rfl (lv_at hl 0 rfl) ?_
    refine lv_bipush (v := 6) hx hb dM_matcher_287 (by decide) ?_
    refine lv_aload_n hx hb dM_matcher_289 rfl (lv_at hl 0 rfl) ?_
    refine y_get C hw 30 0 8 (v := .int (s35 30 0 8)) at_30 rfl rfl ⟨by decide, by decide⟩ wM_96 rfl dM_matcher_290 ?_
    refine lv_iconst (v := 1) hx hb dM_matcher_293 (by decide) ?_
    refine lv_isub hx hb dM_matcher_294 ?_
    refine lv_iconst (v := 0) hx hb dM_matcher_295 (by decide) ?_
    obtain ⟨s37, h36, hf⟩ := x_p hf
    refine x_callV (As := [.int 6, .int ((s35 30 0 8) - 1), .int 0]) (rest := []) (st1 := []) C hw (cM_copy l E N s35 σ 6 ((s35 30 0 8) - 1) 0 s37 h36) kM_121 (x_recvY C hw 30 0 at_30 rfl rfl) (by decide) rfl rfl hl.1 (lv_room (Nat.le_of_ble_eq_true rfl)) dM_matcher_296 ⟨by decide, by decide⟩ rfl (fun H locs hw => ?_)
    refine lv_aload_n hx hb dM_matcher_299 rfl (lv_at hl 0 rfl) ?_
    refine y_get C hw 30 0 8 (v := .int (s37 30 0 8)) at_30 rfl rfl ⟨by decide, by decide⟩ wM_96 rfl dM_matcher_300 ?_
    obtain rfl := Option.some.inj hf
    exact x_iret C hw dM_matcher_303
  · replace hf := x_in c31 hf
    refine lv_aload_n hx hb dM_matcher_224 rfl (lv_at hl 0 rfl) ?_
    refine lv_iload hx hb dM_matcher_225 (lv_at hl 3 rfl) ?_
    refine lv_bipush (v := 6) hx hb dM_matcher_227 (by decide) ?_
    refine lv_iload hx hb dM_matcher_229 (lv_at hl 2 rfl) ?_
    obtain ⟨s39, h38, hf⟩ := x_p hf
    refine x_callV (As := [.int a8, .int 6, .int a7]) (rest := []) (st1 := []) C hw (cM_copy l E N τ σ a8 6 a7 s39 h38) kM_121 (x_recvY C hw 30 0 at_30 rfl rfl) (by decide) rfl rfl hl.1 (lv_room (Nat.le_of_ble_eq_true rfl)) dM_matcher_231 ⟨by decide, by decide⟩ rfl (fun H locs hw => ?_)
    refine lv_iload hx hb dM_matcher_234 (lv_at hl 2 rfl) ?_
    refine lv_aload_n hx hb dM_matcher_236 rfl (lv_at hl 0 rfl) ?_
    refine y_get C hw 30 0 5 (v := .ref (E.2.2.1 35 0)) at_30 rfl rfl ⟨by decide, by decide⟩ wM_23 rfl dM_matcher_237 ?_
    refine lv_iload hx hb dM_matcher_240 (lv_at hl 3 rfl) ?_
    obtain ⟨g40, hf⟩ := x_g hf
    refine y_ild C hw 35 0 at_35 rfl g40 dM_matcher_242 ?_
    refine lv_iadd hx hb dM_matcher_243 ?_
    refine lv_istore (lv' := [(7, .int (a7 + (s39 35 0 a8.toNatClampNeg))), (0, .ref (E.2.2.1 30 0)), (3, .int a3), (8, .int a8)]) hx hb dM_matcher_244 hl (by decide) rfl (fun ls hl => ?_)
    refine lv_iinc (v := a8 + 1) (lv' := [(8, .int (a8 + 1)), (7, .int (a7 + (s39 35 0 a8.toNatClampNeg))), (0, .ref (E.2.2.1 30 0)), (3, .int a3)]) hx hb dM_matcher_246 hl (k := 3) rfl rfl (by decide) rfl (fun ls hl => ?_)
    refine lv_goto (tgt := 215) hx hb dM_matcher_249 (by decide) ?_
    exact hrec215 s39 a3 (a7 + (s39 35 0 a8.toNatClampNeg)) (a8 + 1) res hf H locs ls hw (lv_sub hl [2, 3, 1, 0] rfl)
set_option maxHeartbeats 4000000 in
set_option maxRecDepth 100000 in
theorem wM_matcher_215 {p : Program} {l : Launch} {e : Env} {R : Room} {s : State} {m : MethodId} {args : Array Value} {below : List Frame} {meth : Method} {c : Code} {E : xE} {A : Nat → Prop} {σ : xS} (C : xC p s m args meth c R E A bM_matcher 9 yM_matcher (some .int) 1 0 0) (N : Nat) (n : Nat) : ∀ (τ : yS) (a3 : Int32) (a7 : Int32) (a8 : Int32) (res : Int32 × yS), fM_matcher_215 N n τ a3 a7 a8 = some res → ∀ (H : Heap) (locs : List Loc) (ls : Array Slot), xW E A s σ τ H locs → lv_has ls 9 [(0, .ref (E.2.2.1 30 0)), (3, .int a3), (7, .int a7), (8, .int a8)] → W p l e R s m args below meth c H locs 0 0 (MQ below (xQ E A (some (.int res.1)) σ res.2) args s 0 0 A) (F0 m 215 ls []) := by
  induction n with
  | zero => intro τ a3 a7 a8 res hf; cases hf
  | succ n ih =>
    intro τ a3 a7 a8 res hf H locs ls hw hl
    exact wM_matcher_215b C N τ (fM_matcher_215 N n) ih a3 a7 a8 res hf H locs ls hw hl
set_option maxHeartbeats 4000000 in
set_option maxRecDepth 100000 in
theorem wM_matcher_159 {p : Program} {l : Launch} {e : Env} {R : Room} {s : State} {m : MethodId} {args : Array Value} {below : List Frame} {meth : Method} {c : Code} {E : xE} {A : Nat → Prop} {σ : xS} (C : xC p s m args meth c R E A bM_matcher 9 yM_matcher (some .int) 1 0 0) (N : Nat) (τ : yS) (a1 : Int32) (a2 : Int32) (a3 : Int32) (res : Int32 × yS) (hf : fM_matcher_159 N τ a1 a2 a3 = some res) (H : Heap) (locs : List Loc) (ls : Array Slot) (hw : xW E A s σ τ H locs) (hl : lv_has ls 9 [(0, .ref (E.2.2.1 30 0)), (1, .int a1), (2, .int a2), (3, .int a3)]) : W p l e R s m args below meth c H locs 0 0 (MQ below (xQ E A (some (.int res.1)) σ res.2) args s 0 0 A) (F0 m 159 ls []) := by
  have hx := C.1
  have hb := C.2.1
  unfold fM_matcher_159 at hf
  refine lv_iload_n hx hb dM_matcher_159 rfl (lv_at hl 3 rfl) ?_
  refine lv_if_ne (tgt := 188) hx hb dM_matcher_160 (by decide) (fun c41 => ?_) (fun c41 => ?_)
  · replace hf := x_in c41 hf
    refine lv_aload_n hx hb dM_matcher_188 rfl (lv_at hl 0 rfl) ?_
    refine y_get C hw 30 0 6 (v := .ref (E.2.2.1 36 0)) at_30 rfl rfl ⟨by decide, by decide⟩ wM_26 rfl dM_matcher_189 ?_
    refine lv_bipush (v := 48) hx hb dM_matcher_192 (by decide) ?_
    refine lv_iload_n hx hb dM_matcher_194 rfl (lv_at hl 1 rfl) ?_
    refine y_ist C hw 36 0 at_36 rfl rfl (by decide) dM_matcher_195 (fun H locs hw => ?_)
    obtain ⟨s42, es42, hf⟩ := x_l hf
    rw [← es42] at hw
    refine lv_aload_n hx hb dM_matcher_196 rfl (lv_at hl 0 rfl) ?_
    refine y_get C hw 30 0 7 (v := .ref (E.2.2.1 37 0)) at_30 rfl rfl ⟨by decide, by decide⟩ wM_29 rfl dM_matcher_197 ?_
    refine lv_bipush (v := 48) hx hb dM_matcher_200 (by decide) ?_
    refine lv_iconst (v := 0) hx hb dM_matcher_202 (by decide) ?_
    refine y_ist C hw 37 0 at_37 rfl rfl (by decide) dM_matcher_203 (fun H locs hw => ?_)
    obtain ⟨s43, es43, hf⟩ := x_l hf
    rw [← es43] at hw
    refine lv_iconst (v := 1) hx hb dM_matcher_204 (by decide) ?_
    refine lv_istore (lv' := [(7, .int 1), (0, .ref (E.2.2.1 30 0)), (1, .int a1), (2, .int a2), (3, .int a3)]) hx hb dM_matcher_205 hl (by decide) rfl (fun ls hl => ?_)
    refine lv_aload_n hx hb dM_matcher_207 rfl (lv_at hl 1 rfl) ?_
    refine y_get C hw 30 0 8 (v := .int (s43 30 0 8)) at_30 rfl rfl ⟨by decide, by decide⟩ wM_96 rfl dM_matcher_208 ?_
    refine lv_iload_n hx hb dM_matcher_211 rfl (lv_at hl 4 rfl) ?_
    refine lv_isub hx hb dM_matcher_212 ?_
    refine lv_istore (lv' := [(8, .int ((s43 30 0 8) - a3)), (7, .int 1), (0, .ref (E.2.2.1 30 0)), (1, .int a1), (2, .int a2), (3, .int a3)]) hx hb dM_matcher_213 hl (by decide) rfl (fun ls hl => ?_)
    exact wM_matcher_215 C N N s43 a3 1 ((s43 30 0 8) - a3) res hf H locs ls hw (lv_sub hl [2, 5, 1, 0] rfl)
  · replace hf := x_ip c41 hf
    refine lv_aload_n hx hb dM_matcher_163 rfl (lv_at hl 0 rfl) ?_
    refine lv_aload_n hx hb dM_matcher_164 rfl (lv_at hl 0 rfl) ?_
    refine y_get C hw 30 0 8 (v := .int (τ 30 0 8)) at_30 rfl rfl ⟨by decide, by decide⟩ wM_96 rfl dM_matcher_165 ?_
    refine lv_iload_n hx hb dM_matcher_168 rfl (lv_at hl 1 rfl) ?_
    refine lv_iload_n hx hb dM_matcher_169 rfl (lv_at hl 2 rfl) ?_
    obtain ⟨s45, h44, hf⟩ := x_p hf
    refine x_callV (As := [.int (τ 30 0 8), .int a1, .int a2]) (rest := []) (st1 := []) C hw (cM_single l E τ σ (τ 30 0 8) a1 a2 s45 h44) kM_117 (x_recvY C hw 30 0 at_30 rfl rfl) (by decide) rfl rfl hl.1 (lv_room (Nat.le_of_ble_eq_true rfl)) dM_matcher_170 ⟨by decide, by decide⟩ rfl (fun H locs hw => ?_)
    refine lv_aload_n hx hb dM_matcher_173 rfl (lv_at hl 0 rfl) ?_
    refine lv_dup hx hb dM_matcher_174 rfl ?_
    refine y_get C hw 30 0 8 (v := .int (s45 30 0 8)) at_30 rfl rfl ⟨by decide, by decide⟩ wM_96 rfl dM_matcher_175 ?_
    refine lv_iconst (v := 1) hx hb dM_matcher_178 (by decide) ?_
    refine lv_iadd hx hb dM_matcher_179 ?_
    refine y_puti C hw 30 0 8 at_30 rfl rfl rfl ⟨rfl, rfl⟩ ⟨by decide, by decide⟩ (Nat.le_of_ble_eq_true rfl) wM_96 dM_matcher_180 (fun H locs hw => ?_)
    obtain ⟨s46, es46, hf⟩ := x_l hf
    rw [← es46] at hw
    refine lv_aload_n hx hb dM_matcher_183 rfl (lv_at hl 0 rfl) ?_
    refine y_get C hw 30 0 8 (v := .int (s46 30 0 8)) at_30 rfl rfl ⟨by decide, by decide⟩ wM_96 rfl dM_matcher_184 ?_
    obtain rfl := Option.some.inj hf
    exact x_iret C hw dM_matcher_187
set_option maxHeartbeats 4000000 in
set_option maxRecDepth 100000 in
theorem wM_matcher_109 {p : Program} {l : Launch} {e : Env} {R : Room} {s : State} {m : MethodId} {args : Array Value} {below : List Frame} {meth : Method} {c : Code} {E : xE} {A : Nat → Prop} {σ : xS} (C : xC p s m args meth c R E A bM_matcher 9 yM_matcher (some .int) 1 0 0) (N : Nat) (τ : yS) (a1 : Int32) (a2 : Int32) (a3 : Int32) (a4 : Int32) (a5 : Int32) (res : Int32 × yS) (hf : fM_matcher_109 N τ a1 a2 a3 a4 a5 = some res) (H : Heap) (locs : List Loc) (ls : Array Slot) (hw : xW E A s σ τ H locs) (hl : lv_has ls 9 [(0, .ref (E.2.2.1 30 0)), (1, .int a1), (2, .int a2), (3, .int a3), (4, .int a4), (5, .int a5)]) : W p l e R s m args below meth c H locs 0 0 (MQ below (xQ E A (some (.int res.1)) σ res.2) args s 0 0 A) (F0 m 109 ls []) := by
  have hx := C.1
  have hb := C.2.1
  unfold fM_matcher_109 at hf
  refine lv_iload hx hb dM_matcher_109 (lv_at hl 4 rfl) ?_
  refine lv_bipush (v := 8) hx hb dM_matcher_111 (by decide) ?_
  refine lv_icmp_le (tgt := 119) hx hb dM_matcher_113 (by decide) (fun c47 => ?_) (fun c47 => ?_)
  · replace hf := x_ip c47 hf
    refine lv_aload_n hx hb dM_matcher_119 rfl (lv_at hl 0 rfl) ?_
    refine lv_iconst (v := 1) hx hb dM_matcher_120 (by decide) ?_
    refine lv_iconst (v := (-1)) hx hb dM_matcher_121 (by decide) ?_
    refine lv_iconst (v := 0) hx hb dM_matcher_122 (by decide) ?_
    refine lv_iload hx hb dM_matcher_123 (lv_at hl 5 rfl) ?_
    obtain ⟨r49, s50, h48, hf⟩ := x_b hf
    refine x_callV (As := [.int 1, .int (-1), .int 0, .int a5]) (rest := []) (st1 := [.int r49]) C hw (cM_misuse l E τ σ 1 (-1) 0 a5 (r49, s50) h48) kM_102 (x_recvY C hw 30 0 at_30 rfl rfl) (by decide) rfl rfl hl.1 (lv_room (Nat.le_of_ble_eq_true rfl)) dM_matcher_125 ⟨by decide, by decide⟩ rfl (fun H locs hw => ?_)
    refine lv_istore (lv' := [(6, .int r49), (0, .ref (E.2.2.1 30 0)), (1, .int a1), (2, .int a2), (3, .int a3), (4, .int a4), (5, .int a5)]) hx hb dM_matcher_128 hl (by decide) rfl (fun ls hl => ?_)
    refine lv_iload hx hb dM_matcher_130 (lv_at hl 0 rfl) ?_
    refine lv_if_ge (tgt := 138) hx hb dM_matcher_132 (by decide) (fun c51 => ?_) (fun c51 => ?_)
    · replace hf := x_ip c51 hf
      refine lv_aload_n hx hb dM_matcher_138 rfl (lv_at hl 1 rfl) ?_
      refine y_get C hw 30 0 9 (v := .int (s50 30 0 9)) at_30 rfl rfl ⟨by decide, by decide⟩ wM_90 rfl dM_matcher_139 ?_
      refine lv_iconst (v := 2) hx hb dM_matcher_142 (by decide) ?_
      refine lv_icmp_eq (tgt := 159) hx hb dM_matcher_143 (by decide) (fun c52 => ?_) (fun c52 => ?_)
      · replace hf := x_ip c52 hf
        exact wM_matcher_159 C N s50 a1 a2 a3 res hf H locs ls hw (lv_sub hl [1, 2, 3, 4] rfl)
      · replace hf := x_in c52 hf
        refine lv_aload_n hx hb dM_matcher_146 rfl (lv_at hl 1 rfl) ?_
        refine y_get C hw 30 0 9 (v := .int (s50 30 0 9)) at_30 rfl rfl ⟨by decide, by decide⟩ wM_90 rfl dM_matcher_147 ?_
        refine lv_iconst (v := 3) hx hb dM_matcher_150 (by decide) ?_
        refine lv_icmp_eq (tgt := 159) hx hb dM_matcher_151 (by decide) (fun c53 => ?_) (fun c53 => ?_)
        · replace hf := x_ip c53 hf
          exact wM_matcher_159 C N s50 a1 a2 a3 res hf H locs ls hw (lv_sub hl [1, 2, 3, 4] rfl)
        · replace hf := x_in c53 hf
          refine lv_aload_n hx hb dM_matcher_154 rfl (lv_at hl 1 rfl) ?_
          refine lv_iconst (v := 0) hx hb dM_matcher_155 (by decide) ?_
          refine y_puti C hw 30 0 9 at_30 rfl rfl rfl ⟨rfl, rfl⟩ ⟨by decide, by decide⟩ (Nat.le_of_ble_eq_true rfl) wM_90 dM_matcher_156 (fun H locs hw => ?_)
          obtain ⟨s54, es54, hf⟩ := x_l hf
          rw [← es54] at hw
          exact wM_matcher_159 C N s54 a1 a2 a3 res hf H locs ls hw (lv_sub hl [1, 2, 3, 4] rfl)
    · replace hf := x_in c51 hf
      refine lv_iload hx hb dM_matcher_135 (lv_at hl 0 rfl) ?_
      obtain rfl := Option.some.inj hf
      exact x_iret C hw dM_matcher_137
  · replace hf := x_in c47 hf
    refine lv_bipush (v := (-2)) hx hb dM_matcher_116 (by decide) ?_
    obtain rfl := Option.some.inj hf
    exact x_iret C hw dM_matcher_118
set_option maxHeartbeats 4000000 in
set_option maxRecDepth 100000 in
theorem wM_matcher_96 {p : Program} {l : Launch} {e : Env} {R : Room} {s : State} {m : MethodId} {args : Array Value} {below : List Frame} {meth : Method} {c : Code} {E : xE} {A : Nat → Prop} {σ : xS} (C : xC p s m args meth c R E A bM_matcher 9 yM_matcher (some .int) 1 0 0) (N : Nat) (τ : yS) (a1 : Int32) (a2 : Int32) (a3 : Int32) (a4 : Int32) (a5 : Int32) (res : Int32 × yS) (hf : fM_matcher_96 N τ a1 a2 a3 a4 a5 = some res) (H : Heap) (locs : List Loc) (ls : Array Slot) (hw : xW E A s σ τ H locs) (hl : lv_has ls 9 [(0, .ref (E.2.2.1 30 0)), (1, .int a1), (2, .int a2), (3, .int a3), (4, .int a4), (5, .int a5)]) : W p l e R s m args below meth c H locs 0 0 (MQ below (xQ E A (some (.int res.1)) σ res.2) args s 0 0 A) (F0 m 96 ls []) := by
  have hx := C.1
  have hb := C.2.1
  unfold fM_matcher_96 at hf
  refine lv_iload_n hx hb dM_matcher_96 rfl (lv_at hl 3 rfl) ?_
  refine lv_if_ne (tgt := 109) hx hb dM_matcher_97 (by decide) (fun c55 => ?_) (fun c55 => ?_)
  · replace hf := x_in c55 hf
    exact wM_matcher_109 C N τ a1 a2 a3 a4 a5 res hf H locs ls hw (lv_sub hl [0, 1, 2, 3, 4, 5] rfl)
  · replace hf := x_ip c55 hf
    refine lv_aload_n hx hb dM_matcher_100 rfl (lv_at hl 0 rfl) ?_
    refine y_get C hw 30 0 8 (v := .int (τ 30 0 8)) at_30 rfl rfl ⟨by decide, by decide⟩ wM_96 rfl dM_matcher_101 ?_
    refine lv_bipush (v := 6) hx hb dM_matcher_104 (by decide) ?_
    refine lv_icmp_eq (tgt := 116) hx hb dM_matcher_106 (by decide) (fun c56 => ?_) (fun c56 => ?_)
    · replace hf := x_ip c56 hf
      refine lv_bipush (v := (-2)) hx hb dM_matcher_116 (by decide) ?_
      obtain rfl := Option.some.inj hf
      exact x_iret C hw dM_matcher_118
    · replace hf := x_in c56 hf
      exact wM_matcher_109 C N τ a1 a2 a3 a4 a5 res hf H locs ls hw (lv_sub hl [0, 1, 2, 3, 4, 5] rfl)
set_option maxHeartbeats 4000000 in
set_option maxRecDepth 100000 in
theorem wM_matcher_64b {p : Program} {l : Launch} {e : Env} {R : Room} {s : State} {m : MethodId} {args : Array Value} {below : List Frame} {meth : Method} {c : Code} {E : xE} {A : Nat → Prop} {σ : xS} (C : xC p s m args meth c R E A bM_matcher 9 yM_matcher (some .int) 1 0 0) (N : Nat) (τ : yS) (rec64 : yS → Int32 → Int32 → Int32 → Int32 → Int32 → Int32 → Option (Int32 × yS)) (hrec64 : ∀ (τ : yS) (a1 : Int32) (a2 : Int32) (a3 : Int32) (a4 : Int32) (a5 : Int32) (a6 : Int32) (res : Int32 × yS), rec64 τ a1 a2 a3 a4 a5 a6 = some res → ∀ (H : Heap) (locs : List Loc) (ls : Array Slot), xW E A s σ τ H locs → lv_has ls 9 [(0, .ref (E.2.2.1 30 0)), (1, .int a1), (2, .int a2), (3, .int a3), (4, .int a4), (5, .int a5), (6, .int a6)] → W p l e R s m args below meth c H locs 0 0 (MQ below (xQ E A (some (.int res.1)) σ res.2) args s 0 0 A) (F0 m 64 ls [])) (a1 : Int32) (a2 : Int32) (a3 : Int32) (a4 : Int32) (a5 : Int32) (a6 : Int32) (res : Int32 × yS) (hf : fM_matcher_64b N rec64 τ a1 a2 a3 a4 a5 a6 = some res) (H : Heap) (locs : List Loc) (ls : Array Slot) (hw : xW E A s σ τ H locs) (hl : lv_has ls 9 [(0, .ref (E.2.2.1 30 0)), (1, .int a1), (2, .int a2), (3, .int a3), (4, .int a4), (5, .int a5), (6, .int a6)]) : W p l e R s m args below meth c H locs 0 0 (MQ below (xQ E A (some (.int res.1)) σ res.2) args s 0 0 A) (F0 m 64 ls []) := by
  have hx := C.1
  have hb := C.2.1
  unfold fM_matcher_64b at hf
  refine lv_iload hx hb dM_matcher_64 (lv_at hl 6 rfl) ?_
  refine lv_aload_n hx hb dM_matcher_66 rfl (lv_at hl 0 rfl) ?_
  refine y_get C hw 30 0 8 (v := .int (τ 30 0 8)) at_30 rfl rfl ⟨by decide, by decide⟩ wM_96 rfl dM_matcher_67 ?_
  refine lv_icmp_ge (tgt := 96) hx hb dM_matcher_70 (by decide) (fun c57 => ?_) (fun c57 => ?_)
  · replace hf := x_ip c57 hf
    exact wM_matcher_96 C N τ a1 a2 a3 a4 a5 res hf H locs ls hw (lv_sub hl [0, 1, 2, 3, 4, 5] rfl)
  · replace hf := x_in c57 hf
    refine lv_iload hx hb dM_matcher_73 (lv_at hl 5 rfl) ?_
    refine lv_if_ne (tgt := 96) hx hb dM_matcher_75 (by decide) (fun c58 => ?_) (fun c58 => ?_)
    · replace hf := x_in c58 hf
      exact wM_matcher_96 C N τ a1 a2 a3 a4 a5 res hf H locs ls hw (lv_sub hl [0, 1, 2, 3, 4, 5] rfl)
    · replace hf := x_ip c58 hf
      refine lv_iload hx hb dM_matcher_78 (lv_at hl 4 rfl) ?_
      refine lv_aload_n hx hb dM_matcher_80 rfl (lv_at hl 0 rfl) ?_
      refine y_get C hw 30 0 5 (v := .ref (E.2.2.1 35 0)) at_30 rfl rfl ⟨by decide, by decide⟩ wM_23 rfl dM_matcher_81 ?_
      refine lv_iload hx hb dM_matcher_84 (lv_at hl 6 rfl) ?_
      obtain ⟨g59, hf⟩ := x_g hf
      refine y_ild C hw 35 0 at_35 rfl g59 dM_matcher_86 ?_
      refine lv_iadd hx hb dM_matcher_87 ?_
      refine lv_istore (lv' := [(4, .int (a4 + (τ 35 0 a6.toNatClampNeg))), (0, .ref (E.2.2.1 30 0)), (1, .int a1), (2, .int a2), (3, .int a3), (5, .int a5), (6, .int a6)]) hx hb dM_matcher_88 hl (by decide) rfl (fun ls hl => ?_)
      refine lv_iinc (v := a6 + 1) (lv' := [(6, .int (a6 + 1)), (4, .int (a4 + (τ 35 0 a6.toNatClampNeg))), (0, .ref (E.2.2.1 30 0)), (1, .int a1), (2, .int a2), (3, .int a3), (5, .int a5)]) hx hb dM_matcher_90 hl (k := 6) rfl rfl (by decide) rfl (fun ls hl => ?_)
      refine lv_goto (tgt := 64) hx hb dM_matcher_93 (by decide) ?_
      exact hrec64 τ a1 a2 a3 (a4 + (τ 35 0 a6.toNatClampNeg)) a5 (a6 + 1) res hf H locs ls hw (lv_sub hl [2, 3, 4, 5, 1, 6, 0] rfl)
set_option maxHeartbeats 4000000 in
set_option maxRecDepth 100000 in
theorem wM_matcher_64 {p : Program} {l : Launch} {e : Env} {R : Room} {s : State} {m : MethodId} {args : Array Value} {below : List Frame} {meth : Method} {c : Code} {E : xE} {A : Nat → Prop} {σ : xS} (C : xC p s m args meth c R E A bM_matcher 9 yM_matcher (some .int) 1 0 0) (N : Nat) (n : Nat) : ∀ (τ : yS) (a1 : Int32) (a2 : Int32) (a3 : Int32) (a4 : Int32) (a5 : Int32) (a6 : Int32) (res : Int32 × yS), fM_matcher_64 N n τ a1 a2 a3 a4 a5 a6 = some res → ∀ (H : Heap) (locs : List Loc) (ls : Array Slot), xW E A s σ τ H locs → lv_has ls 9 [(0, .ref (E.2.2.1 30 0)), (1, .int a1), (2, .int a2), (3, .int a3), (4, .int a4), (5, .int a5), (6, .int a6)] → W p l e R s m args below meth c H locs 0 0 (MQ below (xQ E A (some (.int res.1)) σ res.2) args s 0 0 A) (F0 m 64 ls []) := by
  induction n with
  | zero => intro τ a1 a2 a3 a4 a5 a6 res hf; cases hf
  | succ n ih =>
    intro τ a1 a2 a3 a4 a5 a6 res hf H locs ls hw hl
    exact wM_matcher_64b C N τ (fM_matcher_64 N n) ih a1 a2 a3 a4 a5 a6 res hf H locs ls hw hl
set_option maxHeartbeats 4000000 in
set_option maxRecDepth 100000 in
theorem wM_matcher_54 {p : Program} {l : Launch} {e : Env} {R : Room} {s : State} {m : MethodId} {args : Array Value} {below : List Frame} {meth : Method} {c : Code} {E : xE} {A : Nat → Prop} {σ : xS} (C : xC p s m args meth c R E A bM_matcher 9 yM_matcher (some .int) 1 0 0) (N : Nat) (τ : yS) (a1 : Int32) (a2 : Int32) (a3 : Int32) (a4 : Int32) (t0 : Int32) (res : Int32 × yS) (hf : fM_matcher_54 N τ a1 a2 a3 a4 t0 = some res) (H : Heap) (locs : List Loc) (ls : Array Slot) (hw : xW E A s σ τ H locs) (hl : lv_has ls 9 [(0, .ref (E.2.2.1 30 0)), (1, .int a1), (2, .int a2), (3, .int a3), (4, .int a4)]) : W p l e R s m args below meth c H locs 0 0 (MQ below (xQ E A (some (.int res.1)) σ res.2) args s 0 0 A) (F0 m 54 ls [.int t0]) := by
  have hx := C.1
  have hb := C.2.1
  unfold fM_matcher_54 at hf
  refine lv_istore (lv' := [(5, .int t0), (0, .ref (E.2.2.1 30 0)), (1, .int a1), (2, .int a2), (3, .int a3), (4, .int a4)]) hx hb dM_matcher_54 hl (by decide) rfl (fun ls hl => ?_)
  refine lv_aload_n hx hb dM_matcher_56 rfl (lv_at hl 1 rfl) ?_
  refine y_get C hw 30 0 8 (v := .int (τ 30 0 8)) at_30 rfl rfl ⟨by decide, by decide⟩ wM_96 rfl dM_matcher_57 ?_
  refine lv_iload_n hx hb dM_matcher_60 rfl (lv_at hl 4 rfl) ?_
  refine lv_isub hx hb dM_matcher_61 ?_
  refine lv_istore (lv' := [(6, .int ((τ 30 0 8) - a3)), (5, .int t0), (0, .ref (E.2.2.1 30 0)), (1, .int a1), (2, .int a2), (3, .int a3), (4, .int a4)]) hx hb dM_matcher_62 hl (by decide) rfl (fun ls hl => ?_)
  exact wM_matcher_64 C N N τ a1 a2 a3 a4 t0 ((τ 30 0 8) - a3) res hf H locs ls hw (lv_sub hl [2, 3, 4, 5, 6, 1, 0] rfl)
set_option maxHeartbeats 4000000 in
set_option maxRecDepth 100000 in
theorem wM_matcher_37 {p : Program} {l : Launch} {e : Env} {R : Room} {s : State} {m : MethodId} {args : Array Value} {below : List Frame} {meth : Method} {c : Code} {E : xE} {A : Nat → Prop} {σ : xS} (C : xC p s m args meth c R E A bM_matcher 9 yM_matcher (some .int) 1 0 0) (N : Nat) (τ : yS) (a1 : Int32) (a2 : Int32) (t0 : Int32) (res : Int32 × yS) (hf : fM_matcher_37 N τ a1 a2 t0 = some res) (H : Heap) (locs : List Loc) (ls : Array Slot) (hw : xW E A s σ τ H locs) (hl : lv_has ls 9 [(0, .ref (E.2.2.1 30 0)), (1, .int a1), (2, .int a2)]) : W p l e R s m args below meth c H locs 0 0 (MQ below (xQ E A (some (.int res.1)) σ res.2) args s 0 0 A) (F0 m 37 ls [.int t0]) := by
  have hx := C.1
  have hb := C.2.1
  unfold fM_matcher_37 at hf
  refine lv_istore_n (lv' := [(3, .int t0), (0, .ref (E.2.2.1 30 0)), (1, .int a1), (2, .int a2)]) hx hb dM_matcher_37 rfl hl (by decide) rfl (fun ls hl => ?_)
  refine lv_iconst (v := 1) hx hb dM_matcher_38 (by decide) ?_
  refine lv_istore (lv' := [(4, .int 1), (3, .int t0), (0, .ref (E.2.2.1 30 0)), (1, .int a1), (2, .int a2)]) hx hb dM_matcher_39 hl (by decide) rfl (fun ls hl => ?_)
  refine lv_aload_n hx hb dM_matcher_41 rfl (lv_at hl 2 rfl) ?_
  refine y_get C hw 30 0 8 (v := .int (τ 30 0 8)) at_30 rfl rfl ⟨by decide, by decide⟩ wM_96 rfl dM_matcher_42 ?_
  refine lv_iload_n hx hb dM_matcher_45 rfl (lv_at hl 1 rfl) ?_
  refine lv_icmp_ge (tgt := 53) hx hb dM_matcher_46 (by decide) (fun c60 => ?_) (fun c60 => ?_)
  · replace hf := x_ip c60 hf
    refine lv_iconst (v := 0) hx hb dM_matcher_53 (by decide) ?_
    exact wM_matcher_54 C N τ a1 a2 t0 1 0 res hf H locs ls hw (lv_sub hl [2, 3, 4, 1, 0] rfl)
  · replace hf := x_in c60 hf
    refine lv_iconst (v := 1) hx hb dM_matcher_49 (by decide) ?_
    refine lv_goto (tgt := 54) hx hb dM_matcher_50 (by decide) ?_
    exact wM_matcher_54 C N τ a1 a2 t0 1 1 res hf H locs ls hw (lv_sub hl [2, 3, 4, 1, 0] rfl)
set_option maxHeartbeats 4000000 in
set_option maxRecDepth 100000 in
theorem wM_matcher_22 {p : Program} {l : Launch} {e : Env} {R : Room} {s : State} {m : MethodId} {args : Array Value} {below : List Frame} {meth : Method} {c : Code} {E : xE} {A : Nat → Prop} {σ : xS} (C : xC p s m args meth c R E A bM_matcher 9 yM_matcher (some .int) 1 0 0) (N : Nat) (τ : yS) (a1 : Int32) (a2 : Int32) (res : Int32 × yS) (hf : fM_matcher_22 N τ a1 a2 = some res) (H : Heap) (locs : List Loc) (ls : Array Slot) (hw : xW E A s σ τ H locs) (hl : lv_has ls 9 [(0, .ref (E.2.2.1 30 0)), (1, .int a1), (2, .int a2)]) : W p l e R s m args below meth c H locs 0 0 (MQ below (xQ E A (some (.int res.1)) σ res.2) args s 0 0 A) (F0 m 22 ls []) := by
  have hx := C.1
  have hb := C.2.1
  unfold fM_matcher_22 at hf
  refine lv_iconst (v := 2) hx hb dM_matcher_22 (by decide) ?_
  refine lv_goto (tgt := 37) hx hb dM_matcher_23 (by decide) ?_
  exact wM_matcher_37 C N τ a1 a2 2 res hf H locs ls hw (lv_sub hl [0, 1, 2] rfl)
set_option maxHeartbeats 4000000 in
set_option maxRecDepth 100000 in
theorem cM_matcher (l : Launch) (E : xE) (N : Nat) (τ : yS) (σ : xS) (a1 : Int32) (a2 : Int32) (res : Int32 × yS) (hf : fM_matcher N τ a1 a2 = some res) : xM l E yM_matcher bM_matcher 9 (some .int) 1 0 0 [.ref (E.2.2.1 30 0), .int a1, .int a2] σ τ (some (.int res.1)) σ res.2 := by
  refine x_met (by decide) (Nat.le_of_ble_eq_true rfl) (fun p e R s m args below meth c A ls H locs C hw hl => ?_)
  have hl : lv_has ls 9 [(0, .ref (E.2.2.1 30 0)), (1, .int a1), (2, .int a2)] := hl
  have hx := C.1
  have hb := C.2.1
  unfold fM_matcher at hf
  refine lv_iload_n hx hb dM_matcher_0 rfl (lv_at hl 1 rfl) ?_
  refine lv_iconst (v := 0) hx hb dM_matcher_1 (by decide) ?_
  refine lv_bipush (v := 7) hx hb dM_matcher_2 (by decide) ?_
  refine x_callS (As := [.int a1, .int 0, .int 7]) (rest := []) (st1 := [.int (fM_in a1 0 7)]) C hw (cM_in l E τ σ a1 0 7) kM_106 (by decide) rfl rfl hl.1 (lv_room (Nat.le_of_ble_eq_true rfl)) dM_matcher_4 ⟨by decide, by decide⟩ rfl (fun H locs hw => ?_)
  refine lv_if_ne (tgt := 12) hx hb dM_matcher_7 (by decide) (fun c62 => ?_) (fun c62 => ?_)
  · replace hf := x_in c62 hf
    refine lv_iload_n hx hb dM_matcher_12 rfl (lv_at hl 1 rfl) ?_
    refine lv_iconst (v := 4) hx hb dM_matcher_13 (by decide) ?_
    refine lv_icmp_eq (tgt := 22) hx hb dM_matcher_14 (by decide) (fun c63 => ?_) (fun c63 => ?_)
    · replace hf := x_ip c63 hf
      exact wM_matcher_22 C N τ a1 a2 res hf H locs ls hw (lv_sub hl [0, 1, 2] rfl)
    · replace hf := x_in c63 hf
      refine lv_iload_n hx hb dM_matcher_17 rfl (lv_at hl 1 rfl) ?_
      refine lv_iconst (v := 5) hx hb dM_matcher_18 (by decide) ?_
      refine lv_icmp_ne (tgt := 26) hx hb dM_matcher_19 (by decide) (fun c64 => ?_) (fun c64 => ?_)
      · replace hf := x_in c64 hf
        refine lv_iload_n hx hb dM_matcher_26 rfl (lv_at hl 1 rfl) ?_
        refine lv_bipush (v := 6) hx hb dM_matcher_27 (by decide) ?_
        refine lv_icmp_ne (tgt := 36) hx hb dM_matcher_29 (by decide) (fun c65 => ?_) (fun c65 => ?_)
        · replace hf := x_in c65 hf
          refine lv_iconst (v := 0) hx hb dM_matcher_36 (by decide) ?_
          exact wM_matcher_37 C N τ a1 a2 0 res hf H locs ls hw (lv_sub hl [0, 1, 2] rfl)
        · replace hf := x_ip c65 hf
          refine lv_iconst (v := 1) hx hb dM_matcher_32 (by decide) ?_
          refine lv_goto (tgt := 37) hx hb dM_matcher_33 (by decide) ?_
          exact wM_matcher_37 C N τ a1 a2 1 res hf H locs ls hw (lv_sub hl [0, 1, 2] rfl)
      · replace hf := x_ip c64 hf
        exact wM_matcher_22 C N τ a1 a2 res hf H locs ls hw (lv_sub hl [0, 1, 2] rfl)
  · replace hf := x_ip c62 hf
    refine lv_iconst (v := (-1)) hx hb dM_matcher_10 (by decide) ?_
    obtain rfl := Option.some.inj hf
    exact x_iret C hw dM_matcher_11
-- StandInsModel matches (II)Z
set_option maxRecDepth 100000 in
theorem dM_matches_0 : decode bM_matches 0 = .ok (.iconst 1, 1) := by decide +kernel
set_option maxRecDepth 100000 in
theorem dM_matches_1 : decode bM_matches 1 = .ok (.istore_n 3, 1) := by decide +kernel
set_option maxRecDepth 100000 in
theorem dM_matches_2 : decode bM_matches 2 = .ok (.iconst 1, 1) := by decide +kernel
set_option maxRecDepth 100000 in
theorem dM_matches_3 : decode bM_matches 3 = .ok (.istore 4, 2) := by decide +kernel
set_option maxRecDepth 100000 in
theorem dM_matches_5 : decode bM_matches 5 = .ok (.iconst 1, 1) := by decide +kernel
set_option maxRecDepth 100000 in
theorem dM_matches_6 : decode bM_matches 6 = .ok (.istore 5, 2) := by decide +kernel
set_option maxRecDepth 100000 in
theorem dM_matches_8 : decode bM_matches 8 = .ok (.iconst 1, 1) := by decide +kernel
set_option maxRecDepth 100000 in
theorem dM_matches_9 : decode bM_matches 9 = .ok (.istore 6, 2) := by decide +kernel
set_option maxRecDepth 100000 in
theorem dM_matches_11 : decode bM_matches 11 = .ok (.aload_n 0, 1) := by decide +kernel
set_option maxRecDepth 100000 in
theorem dM_matches_12 : decode bM_matches 12 = .ok (.getfield 23, 3) := by decide +kernel
set_option maxRecDepth 100000 in
theorem dM_matches_15 : decode bM_matches 15 = .ok (.iload_n 1, 1) := by decide +kernel
set_option maxRecDepth 100000 in
theorem dM_matches_16 : decode bM_matches 16 = .ok (.iaload, 1) := by decide +kernel
set_option maxRecDepth 100000 in
theorem dM_matches_17 : decode bM_matches 17 = .ok (.iconst 1, 1) := by decide +kernel
set_option maxRecDepth 100000 in
theorem dM_matches_18 : decode bM_matches 18 = .ok (.isub, 1) := by decide +kernel
set_option maxRecDepth 100000 in
theorem dM_matches_19 : decode bM_matches 19 = .ok (.istore 7, 2) := by decide +kernel
set_option maxRecDepth 100000 in
theorem dM_matches_21 : decode bM_matches 21 = .ok (.iload 7, 2) := by decide +kernel
set_option maxRecDepth 100000 in
theorem dM_matches_23 : decode bM_matches 23 = .ok (.ifCond .lt 187, 3) := by decide +kernel
set_option maxRecDepth 100000 in
theorem dM_matches_26 : decode bM_matches 26 = .ok (.aload_n 0, 1) := by decide +kernel
set_option maxRecDepth 100000 in
theorem dM_matches_27 : decode bM_matches 27 = .ok (.getfield 26, 3) := by decide +kernel
set_option maxRecDepth 100000 in
theorem dM_matches_30 : decode bM_matches 30 = .ok (.bipush 8, 2) := by decide +kernel
set_option maxRecDepth 100000 in
theorem dM_matches_32 : decode bM_matches 32 = .ok (.iload_n 1, 1) := by decide +kernel
set_option maxRecDepth 100000 in
theorem dM_matches_33 : decode bM_matches 33 = .ok (.imul, 1) := by decide +kernel
set_option maxRecDepth 100000 in
theorem dM_matches_34 : decode bM_matches 34 = .ok (.iload 7, 2) := by decide +kernel
set_option maxRecDepth 100000 in
theorem dM_matches_36 : decode bM_matches 36 = .ok (.iadd, 1) := by decide +kernel
set_option maxRecDepth 100000 in
theorem dM_matches_37 : decode bM_matches 37 = .ok (.iaload, 1) := by decide +kernel
set_option maxRecDepth 100000 in
theorem dM_matches_38 : decode bM_matches 38 = .ok (.istore 8, 2) := by decide +kernel
set_option maxRecDepth 100000 in
theorem dM_matches_40 : decode bM_matches 40 = .ok (.aload_n 0, 1) := by decide +kernel
set_option maxRecDepth 100000 in
theorem dM_matches_41 : decode bM_matches 41 = .ok (.getfield 29, 3) := by decide +kernel
set_option maxRecDepth 100000 in
theorem dM_matches_44 : decode bM_matches 44 = .ok (.bipush 8, 2) := by decide +kernel
set_option maxRecDepth 100000 in
theorem dM_matches_46 : decode bM_matches 46 = .ok (.iload_n 1, 1) := by decide +kernel
set_option maxRecDepth 100000 in
theorem dM_matches_47 : decode bM_matches 47 = .ok (.imul, 1) := by decide +kernel
set_option maxRecDepth 100000 in
theorem dM_matches_48 : decode bM_matches 48 = .ok (.iload 7, 2) := by decide +kernel
set_option maxRecDepth 100000 in
theorem dM_matches_50 : decode bM_matches 50 = .ok (.iadd, 1) := by decide +kernel
set_option maxRecDepth 100000 in
theorem dM_matches_51 : decode bM_matches 51 = .ok (.iaload, 1) := by decide +kernel
set_option maxRecDepth 100000 in
theorem dM_matches_52 : decode bM_matches 52 = .ok (.istore 9, 2) := by decide +kernel
set_option maxRecDepth 100000 in
theorem dM_matches_54 : decode bM_matches 54 = .ok (.iload 8, 2) := by decide +kernel
set_option maxRecDepth 100000 in
theorem dM_matches_56 : decode bM_matches 56 = .ok (.bipush 6, 2) := by decide +kernel
set_option maxRecDepth 100000 in
theorem dM_matches_58 : decode bM_matches 58 = .ok (.if_icmp .ne 16, 3) := by decide +kernel
set_option maxRecDepth 100000 in
theorem dM_matches_61 : decode bM_matches 61 = .ok (.iload_n 3, 1) := by decide +kernel
set_option maxRecDepth 100000 in
theorem dM_matches_62 : decode bM_matches 62 = .ok (.ifCond .ne 7, 3) := by decide +kernel
set_option maxRecDepth 100000 in
theorem dM_matches_65 : decode bM_matches 65 = .ok (.iconst 1, 1) := by decide +kernel
set_option maxRecDepth 100000 in
theorem dM_matches_66 : decode bM_matches 66 = .ok (.goto 4, 3) := by decide +kernel
set_option maxRecDepth 100000 in
theorem dM_matches_69 : decode bM_matches 69 = .ok (.iconst 0, 1) := by decide +kernel
set_option maxRecDepth 100000 in
theorem dM_matches_70 : decode bM_matches 70 = .ok (.istore_n 3, 1) := by decide +kernel
set_option maxRecDepth 100000 in
theorem dM_matches_71 : decode bM_matches 71 = .ok (.goto 133, 3) := by decide +kernel
set_option maxRecDepth 100000 in
theorem dM_matches_74 : decode bM_matches 74 = .ok (.iload 8, 2) := by decide +kernel
set_option maxRecDepth 100000 in
theorem dM_matches_76 : decode bM_matches 76 = .ok (.iconst 4, 1) := by decide +kernel
set_option maxRecDepth 100000 in
theorem dM_matches_77 : decode bM_matches 77 = .ok (.if_icmp .eq 9, 3) := by decide +kernel
set_option maxRecDepth 100000 in
theorem dM_matches_80 : decode bM_matches 80 = .ok (.iload 8, 2) := by decide +kernel
set_option maxRecDepth 100000 in
theorem dM_matches_82 : decode bM_matches 82 = .ok (.iconst 5, 1) := by decide +kernel
set_option maxRecDepth 100000 in
theorem dM_matches_83 : decode bM_matches 83 = .ok (.if_icmp .ne 52, 3) := by decide +kernel
set_option maxRecDepth 100000 in
theorem dM_matches_86 : decode bM_matches 86 = .ok (.iload 8, 2) := by decide +kernel
set_option maxRecDepth 100000 in
theorem dM_matches_88 : decode bM_matches 88 = .ok (.iconst 4, 1) := by decide +kernel
set_option maxRecDepth 100000 in
theorem dM_matches_89 : decode bM_matches 89 = .ok (.if_icmp .ne 20, 3) := by decide +kernel
set_option maxRecDepth 100000 in
theorem dM_matches_92 : decode bM_matches 92 = .ok (.iload_n 3, 1) := by decide +kernel
set_option maxRecDepth 100000 in
theorem dM_matches_93 : decode bM_matches 93 = .ok (.ifCond .eq 12, 3) := by decide +kernel
set_option maxRecDepth 100000 in
theorem dM_matches_96 : decode bM_matches 96 = .ok (.iload 4, 2) := by decide +kernel
set_option maxRecDepth 100000 in
theorem dM_matches_98 : decode bM_matches 98 = .ok (.ifCond .eq 7, 3) := by decide +kernel
set_option maxRecDepth 100000 in
theorem dM_matches_101 : decode bM_matches 101 = .ok (.iconst 1, 1) := by decide +kernel
set_option maxRecDepth 100000 in
theorem dM_matches_102 : decode bM_matches 102 = .ok (.goto 21, 3) := by decide +kernel
set_option maxRecDepth 100000 in
theorem dM_matches_105 : decode bM_matches 105 = .ok (.iconst 0, 1) := by decide +kernel
set_option maxRecDepth 100000 in
theorem dM_matches_106 : decode bM_matches 106 = .ok (.goto 17, 3) := by decide +kernel
set_option maxRecDepth 100000 in
theorem dM_matches_109 : decode bM_matches 109 = .ok (.iload_n 3, 1) := by decide +kernel
set_option maxRecDepth 100000 in
theorem dM_matches_110 : decode bM_matches 110 = .ok (.ifCond .ne 8, 3) := by decide +kernel
set_option maxRecDepth 100000 in
theorem dM_matches_113 : decode bM_matches 113 = .ok (.iload 4, 2) := by decide +kernel
set_option maxRecDepth 100000 in
theorem dM_matches_115 : decode bM_matches 115 = .ok (.ifCond .eq 7, 3) := by decide +kernel
set_option maxRecDepth 100000 in
theorem dM_matches_118 : decode bM_matches 118 = .ok (.iconst 1, 1) := by decide +kernel
set_option maxRecDepth 100000 in
theorem dM_matches_119 : decode bM_matches 119 = .ok (.goto 4, 3) := by decide +kernel
set_option maxRecDepth 100000 in
theorem dM_matches_122 : decode bM_matches 122 = .ok (.iconst 0, 1) := by decide +kernel
set_option maxRecDepth 100000 in
theorem dM_matches_123 : decode bM_matches 123 = .ok (.istore_n 3, 1) := by decide +kernel
set_option maxRecDepth 100000 in
theorem dM_matches_124 : decode bM_matches 124 = .ok (.iload 5, 2) := by decide +kernel
set_option maxRecDepth 100000 in
theorem dM_matches_126 : decode bM_matches 126 = .ok (.istore 4, 2) := by decide +kernel
set_option maxRecDepth 100000 in
theorem dM_matches_128 : decode bM_matches 128 = .ok (.iload 6, 2) := by decide +kernel
set_option maxRecDepth 100000 in
theorem dM_matches_130 : decode bM_matches 130 = .ok (.istore 5, 2) := by decide +kernel
set_option maxRecDepth 100000 in
theorem dM_matches_132 : decode bM_matches 132 = .ok (.goto 72, 3) := by decide +kernel
set_option maxRecDepth 100000 in
theorem dM_matches_135 : decode bM_matches 135 = .ok (.iload 5, 2) := by decide +kernel
set_option maxRecDepth 100000 in
theorem dM_matches_137 : decode bM_matches 137 = .ok (.istore 6, 2) := by decide +kernel
set_option maxRecDepth 100000 in
theorem dM_matches_139 : decode bM_matches 139 = .ok (.iload 4, 2) := by decide +kernel
set_option maxRecDepth 100000 in
theorem dM_matches_141 : decode bM_matches 141 = .ok (.istore 5, 2) := by decide +kernel
set_option maxRecDepth 100000 in
theorem dM_matches_143 : decode bM_matches 143 = .ok (.iload_n 3, 1) := by decide +kernel
set_option maxRecDepth 100000 in
theorem dM_matches_144 : decode bM_matches 144 = .ok (.istore 4, 2) := by decide +kernel
set_option maxRecDepth 100000 in
theorem dM_matches_146 : decode bM_matches 146 = .ok (.iload 8, 2) := by decide +kernel
set_option maxRecDepth 100000 in
theorem dM_matches_148 : decode bM_matches 148 = .ok (.iconst 1, 1) := by decide +kernel
set_option maxRecDepth 100000 in
theorem dM_matches_149 : decode bM_matches 149 = .ok (.if_icmp .ne 17, 3) := by decide +kernel
set_option maxRecDepth 100000 in
theorem dM_matches_152 : decode bM_matches 152 = .ok (.iload_n 2, 1) := by decide +kernel
set_option maxRecDepth 100000 in
theorem dM_matches_153 : decode bM_matches 153 = .ok (.iload 9, 2) := by decide +kernel
set_option maxRecDepth 100000 in
theorem dM_matches_155 : decode bM_matches 155 = .ok (.if_icmp .ne 7, 3) := by decide +kernel
set_option maxRecDepth 100000 in
theorem dM_matches_158 : decode bM_matches 158 = .ok (.iconst 1, 1) := by decide +kernel
set_option maxRecDepth 100000 in
theorem dM_matches_159 : decode bM_matches 159 = .ok (.goto 44, 3) := by decide +kernel
set_option maxRecDepth 100000 in
theorem dM_matches_162 : decode bM_matches 162 = .ok (.iconst 0, 1) := by decide +kernel
set_option maxRecDepth 100000 in
theorem dM_matches_163 : decode bM_matches 163 = .ok (.goto 40, 3) := by decide +kernel
set_option maxRecDepth 100000 in
theorem dM_matches_166 : decode bM_matches 166 = .ok (.iload 8, 2) := by decide +kernel
set_option maxRecDepth 100000 in
theorem dM_matches_168 : decode bM_matches 168 = .ok (.iconst 2, 1) := by decide +kernel
set_option maxRecDepth 100000 in
theorem dM_matches_169 : decode bM_matches 169 = .ok (.if_icmp .ne 17, 3) := by decide +kernel
set_option maxRecDepth 100000 in
theorem dM_matches_172 : decode bM_matches 172 = .ok (.iload_n 2, 1) := by decide +kernel
set_option maxRecDepth 100000 in
theorem dM_matches_173 : decode bM_matches 173 = .ok (.iload 9, 2) := by decide +kernel
set_option maxRecDepth 100000 in
theorem dM_matches_175 : decode bM_matches 175 = .ok (.if_icmp .ge 7, 3) := by decide +kernel
set_option maxRecDepth 100000 in
theorem dM_matches_178 : decode bM_matches 178 = .ok (.iconst 1, 1) := by decide +kernel
set_option maxRecDepth 100000 in
theorem dM_matches_179 : decode bM_matches 179 = .ok (.goto 24, 3) := by decide +kernel
set_option maxRecDepth 100000 in
theorem dM_matches_182 : decode bM_matches 182 = .ok (.iconst 0, 1) := by decide +kernel
set_option maxRecDepth 100000 in
theorem dM_matches_183 : decode bM_matches 183 = .ok (.goto 20, 3) := by decide +kernel
set_option maxRecDepth 100000 in
theorem dM_matches_186 : decode bM_matches 186 = .ok (.iload 8, 2) := by decide +kernel
set_option maxRecDepth 100000 in
theorem dM_matches_188 : decode bM_matches 188 = .ok (.iconst 3, 1) := by decide +kernel
set_option maxRecDepth 100000 in
theorem dM_matches_189 : decode bM_matches 189 = .ok (.if_icmp .ne 9, 3) := by decide +kernel
set_option maxRecDepth 100000 in
theorem dM_matches_192 : decode bM_matches 192 = .ok (.iload_n 2, 1) := by decide +kernel
set_option maxRecDepth 100000 in
theorem dM_matches_193 : decode bM_matches 193 = .ok (.iload 9, 2) := by decide +kernel
set_option maxRecDepth 100000 in
theorem dM_matches_195 : decode bM_matches 195 = .ok (.if_icmp .le 7, 3) := by decide +kernel
set_option maxRecDepth 100000 in
theorem dM_matches_198 : decode bM_matches 198 = .ok (.iconst 1, 1) := by decide +kernel
set_option maxRecDepth 100000 in
theorem dM_matches_199 : decode bM_matches 199 = .ok (.goto 4, 3) := by decide +kernel
set_option maxRecDepth 100000 in
theorem dM_matches_202 : decode bM_matches 202 = .ok (.iconst 0, 1) := by decide +kernel
set_option maxRecDepth 100000 in
theorem dM_matches_203 : decode bM_matches 203 = .ok (.istore_n 3, 1) := by decide +kernel
set_option maxRecDepth 100000 in
theorem dM_matches_204 : decode bM_matches 204 = .ok (.iinc 7 (-1), 3) := by decide +kernel
set_option maxRecDepth 100000 in
theorem dM_matches_207 : decode bM_matches 207 = .ok (.goto (-186), 3) := by decide +kernel
set_option maxRecDepth 100000 in
theorem dM_matches_210 : decode bM_matches 210 = .ok (.iload_n 3, 1) := by decide +kernel
set_option maxRecDepth 100000 in
theorem dM_matches_211 : decode bM_matches 211 = .ok (.ireturn, 1) := by decide +kernel
def fM_matches_204 (N : Nat) (rec21 : Int32 → Int32 → Int32 → Int32 → Int32 → Int32 → Int32 → Option (Int32)) (τ : yS) (a1 : Int32) (a2 : Int32) (a3 : Int32) (a4 : Int32) (a5 : Int32) (a6 : Int32) (a7 : Int32) : Option (Int32) :=
  rec21 a1 a2 a3 a4 a5 a6 (a7 + (-1))
def fM_matches_123 (N : Nat) (rec21 : Int32 → Int32 → Int32 → Int32 → Int32 → Int32 → Int32 → Option (Int32)) (τ : yS) (a1 : Int32) (a2 : Int32) (a5 : Int32) (a6 : Int32) (a7 : Int32) (t0 : Int32) : Option (Int32) :=
  fM_matches_204 N rec21 τ a1 a2 t0 a5 a6 a6 a7
def fM_matches_118 (N : Nat) (rec21 : Int32 → Int32 → Int32 → Int32 → Int32 → Int32 → Int32 → Option (Int32)) (τ : yS) (a1 : Int32) (a2 : Int32) (a5 : Int32) (a6 : Int32) (a7 : Int32) : Option (Int32) :=
  fM_matches_123 N rec21 τ a1 a2 a5 a6 a7 1
def fM_matches_105 (N : Nat) (rec21 : Int32 → Int32 → Int32 → Int32 → Int32 → Int32 → Int32 → Option (Int32)) (τ : yS) (a1 : Int32) (a2 : Int32) (a5 : Int32) (a6 : Int32) (a7 : Int32) : Option (Int32) :=
  fM_matches_123 N rec21 τ a1 a2 a5 a6 a7 0
def fM_matches_86 (N : Nat) (rec21 : Int32 → Int32 → Int32 → Int32 → Int32 → Int32 → Int32 → Option (Int32)) (τ : yS) (a1 : Int32) (a2 : Int32) (a3 : Int32) (a4 : Int32) (a5 : Int32) (a6 : Int32) (a7 : Int32) (a8 : Int32) : Option (Int32) :=
  if a8 = 4 then
  (if a3 = 0 then
  (fM_matches_105 N rec21 τ a1 a2 a5 a6 a7)
  else
  (if a4 = 0 then
  (fM_matches_105 N rec21 τ a1 a2 a5 a6 a7)
  else
  (fM_matches_123 N rec21 τ a1 a2 a5 a6 a7 1)))
  else
  (if a3 = 0 then
  (if a4 = 0 then
  (fM_matches_123 N rec21 τ a1 a2 a5 a6 a7 0)
  else
  (fM_matches_118 N rec21 τ a1 a2 a5 a6 a7))
  else
  (fM_matches_118 N rec21 τ a1 a2 a5 a6 a7))
def fM_matches_203 (N : Nat) (rec21 : Int32 → Int32 → Int32 → Int32 → Int32 → Int32 → Int32 → Option (Int32)) (τ : yS) (a1 : Int32) (a2 : Int32) (a4 : Int32) (a5 : Int32) (a6 : Int32) (a7 : Int32) (t0 : Int32) : Option (Int32) :=
  fM_matches_204 N rec21 τ a1 a2 t0 a4 a5 a6 a7
def fM_matches_198 (N : Nat) (rec21 : Int32 → Int32 → Int32 → Int32 → Int32 → Int32 → Int32 → Option (Int32)) (τ : yS) (a1 : Int32) (a2 : Int32) (a4 : Int32) (a5 : Int32) (a6 : Int32) (a7 : Int32) : Option (Int32) :=
  fM_matches_203 N rec21 τ a1 a2 a4 a5 a6 a7 1
def fM_matches_70 (N : Nat) (rec21 : Int32 → Int32 → Int32 → Int32 → Int32 → Int32 → Int32 → Option (Int32)) (τ : yS) (a1 : Int32) (a2 : Int32) (a4 : Int32) (a5 : Int32) (a6 : Int32) (a7 : Int32) (t0 : Int32) : Option (Int32) :=
  fM_matches_204 N rec21 τ a1 a2 t0 a4 a5 a6 a7
def fM_matches_21b (N : Nat) (rec21 : Int32 → Int32 → Int32 → Int32 → Int32 → Int32 → Int32 → Option (Int32)) (τ : yS) (a1 : Int32) (a2 : Int32) (a3 : Int32) (a4 : Int32) (a5 : Int32) (a6 : Int32) (a7 : Int32) : Option (Int32) :=
  if a7 < 0 then
  (if a3 = 0 ∨ a3 = 1 then
  some a3
  else none)
  else
  (if ¬ (((8 * a1) + a7) < 0 ∨ 960 ≤ ((8 * a1) + a7).toNatClampNeg) then
  if (τ 36 0 (((8 * a1) + a7).toNatClampNeg)) = 6 then
  (if a3 = 0 then
  (fM_matches_70 N rec21 τ a1 a2 a4 a5 a6 a7 1)
  else
  (fM_matches_70 N rec21 τ a1 a2 a4 a5 a6 a7 0))
  else
  (if (τ 36 0 (((8 * a1) + a7).toNatClampNeg)) = 4 then
  (fM_matches_86 N rec21 τ a1 a2 a3 a4 a5 a6 a7 (τ 36 0 (((8 * a1) + a7).toNatClampNeg)))
  else
  (if (τ 36 0 (((8 * a1) + a7).toNatClampNeg)) = 5 then
  (fM_matches_86 N rec21 τ a1 a2 a3 a4 a5 a6 a7 (τ 36 0 (((8 * a1) + a7).toNatClampNeg)))
  else
  (if (τ 36 0 (((8 * a1) + a7).toNatClampNeg)) = 1 then
  (if a2 = (τ 37 0 (((8 * a1) + a7).toNatClampNeg)) then
  (fM_matches_203 N rec21 τ a1 a2 a3 a4 a5 a7 1)
  else
  (fM_matches_203 N rec21 τ a1 a2 a3 a4 a5 a7 0))
  else
  (if (τ 36 0 (((8 * a1) + a7).toNatClampNeg)) = 2 then
  (if (τ 37 0 (((8 * a1) + a7).toNatClampNeg)) ≤ a2 then
  (fM_matches_203 N rec21 τ a1 a2 a3 a4 a5 a7 0)
  else
  (fM_matches_203 N rec21 τ a1 a2 a3 a4 a5 a7 1))
  else
  (if (τ 36 0 (((8 * a1) + a7).toNatClampNeg)) = 3 then
  (if a2 ≤ (τ 37 0 (((8 * a1) + a7).toNatClampNeg)) then
  (fM_matches_203 N rec21 τ a1 a2 a3 a4 a5 a7 0)
  else
  (fM_matches_198 N rec21 τ a1 a2 a3 a4 a5 a7))
  else
  (fM_matches_198 N rec21 τ a1 a2 a3 a4 a5 a7))))))
  else none)
def fM_matches_21 (N : Nat) (τ : yS) : Nat → Int32 → Int32 → Int32 → Int32 → Int32 → Int32 → Int32 → Option (Int32)
  | 0, _, _, _, _, _, _, _ => none
  | n + 1, a1, a2, a3, a4, a5, a6, a7 => fM_matches_21b N (fM_matches_21 N τ n) τ a1 a2 a3 a4 a5 a6 a7
def fM_matches (N : Nat) (τ : yS) (a1 : Int32) (a2 : Int32) : Option (Int32) :=
  if ¬ (a1 < 0 ∨ 120 ≤ a1.toNatClampNeg) then
  fM_matches_21 N τ N a1 a2 1 1 1 1 ((τ 35 0 a1.toNatClampNeg) - 1)
  else none
set_option maxHeartbeats 4000000 in
set_option maxRecDepth 100000 in
theorem wM_matches_204 {p : Program} {l : Launch} {e : Env} {R : Room} {s : State} {m : MethodId} {args : Array Value} {below : List Frame} {meth : Method} {c : Code} {E : xE} {A : Nat → Prop} {σ : xS} (C : xC p s m args meth c R E A bM_matches 10 yM_matches (some .boolean) 0 0 0) (N : Nat) (τ : yS) (rec21 : Int32 → Int32 → Int32 → Int32 → Int32 → Int32 → Int32 → Option (Int32)) (hrec21 : ∀ (a1 : Int32) (a2 : Int32) (a3 : Int32) (a4 : Int32) (a5 : Int32) (a6 : Int32) (a7 : Int32) (res : Int32), rec21 a1 a2 a3 a4 a5 a6 a7 = some res → ∀ (H : Heap) (locs : List Loc) (ls : Array Slot), xW E A s σ τ H locs → lv_has ls 10 [(0, .ref (E.2.2.1 30 0)), (1, .int a1), (2, .int a2), (3, .int a3), (4, .int a4), (5, .int a5), (6, .int a6), (7, .int a7)] → W p l e R s m args below meth c H locs 0 0 (MQ below (xQ E A (some (.int res)) σ τ) args s 0 0 A) (F0 m 21 ls [])) (a1 : Int32) (a2 : Int32) (a3 : Int32) (a4 : Int32) (a5 : Int32) (a6 : Int32) (a7 : Int32) (res : Int32) (hf : fM_matches_204 N rec21 τ a1 a2 a3 a4 a5 a6 a7 = some res) (H : Heap) (locs : List Loc) (ls : Array Slot) (hw : xW E A s σ τ H locs) (hl : lv_has ls 10 [(0, .ref (E.2.2.1 30 0)), (1, .int a1), (2, .int a2), (3, .int a3), (4, .int a4), (5, .int a5), (6, .int a6), (7, .int a7)]) : W p l e R s m args below meth c H locs 0 0 (MQ below (xQ E A (some (.int res)) σ τ) args s 0 0 A) (F0 m 204 ls []) := by
  have hx := C.1
  have hb := C.2.1
  unfold fM_matches_204 at hf
  refine lv_iinc (v := a7 + (-1)) (lv' := [(7, .int (a7 + (-1))), (0, .ref (E.2.2.1 30 0)), (1, .int a1), (2, .int a2), (3, .int a3), (4, .int a4), (5, .int a5), (6, .int a6)]) hx hb dM_matches_204 hl (k := 7) rfl rfl (by decide) rfl (fun ls hl => ?_)
  refine lv_goto (tgt := 21) hx hb dM_matches_207 (by decide) ?_
  exact hrec21 a1 a2 a3 a4 a5 a6 (a7 + (-1)) res hf H locs ls hw (lv_sub hl [1, 2, 3, 4, 5, 6, 7, 0] rfl)
set_option maxHeartbeats 4000000 in
set_option maxRecDepth 100000 in
theorem wM_matches_123 {p : Program} {l : Launch} {e : Env} {R : Room} {s : State} {m : MethodId} {args : Array Value} {below : List Frame} {meth : Method} {c : Code} {E : xE} {A : Nat → Prop} {σ : xS} (C : xC p s m args meth c R E A bM_matches 10 yM_matches (some .boolean) 0 0 0) (N : Nat) (τ : yS) (rec21 : Int32 → Int32 → Int32 → Int32 → Int32 → Int32 → Int32 → Option (Int32)) (hrec21 : ∀ (a1 : Int32) (a2 : Int32) (a3 : Int32) (a4 : Int32) (a5 : Int32) (a6 : Int32) (a7 : Int32) (res : Int32), rec21 a1 a2 a3 a4 a5 a6 a7 = some res → ∀ (H : Heap) (locs : List Loc) (ls : Array Slot), xW E A s σ τ H locs → lv_has ls 10 [(0, .ref (E.2.2.1 30 0)), (1, .int a1), (2, .int a2), (3, .int a3), (4, .int a4), (5, .int a5), (6, .int a6), (7, .int a7)] → W p l e R s m args below meth c H locs 0 0 (MQ below (xQ E A (some (.int res)) σ τ) args s 0 0 A) (F0 m 21 ls [])) (a1 : Int32) (a2 : Int32) (a5 : Int32) (a6 : Int32) (a7 : Int32) (t0 : Int32) (res : Int32) (hf : fM_matches_123 N rec21 τ a1 a2 a5 a6 a7 t0 = some res) (H : Heap) (locs : List Loc) (ls : Array Slot) (hw : xW E A s σ τ H locs) (hl : lv_has ls 10 [(0, .ref (E.2.2.1 30 0)), (1, .int a1), (2, .int a2), (5, .int a5), (6, .int a6), (7, .int a7)]) : W p l e R s m args below meth c H locs 0 0 (MQ below (xQ E A (some (.int res)) σ τ) args s 0 0 A) (F0 m 123 ls [.int t0]) := by
  have hx := C.1
  have hb := C.2.1
  unfold fM_matches_123 at hf
  refine lv_istore_n (lv' := [(3, .int t0), (0, .ref (E.2.2.1 30 0)), (1, .int a1), (2, .int a2), (5, .int a5), (6, .int a6), (7, .int a7)]) hx hb dM_matches_123 rfl hl (by decide) rfl (fun ls hl => ?_)
  refine lv_iload hx hb dM_matches_124 (lv_at hl 4 rfl) ?_
  refine lv_istore (lv' := [(4, .int a5), (3, .int t0), (0, .ref (E.2.2.1 30 0)), (1, .int a1), (2, .int a2), (5, .int a5), (6, .int a6), (7, .int a7)]) hx hb dM_matches_126 hl (by decide) rfl (fun ls hl => ?_)
  refine lv_iload hx hb dM_matches_128 (lv_at hl 6 rfl) ?_
  refine lv_istore (lv' := [(5, .int a6), (4, .int a5), (3, .int t0), (0, .ref (E.2.2.1 30 0)), (1, .int a1), (2, .int a2), (6, .int a6), (7, .int a7)]) hx hb dM_matches_130 hl (by decide) rfl (fun ls hl => ?_)
  refine lv_goto (tgt := 204) hx hb dM_matches_132 (by decide) ?_
  exact wM_matches_204 C N τ rec21 hrec21 a1 a2 t0 a5 a6 a6 a7 res hf H locs ls hw (lv_sub hl [3, 4, 5, 2, 1, 0, 6, 7] rfl)
set_option maxHeartbeats 4000000 in
set_option maxRecDepth 100000 in
theorem wM_matches_118 {p : Program} {l : Launch} {e : Env} {R : Room} {s : State} {m : MethodId} {args : Array Value} {below : List Frame} {meth : Method} {c : Code} {E : xE} {A : Nat → Prop} {σ : xS} (C : xC p s m args meth c R E A bM_matches 10 yM_matches (some .boolean) 0 0 0) (N : Nat) (τ : yS) (rec21 : Int32 → Int32 → Int32 → Int32 → Int32 → Int32 → Int32 → Option (Int32)) (hrec21 : ∀ (a1 : Int32) (a2 : Int32) (a3 : Int32) (a4 : Int32) (a5 : Int32) (a6 : Int32) (a7 : Int32) (res : Int32), rec21 a1 a2 a3 a4 a5 a6 a7 = some res → ∀ (H : Heap) (locs : List Loc) (ls : Array Slot), xW E A s σ τ H locs → lv_has ls 10 [(0, .ref (E.2.2.1 30 0)), (1, .int a1), (2, .int a2), (3, .int a3), (4, .int a4), (5, .int a5), (6, .int a6), (7, .int a7)] → W p l e R s m args below meth c H locs 0 0 (MQ below (xQ E A (some (.int res)) σ τ) args s 0 0 A) (F0 m 21 ls [])) (a1 : Int32) (a2 : Int32) (a5 : Int32) (a6 : Int32) (a7 : Int32) (res : Int32) (hf : fM_matches_118 N rec21 τ a1 a2 a5 a6 a7 = some res) (H : Heap) (locs : List Loc) (ls : Array Slot) (hw : xW E A s σ τ H locs) (hl : lv_has ls 10 [(0, .ref (E.2.2.1 30 0)), (1, .int a1), (2, .int a2), (5, .int a5), (6, .int a6), (7, .int a7)]) : W p l e R s m args below meth c H locs 0 0 (MQ below (xQ E A (some (.int res)) σ τ) args s 0 0 A) (F0 m 118 ls []) := by
  have hx := C.1
  have hb := C.2.1
  unfold fM_matches_118 at hf
  refine lv_iconst (v := 1) hx hb dM_matches_118 (by decide) ?_
  refine lv_goto (tgt := 123) hx hb dM_matches_119 (by decide) ?_
  exact wM_matches_123 C N τ rec21 hrec21 a1 a2 a5 a6 a7 1 res hf H locs ls hw (lv_sub hl [0, 1, 2, 3, 4, 5] rfl)
set_option maxHeartbeats 4000000 in
set_option maxRecDepth 100000 in
theorem wM_matches_105 {p : Program} {l : Launch} {e : Env} {R : Room} {s : State} {m : MethodId} {args : Array Value} {below : List Frame} {meth : Method} {c : Code} {E : xE} {A : Nat → Prop} {σ : xS} (C : xC p s m args meth c R E A bM_matches 10 yM_matches (some .boolean) 0 0 0) (N : Nat) (τ : yS) (rec21 : Int32 → Int32 → Int32 → Int32 → Int32 → Int32 → Int32 → Option (Int32)) (hrec21 : ∀ (a1 : Int32) (a2 : Int32) (a3 : Int32) (a4 : Int32) (a5 : Int32) (a6 : Int32) (a7 : Int32) (res : Int32), rec21 a1 a2 a3 a4 a5 a6 a7 = some res → ∀ (H : Heap) (locs : List Loc) (ls : Array Slot), xW E A s σ τ H locs → lv_has ls 10 [(0, .ref (E.2.2.1 30 0)), (1, .int a1), (2, .int a2), (3, .int a3), (4, .int a4), (5, .int a5), (6, .int a6), (7, .int a7)] → W p l e R s m args below meth c H locs 0 0 (MQ below (xQ E A (some (.int res)) σ τ) args s 0 0 A) (F0 m 21 ls [])) (a1 : Int32) (a2 : Int32) (a5 : Int32) (a6 : Int32) (a7 : Int32) (res : Int32) (hf : fM_matches_105 N rec21 τ a1 a2 a5 a6 a7 = some res) (H : Heap) (locs : List Loc) (ls : Array Slot) (hw : xW E A s σ τ H locs) (hl : lv_has ls 10 [(0, .ref (E.2.2.1 30 0)), (1, .int a1), (2, .int a2), (5, .int a5), (6, .int a6), (7, .int a7)]) : W p l e R s m args below meth c H locs 0 0 (MQ below (xQ E A (some (.int res)) σ τ) args s 0 0 A) (F0 m 105 ls []) := by
  have hx := C.1
  have hb := C.2.1
  unfold fM_matches_105 at hf
  refine lv_iconst (v := 0) hx hb dM_matches_105 (by decide) ?_
  refine lv_goto (tgt := 123) hx hb dM_matches_106 (by decide) ?_
  exact wM_matches_123 C N τ rec21 hrec21 a1 a2 a5 a6 a7 0 res hf H locs ls hw (lv_sub hl [0, 1, 2, 3, 4, 5] rfl)
set_option maxHeartbeats 4000000 in
set_option maxRecDepth 100000 in
theorem wM_matches_86 {p : Program} {l : Launch} {e : Env} {R : Room} {s : State} {m : MethodId} {args : Array Value} {below : List Frame} {meth : Method} {c : Code} {E : xE} {A : Nat → Prop} {σ : xS} (C : xC p s m args meth c R E A bM_matches 10 yM_matches (some .boolean) 0 0 0) (N : Nat) (τ : yS) (rec21 : Int32 → Int32 → Int32 → Int32 → Int32 → Int32 → Int32 → Option (Int32)) (hrec21 : ∀ (a1 : Int32) (a2 : Int32) (a3 : Int32) (a4 : Int32) (a5 : Int32) (a6 : Int32) (a7 : Int32) (res : Int32), rec21 a1 a2 a3 a4 a5 a6 a7 = some res → ∀ (H : Heap) (locs : List Loc) (ls : Array Slot), xW E A s σ τ H locs → lv_has ls 10 [(0, .ref (E.2.2.1 30 0)), (1, .int a1), (2, .int a2), (3, .int a3), (4, .int a4), (5, .int a5), (6, .int a6), (7, .int a7)] → W p l e R s m args below meth c H locs 0 0 (MQ below (xQ E A (some (.int res)) σ τ) args s 0 0 A) (F0 m 21 ls [])) (a1 : Int32) (a2 : Int32) (a3 : Int32) (a4 : Int32) (a5 : Int32) (a6 : Int32) (a7 : Int32) (a8 : Int32) (res : Int32) (hf : fM_matches_86 N rec21 τ a1 a2 a3 a4 a5 a6 a7 a8 = some res) (H : Heap) (locs : List Loc) (ls : Array Slot) (hw : xW E A s σ τ H locs) (hl : lv_has ls 10 [(0, .ref (E.2.2.1 30 0)), (1, .int a1), (2, .int a2), (3, .int a3), (4, .int a4), (5, .int a5), (6, .int a6), (7, .int a7), (8, .int a8)]) : W p l e R s m args below meth c H locs 0 0 (MQ below (xQ E A (some (.int res)) σ τ) args s 0 0 A) (F0 m 86 ls []) := by
  have hx := C.1
  have hb := C.2.1
  unfold fM_matches_86 at hf
  refine lv_iload hx hb dM_matches_86 (lv_at hl 8 rfl) ?_
  refine lv_iconst (v := 4) hx hb dM_matches_88 (by decide) ?_
  refine lv_icmp_ne (tgt := 109) hx hb dM_matches_89 (by decide) (fun c19 => ?_) (fun c19 => ?_)
  · replace hf := x_in c19 hf
    refine lv_iload_n hx hb dM_matches_109 rfl (lv_at hl 3 rfl) ?_
    refine lv_if_ne (tgt := 118) hx hb dM_matches_110 (by decide) (fun c20 => ?_) (fun c20 => ?_)
    · replace hf := x_in c20 hf
      exact wM_matches_118 C N τ rec21 hrec21 a1 a2 a5 a6 a7 res hf H locs ls hw (lv_sub hl [0, 1, 2, 5, 6, 7] rfl)
    · replace hf := x_ip c20 hf
      refine lv_iload hx hb dM_matches_113 (lv_at hl 4 rfl) ?_
      refine lv_if_eq (tgt := 122) hx hb dM_matches_115 (by decide) (fun c21 => ?_) (fun c21 => ?_)
      · replace hf := x_ip c21 hf
        refine lv_iconst (v := 0) hx hb dM_matches_122 (by decide) ?_
        exact wM_matches_123 C N τ rec21 hrec21 a1 a2 a5 a6 a7 0 res hf H locs ls hw (lv_sub hl [0, 1, 2, 5, 6, 7] rfl)
      · replace hf := x_in c21 hf
        exact wM_matches_118 C N τ rec21 hrec21 a1 a2 a5 a6 a7 res hf H locs ls hw (lv_sub hl [0, 1, 2, 5, 6, 7] rfl)
  · replace hf := x_ip c19 hf
    refine lv_iload_n hx hb dM_matches_92 rfl (lv_at hl 3 rfl) ?_
    refine lv_if_eq (tgt := 105) hx hb dM_matches_93 (by decide) (fun c22 => ?_) (fun c22 => ?_)
    · replace hf := x_ip c22 hf
      exact wM_matches_105 C N τ rec21 hrec21 a1 a2 a5 a6 a7 res hf H locs ls hw (lv_sub hl [0, 1, 2, 5, 6, 7] rfl)
    · replace hf := x_in c22 hf
      refine lv_iload hx hb dM_matches_96 (lv_at hl 4 rfl) ?_
      refine lv_if_eq (tgt := 105) hx hb dM_matches_98 (by decide) (fun c23 => ?_) (fun c23 => ?_)
      · replace hf := x_ip c23 hf
        exact wM_matches_105 C N τ rec21 hrec21 a1 a2 a5 a6 a7 res hf H locs ls hw (lv_sub hl [0, 1, 2, 5, 6, 7] rfl)
      · replace hf := x_in c23 hf
        refine lv_iconst (v := 1) hx hb dM_matches_101 (by decide) ?_
        refine lv_goto (tgt := 123) hx hb dM_matches_102 (by decide) ?_
        exact wM_matches_123 C N τ rec21 hrec21 a1 a2 a5 a6 a7 1 res hf H locs ls hw (lv_sub hl [0, 1, 2, 5, 6, 7] rfl)
set_option maxHeartbeats 4000000 in
set_option maxRecDepth 100000 in
theorem wM_matches_203 {p : Program} {l : Launch} {e : Env} {R : Room} {s : State} {m : MethodId} {args : Array Value} {below : List Frame} {meth : Method} {c : Code} {E : xE} {A : Nat → Prop} {σ : xS} (C : xC p s m args meth c R E A bM_matches 10 yM_matches (some .boolean) 0 0 0) (N : Nat) (τ : yS) (rec21 : Int32 → Int32 → Int32 → Int32 → Int32 → Int32 → Int32 → Option (Int32)) (hrec21 : ∀ (a1 : Int32) (a2 : Int32) (a3 : Int32) (a4 : Int32) (a5 : Int32) (a6 : Int32) (a7 : Int32) (res : Int32), rec21 a1 a2 a3 a4 a5 a6 a7 = some res → ∀ (H : Heap) (locs : List Loc) (ls : Array Slot), xW E A s σ τ H locs → lv_has ls 10 [(0, .ref (E.2.2.1 30 0)), (1, .int a1), (2, .int a2), (3, .int a3), (4, .int a4), (5, .int a5), (6, .int a6), (7, .int a7)] → W p l e R s m args below meth c H locs 0 0 (MQ below (xQ E A (some (.int res)) σ τ) args s 0 0 A) (F0 m 21 ls [])) (a1 : Int32) (a2 : Int32) (a4 : Int32) (a5 : Int32) (a6 : Int32) (a7 : Int32) (t0 : Int32) (res : Int32) (hf : fM_matches_203 N rec21 τ a1 a2 a4 a5 a6 a7 t0 = some res) (H : Heap) (locs : List Loc) (ls : Array Slot) (hw : xW E A s σ τ H locs) (hl : lv_has ls 10 [(0, .ref (E.2.2.1 30 0)), (1, .int a1), (2, .int a2), (4, .int a4), (5, .int a5), (6, .int a6), (7, .int a7)]) : W p l e R s m args below meth c H locs 0 0 (MQ below (xQ E A (some (.int res)) σ τ) args s 0 0 A) (F0 m 203 ls [.int t0]) := by
  have hx := C.1
  have hb := C.2.1
  unfold fM_matches_203 at hf
  refine lv_istore_n (lv' := [(3, .int t0), (0, .ref (E.2.2.1 30 0)), (1, .int a1), (2, .int a2), (4, .int a4), (5, .int a5), (6, .int a6), (7, .int a7)]) hx hb dM_matches_203 rfl hl (by decide) rfl (fun ls hl => ?_)
  exact wM_matches_204 C N τ rec21 hrec21 a1 a2 t0 a4 a5 a6 a7 res hf H locs ls hw (lv_sub hl [1, 2, 3, 0, 4, 5, 6, 7] rfl)
set_option maxHeartbeats 4000000 in
set_option maxRecDepth 100000 in
theorem wM_matches_198 {p : Program} {l : Launch} {e : Env} {R : Room} {s : State} {m : MethodId} {args : Array Value} {below : List Frame} {meth : Method} {c : Code} {E : xE} {A : Nat → Prop} {σ : xS} (C : xC p s m args meth c R E A bM_matches 10 yM_matches (some .boolean) 0 0 0) (N : Nat) (τ : yS) (rec21 : Int32 → Int32 → Int32 → Int32 → Int32 → Int32 → Int32 → Option (Int32)) (hrec21 : ∀ (a1 : Int32) (a2 : Int32) (a3 : Int32) (a4 : Int32) (a5 : Int32) (a6 : Int32) (a7 : Int32) (res : Int32), rec21 a1 a2 a3 a4 a5 a6 a7 = some res → ∀ (H : Heap) (locs : List Loc) (ls : Array Slot), xW E A s σ τ H locs → lv_has ls 10 [(0, .ref (E.2.2.1 30 0)), (1, .int a1), (2, .int a2), (3, .int a3), (4, .int a4), (5, .int a5), (6, .int a6), (7, .int a7)] → W p l e R s m args below meth c H locs 0 0 (MQ below (xQ E A (some (.int res)) σ τ) args s 0 0 A) (F0 m 21 ls [])) (a1 : Int32) (a2 : Int32) (a4 : Int32) (a5 : Int32) (a6 : Int32) (a7 : Int32) (res : Int32) (hf : fM_matches_198 N rec21 τ a1 a2 a4 a5 a6 a7 = some res) (H : Heap) (locs : List Loc) (ls : Array Slot) (hw : xW E A s σ τ H locs) (hl : lv_has ls 10 [(0, .ref (E.2.2.1 30 0)), (1, .int a1), (2, .int a2), (4, .int a4), (5, .int a5), (6, .int a6), (7, .int a7)]) : W p l e R s m args below meth c H locs 0 0 (MQ below (xQ E A (some (.int res)) σ τ) args s 0 0 A) (F0 m 198 ls []) := by
  have hx := C.1
  have hb := C.2.1
  unfold fM_matches_198 at hf
  refine lv_iconst (v := 1) hx hb dM_matches_198 (by decide) ?_
  refine lv_goto (tgt := 203) hx hb dM_matches_199 (by decide) ?_
  exact wM_matches_203 C N τ rec21 hrec21 a1 a2 a4 a5 a6 a7 1 res hf H locs ls hw (lv_sub hl [0, 1, 2, 3, 4, 5, 6] rfl)
set_option maxHeartbeats 4000000 in
set_option maxRecDepth 100000 in
theorem wM_matches_70 {p : Program} {l : Launch} {e : Env} {R : Room} {s : State} {m : MethodId} {args : Array Value} {below : List Frame} {meth : Method} {c : Code} {E : xE} {A : Nat → Prop} {σ : xS} (C : xC p s m args meth c R E A bM_matches 10 yM_matches (some .boolean) 0 0 0) (N : Nat) (τ : yS) (rec21 : Int32 → Int32 → Int32 → Int32 → Int32 → Int32 → Int32 → Option (Int32)) (hrec21 : ∀ (a1 : Int32) (a2 : Int32) (a3 : Int32) (a4 : Int32) (a5 : Int32) (a6 : Int32) (a7 : Int32) (res : Int32), rec21 a1 a2 a3 a4 a5 a6 a7 = some res → ∀ (H : Heap) (locs : List Loc) (ls : Array Slot), xW E A s σ τ H locs → lv_has ls 10 [(0, .ref (E.2.2.1 30 0)), (1, .int a1), (2, .int a2), (3, .int a3), (4, .int a4), (5, .int a5), (6, .int a6), (7, .int a7)] → W p l e R s m args below meth c H locs 0 0 (MQ below (xQ E A (some (.int res)) σ τ) args s 0 0 A) (F0 m 21 ls [])) (a1 : Int32) (a2 : Int32) (a4 : Int32) (a5 : Int32) (a6 : Int32) (a7 : Int32) (t0 : Int32) (res : Int32) (hf : fM_matches_70 N rec21 τ a1 a2 a4 a5 a6 a7 t0 = some res) (H : Heap) (locs : List Loc) (ls : Array Slot) (hw : xW E A s σ τ H locs) (hl : lv_has ls 10 [(0, .ref (E.2.2.1 30 0)), (1, .int a1), (2, .int a2), (4, .int a4), (5, .int a5), (6, .int a6), (7, .int a7)]) : W p l e R s m args below meth c H locs 0 0 (MQ below (xQ E A (some (.int res)) σ τ) args s 0 0 A) (F0 m 70 ls [.int t0]) := by
  have hx := C.1
  have hb := C.2.1
  unfold fM_matches_70 at hf
  refine lv_istore_n (lv' := [(3, .int t0), (0, .ref (E.2.2.1 30 0)), (1, .int a1), (2, .int a2), (4, .int a4), (5, .int a5), (6, .int a6), (7, .int a7)]) hx hb dM_matches_70 rfl hl (by decide) rfl (fun ls hl => ?_)
  refine lv_goto (tgt := 204) hx hb dM_matches_71 (by decide) ?_
  exact wM_matches_204 C N τ rec21 hrec21 a1 a2 t0 a4 a5 a6 a7 res hf H locs ls hw (lv_sub hl [1, 2, 3, 0, 4, 5, 6, 7] rfl)
set_option maxHeartbeats 4000000 in
set_option maxRecDepth 100000 in
theorem wM_matches_21b {p : Program} {l : Launch} {e : Env} {R : Room} {s : State} {m : MethodId} {args : Array Value} {below : List Frame} {meth : Method} {c : Code} {E : xE} {A : Nat → Prop} {σ : xS} (C : xC p s m args meth c R E A bM_matches 10 yM_matches (some .boolean) 0 0 0) (N : Nat) (τ : yS) (rec21 : Int32 → Int32 → Int32 → Int32 → Int32 → Int32 → Int32 → Option (Int32)) (hrec21 : ∀ (a1 : Int32) (a2 : Int32) (a3 : Int32) (a4 : Int32) (a5 : Int32) (a6 : Int32) (a7 : Int32) (res : Int32), rec21 a1 a2 a3 a4 a5 a6 a7 = some res → ∀ (H : Heap) (locs : List Loc) (ls : Array Slot), xW E A s σ τ H locs → lv_has ls 10 [(0, .ref (E.2.2.1 30 0)), (1, .int a1), (2, .int a2), (3, .int a3), (4, .int a4), (5, .int a5), (6, .int a6), (7, .int a7)] → W p l e R s m args below meth c H locs 0 0 (MQ below (xQ E A (some (.int res)) σ τ) args s 0 0 A) (F0 m 21 ls [])) (a1 : Int32) (a2 : Int32) (a3 : Int32) (a4 : Int32) (a5 : Int32) (a6 : Int32) (a7 : Int32) (res : Int32) (hf : fM_matches_21b N rec21 τ a1 a2 a3 a4 a5 a6 a7 = some res) (H : Heap) (locs : List Loc) (ls : Array Slot) (hw : xW E A s σ τ H locs) (hl : lv_has ls 10 [(0, .ref (E.2.2.1 30 0)), (1, .int a1), (2, .int a2), (3, .int a3), (4, .int a4), (5, .int a5), (6, .int a6), (7, .int a7)]) : W p l e R s m args below meth c H locs 0 0 (MQ below (xQ E A (some (.int res)) σ τ) args s 0 0 A) (F0 m 21 ls []) := by
  have hx := C.1
  have hb := C.2.1
  unfold fM_matches_21b at hf
  refine lv_iload hx hb dM_matches_21 (lv_at hl 7 rfl) ?_
  refine lv_if_lt (tgt := 210) hx hb dM_matches_23 (by decide) (fun c24 => ?_) (fun c24 => ?_)
  · replace hf := x_ip c24 hf
    refine lv_iload_n hx hb dM_matches_210 rfl (lv_at hl 3 rfl) ?_
    obtain ⟨g25, hf⟩ := x_g hf
    obtain rfl := Option.some.inj hf
    exact x_zret C hw (x_nz g25) dM_matches_211
  · replace hf := x_in c24 hf
    refine lv_aload_n hx hb dM_matches_26 rfl (lv_at hl 0 rfl) ?_
    refine y_get C hw 30 0 6 (v := .ref (E.2.2.1 36 0)) at_30 rfl rfl ⟨by decide, by decide⟩ wM_26 rfl dM_matches_27 ?_
    refine lv_bipush (v := 8) hx hb dM_matches_30 (by decide) ?_
    refine lv_iload_n hx hb dM_matches_32 rfl (lv_at hl 1 rfl) ?_
    refine lv_imul hx hb dM_matches_33 ?_
    refine lv_iload hx hb dM_matches_34 (lv_at hl 7 rfl) ?_
    refine lv_iadd hx hb dM_matches_36 ?_
    obtain ⟨g26, hf⟩ := x_g hf
    refine y_ild C hw 36 0 at_36 rfl g26 dM_matches_37 ?_
    refine lv_istore (lv' := [(8, .int (τ 36 0 (((8 * a1) + a7).toNatClampNeg))), (0, .ref (E.2.2.1 30 0)), (1, .int a1), (2, .int a2), (3, .int a3), (4, .int a4), (5, .int a5), (6, .int a6), (7, .int a7)]) hx hb dM_matches_38 hl (by decide) rfl (fun ls hl => ?_)
    refine lv_aload_n hx hb dM_matches_40 rfl (lv_at hl 1 rfl) ?_
    refine y_get C hw 30 0 7 (v := .ref (E.2.2.1 37 0)) at_30 rfl rfl ⟨by decide, by decide⟩ wM_29 rfl dM_matches_41 ?_
    refine lv_bipush (v := 8) hx hb dM_matches_44 (by decide) ?_
    refine lv_iload_n hx hb dM_matches_46 rfl (lv_at hl 2 rfl) ?_
    refine lv_imul hx hb dM_matches_47 ?_
    refine lv_iload hx hb dM_matches_48 (lv_at hl 8 rfl) ?_
    refine lv_iadd hx hb dM_matches_50 ?_
    refine y_ild C hw 37 0 at_37 rfl g26 dM_matches_51 ?_
    refine lv_istore (lv' := [(9, .int (τ 37 0 (((8 * a1) + a7).toNatClampNeg))), (8, .int (τ 36 0 (((8 * a1) + a7).toNatClampNeg))), (0, .ref (E.2.2.1 30 0)), (1, .int a1), (2, .int a2), (3, .int a3), (4, .int a4), (5, .int a5), (6, .int a6), (7, .int a7)]) hx hb dM_matches_52 hl (by decide) rfl (fun ls hl => ?_)
    refine lv_iload hx hb dM_matches_54 (lv_at hl 1 rfl) ?_
    refine lv_bipush (v := 6) hx hb dM_matches_56 (by decide) ?_
    refine lv_icmp_ne (tgt := 74) hx hb dM_matches_58 (by decide) (fun c27 => ?_) (fun c27 => ?_)
    · replace hf := x_in c27 hf
      refine lv_iload hx hb dM_matches_74 (lv_at hl 1 rfl) ?_
      refine lv_iconst (v := 4) hx hb dM_matches_76 (by decide) ?_
      refine lv_icmp_eq (tgt := 86) hx hb dM_matches_77 (by decide) (fun c28 => ?_) (fun c28 => ?_)
      · replace hf := x_ip c28 hf
        exact wM_matches_86 C N τ rec21 hrec21 a1 a2 a3 a4 a5 a6 a7 (τ 36 0 (((8 * a1) + a7).toNatClampNeg)) res hf H locs ls hw (lv_sub hl [2, 3, 4, 5, 6, 7, 8, 9, 1] rfl)
      · replace hf := x_in c28 hf
        refine lv_iload hx hb dM_matches_80 (lv_at hl 1 rfl) ?_
        refine lv_iconst (v := 5) hx hb dM_matches_82 (by decide) ?_
        refine lv_icmp_ne (tgt := 135) hx hb dM_matches_83 (by decide) (fun c29 => ?_) (fun c29 => ?_)
        · replace hf := x_in c29 hf
          refine lv_iload hx hb dM_matches_135 (lv_at hl 7 rfl) ?_
          refine lv_istore (lv' := [(6, .int a5), (9, .int (τ 37 0 (((8 * a1) + a7).toNatClampNeg))), (8, .int (τ 36 0 (((8 * a1) + a7).toNatClampNeg))), (0, .ref (E.2.2.1 30 0)), (1, .int a1), (2, .int a2), (3, .int a3), (4, .int a4), (5, .int a5), (7, .int a7)]) hx hb dM_matches_137 hl (by decide) rfl (fun ls hl => ?_)
          refine lv_iload hx hb dM_matches_139 (lv_at hl 7 rfl) ?_
          refine lv_istore (lv' := [(5, .int a4), (6, .int a5), (9, .int (τ 37 0 (((8 * a1) + a7).toNatClampNeg))), (8, .int (τ 36 0 (((8 * a1) + a7).toNatClampNeg))), (0, .ref (E.2.2.1 30 0)), (1, .int a1), (2, .int a2), (3, .int a3), (4, .int a4), (7, .int a7)]) hx hb dM_matches_141 hl (by decide) rfl (fun ls hl => ?_)
          refine lv_iload_n hx hb dM_matches_143 rfl (lv_at hl 7 rfl) ?_
          refine lv_istore (lv' := [(4, .int a3), (5, .int a4), (6, .int a5), (9, .int (τ 37 0 (((8 * a1) + a7).toNatClampNeg))), (8, .int (τ 36 0 (((8 * a1) + a7).toNatClampNeg))), (0, .ref (E.2.2.1 30 0)), (1, .int a1), (2, .int a2), (3, .int a3), (7, .int a7)]) hx hb dM_matches_144 hl (by decide) rfl (fun ls hl => ?_)
          refine lv_iload hx hb dM_matches_146 (lv_at hl 4 rfl) ?_
          refine lv_iconst (v := 1) hx hb dM_matches_148 (by decide) ?_
          refine lv_icmp_ne (tgt := 166) hx hb dM_matches_149 (by decide) (fun c30 => ?_) (fun c30 => ?_)
          · replace hf := x_in c30 hf
            refine lv_iload hx hb dM_matches_166 (lv_at hl 4 rfl) ?_
            refine lv_iconst (v := 2) hx hb dM_matches_168 (by decide) ?_
            refine lv_icmp_ne (tgt := 186) hx hb dM_matches_169 (by decide) (fun c31 => ?_) (fun c31 => ?_)
            · replace hf := x_in c31 hf
              refine lv_iload hx hb dM_matches_186 (lv_at hl 4 rfl) ?_
              refine lv_iconst (v := 3) hx hb dM_matches_188 (by decide) ?_
              refine lv_icmp_ne (tgt := 198) hx hb dM_matches_189 (by decide) (fun c32 => ?_) (fun c32 => ?_)
              · replace hf := x_in c32 hf
                exact wM_matches_198 C N τ rec21 hrec21 a1 a2 a3 a4 a5 a7 res hf H locs ls hw (lv_sub hl [5, 6, 7, 0, 1, 2, 9] rfl)
              · replace hf := x_ip c32 hf
                refine lv_iload_n hx hb dM_matches_192 rfl (lv_at hl 7 rfl) ?_
                refine lv_iload hx hb dM_matches_193 (lv_at hl 3 rfl) ?_
                refine lv_icmp_le (tgt := 202) hx hb dM_matches_195 (by decide) (fun c33 => ?_) (fun c33 => ?_)
                · replace hf := x_ip c33 hf
                  refine lv_iconst (v := 0) hx hb dM_matches_202 (by decide) ?_
                  exact wM_matches_203 C N τ rec21 hrec21 a1 a2 a3 a4 a5 a7 0 res hf H locs ls hw (lv_sub hl [5, 6, 7, 0, 1, 2, 9] rfl)
                · replace hf := x_in c33 hf
                  exact wM_matches_198 C N τ rec21 hrec21 a1 a2 a3 a4 a5 a7 res hf H locs ls hw (lv_sub hl [5, 6, 7, 0, 1, 2, 9] rfl)
            · replace hf := x_ip c31 hf
              refine lv_iload_n hx hb dM_matches_172 rfl (lv_at hl 7 rfl) ?_
              refine lv_iload hx hb dM_matches_173 (lv_at hl 3 rfl) ?_
              refine lv_icmp_ge (tgt := 182) hx hb dM_matches_175 (by decide) (fun c34 => ?_) (fun c34 => ?_)
              · replace hf := x_ip c34 hf
                refine lv_iconst (v := 0) hx hb dM_matches_182 (by decide) ?_
                refine lv_goto (tgt := 203) hx hb dM_matches_183 (by decide) ?_
                exact wM_matches_203 C N τ rec21 hrec21 a1 a2 a3 a4 a5 a7 0 res hf H locs ls hw (lv_sub hl [5, 6, 7, 0, 1, 2, 9] rfl)
              · replace hf := x_in c34 hf
                refine lv_iconst (v := 1) hx hb dM_matches_178 (by decide) ?_
                refine lv_goto (tgt := 203) hx hb dM_matches_179 (by decide) ?_
                exact wM_matches_203 C N τ rec21 hrec21 a1 a2 a3 a4 a5 a7 1 res hf H locs ls hw (lv_sub hl [5, 6, 7, 0, 1, 2, 9] rfl)
          · replace hf := x_ip c30 hf
            refine lv_iload_n hx hb dM_matches_152 rfl (lv_at hl 7 rfl) ?_
            refine lv_iload hx hb dM_matches_153 (lv_at hl 3 rfl) ?_
            refine lv_icmp_ne (tgt := 162) hx hb dM_matches_155 (by decide) (fun c35 => ?_) (fun c35 => ?_)
            · replace hf := x_in c35 hf
              refine lv_iconst (v := 0) hx hb dM_matches_162 (by decide) ?_
              refine lv_goto (tgt := 203) hx hb dM_matches_163 (by decide) ?_
              exact wM_matches_203 C N τ rec21 hrec21 a1 a2 a3 a4 a5 a7 0 res hf H locs ls hw (lv_sub hl [5, 6, 7, 0, 1, 2, 9] rfl)
            · replace hf := x_ip c35 hf
              refine lv_iconst (v := 1) hx hb dM_matches_158 (by decide) ?_
              refine lv_goto (tgt := 203) hx hb dM_matches_159 (by decide) ?_
              exact wM_matches_203 C N τ rec21 hrec21 a1 a2 a3 a4 a5 a7 1 res hf H locs ls hw (lv_sub hl [5, 6, 7, 0, 1, 2, 9] rfl)
        · replace hf := x_ip c29 hf
          exact wM_matches_86 C N τ rec21 hrec21 a1 a2 a3 a4 a5 a6 a7 (τ 36 0 (((8 * a1) + a7).toNatClampNeg)) res hf H locs ls hw (lv_sub hl [2, 3, 4, 5, 6, 7, 8, 9, 1] rfl)
    · replace hf := x_ip c27 hf
      refine lv_iload_n hx hb dM_matches_61 rfl (lv_at hl 5 rfl) ?_
      refine lv_if_ne (tgt := 69) hx hb dM_matches_62 (by decide) (fun c36 => ?_) (fun c36 => ?_)
      · replace hf := x_in c36 hf
        refine lv_iconst (v := 0) hx hb dM_matches_69 (by decide) ?_
        exact wM_matches_70 C N τ rec21 hrec21 a1 a2 a4 a5 a6 a7 0 res hf H locs ls hw (lv_sub hl [2, 3, 4, 6, 7, 8, 9] rfl)
      · replace hf := x_ip c36 hf
        refine lv_iconst (v := 1) hx hb dM_matches_65 (by decide) ?_
        refine lv_goto (tgt := 70) hx hb dM_matches_66 (by decide) ?_
        exact wM_matches_70 C N τ rec21 hrec21 a1 a2 a4 a5 a6 a7 1 res hf H locs ls hw (lv_sub hl [2, 3, 4, 6, 7, 8, 9] rfl)
set_option maxHeartbeats 4000000 in
set_option maxRecDepth 100000 in
theorem wM_matches_21 {p : Program} {l : Launch} {e : Env} {R : Room} {s : State} {m : MethodId} {args : Array Value} {below : List Frame} {meth : Method} {c : Code} {E : xE} {A : Nat → Prop} {σ : xS} (C : xC p s m args meth c R E A bM_matches 10 yM_matches (some .boolean) 0 0 0) (N : Nat) (τ : yS) (n : Nat) : ∀ (a1 : Int32) (a2 : Int32) (a3 : Int32) (a4 : Int32) (a5 : Int32) (a6 : Int32) (a7 : Int32) (res : Int32), fM_matches_21 N τ n a1 a2 a3 a4 a5 a6 a7 = some res → ∀ (H : Heap) (locs : List Loc) (ls : Array Slot), xW E A s σ τ H locs → lv_has ls 10 [(0, .ref (E.2.2.1 30 0)), (1, .int a1), (2, .int a2), (3, .int a3), (4, .int a4), (5, .int a5), (6, .int a6), (7, .int a7)] → W p l e R s m args below meth c H locs 0 0 (MQ below (xQ E A (some (.int res)) σ τ) args s 0 0 A) (F0 m 21 ls []) := by
  induction n with
  | zero => intro a1 a2 a3 a4 a5 a6 a7 res hf; cases hf
  | succ n ih =>
    intro a1 a2 a3 a4 a5 a6 a7 res hf H locs ls hw hl
    exact wM_matches_21b C N τ (fM_matches_21 N τ n) ih a1 a2 a3 a4 a5 a6 a7 res hf H locs ls hw hl
set_option maxHeartbeats 4000000 in
set_option maxRecDepth 100000 in
theorem cM_matches (l : Launch) (E : xE) (N : Nat) (τ : yS) (σ : xS) (a1 : Int32) (a2 : Int32) (res : Int32) (hf : fM_matches N τ a1 a2 = some res) : xM l E yM_matches bM_matches 10 (some .boolean) 0 0 0 [.ref (E.2.2.1 30 0), .int a1, .int a2] σ τ (some (.int res)) σ τ := by
  refine x_met (by decide) (Nat.le_of_ble_eq_true rfl) (fun p e R s m args below meth c A ls H locs C hw hl => ?_)
  have hl : lv_has ls 10 [(0, .ref (E.2.2.1 30 0)), (1, .int a1), (2, .int a2)] := hl
  have hx := C.1
  have hb := C.2.1
  unfold fM_matches at hf
  refine lv_iconst (v := 1) hx hb dM_matches_0 (by decide) ?_
  refine lv_istore_n (lv' := [(3, .int 1), (0, .ref (E.2.2.1 30 0)), (1, .int a1), (2, .int a2)]) hx hb dM_matches_1 rfl hl (by decide) rfl (fun ls hl => ?_)
  refine lv_iconst (v := 1) hx hb dM_matches_2 (by decide) ?_
  refine lv_istore (lv' := [(4, .int 1), (3, .int 1), (0, .ref (E.2.2.1 30 0)), (1, .int a1), (2, .int a2)]) hx hb dM_matches_3 hl (by decide) rfl (fun ls hl => ?_)
  refine lv_iconst (v := 1) hx hb dM_matches_5 (by decide) ?_
  refine lv_istore (lv' := [(5, .int 1), (4, .int 1), (3, .int 1), (0, .ref (E.2.2.1 30 0)), (1, .int a1), (2, .int a2)]) hx hb dM_matches_6 hl (by decide) rfl (fun ls hl => ?_)
  refine lv_iconst (v := 1) hx hb dM_matches_8 (by decide) ?_
  refine lv_istore (lv' := [(6, .int 1), (5, .int 1), (4, .int 1), (3, .int 1), (0, .ref (E.2.2.1 30 0)), (1, .int a1), (2, .int a2)]) hx hb dM_matches_9 hl (by decide) rfl (fun ls hl => ?_)
  refine lv_aload_n hx hb dM_matches_11 rfl (lv_at hl 4 rfl) ?_
  refine y_get C hw 30 0 5 (v := .ref (E.2.2.1 35 0)) at_30 rfl rfl ⟨by decide, by decide⟩ wM_23 rfl dM_matches_12 ?_
  refine lv_iload_n hx hb dM_matches_15 rfl (lv_at hl 5 rfl) ?_
  obtain ⟨g37, hf⟩ := x_g hf
  refine y_ild C hw 35 0 at_35 rfl g37 dM_matches_16 ?_
  refine lv_iconst (v := 1) hx hb dM_matches_17 (by decide) ?_
  refine lv_isub hx hb dM_matches_18 ?_
  refine lv_istore (lv' := [(7, .int ((τ 35 0 a1.toNatClampNeg) - 1)), (6, .int 1), (5, .int 1), (4, .int 1), (3, .int 1), (0, .ref (E.2.2.1 30 0)), (1, .int a1), (2, .int a2)]) hx hb dM_matches_19 hl (by decide) rfl (fun ls hl => ?_)
  exact wM_matches_21 C N τ N a1 a2 1 1 1 1 ((τ 35 0 a1.toNatClampNeg) - 1) res hf H locs ls hw (lv_sub hl [5, 6, 7, 4, 3, 2, 1, 0] rfl)
