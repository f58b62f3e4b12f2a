-- StandInsModel in (III)Z
set_option maxRecDepth 100000 in
theorem dM_in_0 : decode bM_in 0 = .ok (.iload_n 0, 1) := by decide +kernel
set_option maxRecDepth 100000 in
theorem dM_in_1 : decode bM_in 1 = .ok (.iload_n 1, 1) := by decide +kernel
set_option maxRecDepth 100000 in
theorem dM_in_2 : decode bM_in 2 = .ok (.if_icmp .lt 12, 3) := by decide +kernel
set_option maxRecDepth 100000 in
theorem dM_in_5 : decode bM_in 5 = .ok (.iload_n 0, 1) := by decide +kernel
set_option maxRecDepth 100000 in
theorem dM_in_6 : decode bM_in 6 = .ok (.iload_n 2, 1) := by decide +kernel
set_option maxRecDepth 100000 in
theorem dM_in_7 : decode bM_in 7 = .ok (.if_icmp .gt 7, 3) := by decide +kernel
set_option maxRecDepth 100000 in
theorem dM_in_10 : decode bM_in 10 = .ok (.iconst 1, 1) := by decide +kernel
set_option maxRecDepth 100000 in
theorem dM_in_11 : decode bM_in 11 = .ok (.goto 4, 3) := by decide +kernel
set_option maxRecDepth 100000 in
theorem dM_in_14 : decode bM_in 14 = .ok (.iconst 0, 1) := by decide +kernel
set_option maxRecDepth 100000 in
theorem dM_in_15 : decode bM_in 15 = .ok (.ireturn, 1) := by decide +kernel
def fM_in (a0 : Int32) (a1 : Int32) (a2 : Int32) : Int32 :=
  if a0 < a1 then
  (0)
  else
  (if a2 < a0 then
  (0)
  else
  (1))
set_option maxHeartbeats 4000000 in
set_option maxRecDepth 100000 in
theorem cM_in (l : Launch) (E : xE) (τ : yS) (σ : xS) (a0 : Int32) (a1 : Int32) (a2 : Int32) : xM l E yM_in bM_in 3 (some .boolean) 0 0 0 [.int a0, .int a1, .int a2] σ τ (some (.int (fM_in a0 a1 a2))) σ τ := by
  refine x_met (by decide) (Nat.le_of_ble_eq_true rfl) (fun p e R s m args below meth c A ls H locs C hw hl => ?_)
  have hl : lv_has ls 3 [(0, .int a0), (1, .int a1), (2, .int a2)] := hl
  have hx := C.1
  have hb := C.2.1
  obtain ⟨res, hf⟩ : ∃ z, fM_in a0 a1 a2 = z := ⟨_, rfl⟩
  rw [hf]
  unfold fM_in at hf
  refine lv_iload_n hx hb dM_in_0 rfl (lv_at hl 0 rfl) ?_
  refine lv_iload_n hx hb dM_in_1 rfl (lv_at hl 1 rfl) ?_
  refine lv_icmp_lt (tgt := 14) hx hb dM_in_2 (by decide) (fun c1 => ?_) (fun c1 => ?_)
  · replace hf := x_ip c1 hf
    refine lv_iconst (v := 0) hx hb dM_in_14 (by decide) ?_
    obtain rfl := hf
    exact x_zret C hw (x_nz (v := 0) (Or.inl rfl)) dM_in_15
  · replace hf := x_in c1 hf
    refine lv_iload_n hx hb dM_in_5 rfl (lv_at hl 0 rfl) ?_
    refine lv_iload_n hx hb dM_in_6 rfl (lv_at hl 2 rfl) ?_
    refine lv_icmp_gt (tgt := 14) hx hb dM_in_7 (by decide) (fun c2 => ?_) (fun c2 => ?_)
    · replace hf := x_ip c2 hf
      refine lv_iconst (v := 0) hx hb dM_in_14 (by decide) ?_
      obtain rfl := hf
      exact x_zret C hw (x_nz (v := 0) (Or.inl rfl)) dM_in_15
    · replace hf := x_in c2 hf
      refine lv_iconst (v := 1) hx hb dM_in_10 (by decide) ?_
      refine lv_goto (tgt := 15) hx hb dM_in_11 (by decide) ?_
      obtain rfl := hf
      exact x_zret C hw (x_nz (v := 1) (Or.inr rfl)) dM_in_15
theorem zM_in (a0 : Int32) (a1 : Int32) (a2 : Int32) : narrow .boolean (.int (fM_in a0 a1 a2)) = .int (fM_in a0 a1 a2) := by
  unfold fM_in
  (repeat' split) <;> first | rfl | rfl
-- StandInsModel shape (II)I
set_option maxRecDepth 100000 in
theorem dM_shape_0 : decode bM_shape 0 = .ok (.iconst 4, 1) := by decide +kernel
set_option maxRecDepth 100000 in
theorem dM_shape_1 : decode bM_shape 1 = .ok (.aload_n 0, 1) := by decide +kernel
set_option maxRecDepth 100000 in
theorem dM_shape_2 : decode bM_shape 2 = .ok (.getfield 17, 3) := by decide +kernel
set_option maxRecDepth 100000 in
theorem dM_shape_5 : decode bM_shape 5 = .ok (.iload_n 1, 1) := by decide +kernel
set_option maxRecDepth 100000 in
theorem dM_shape_6 : decode bM_shape 6 = .ok (.iaload, 1) := by decide +kernel
set_option maxRecDepth 100000 in
theorem dM_shape_7 : decode bM_shape 7 = .ok (.imul, 1) := by decide +kernel
set_option maxRecDepth 100000 in
theorem dM_shape_8 : decode bM_shape 8 = .ok (.iload_n 2, 1) := by decide +kernel
set_option maxRecDepth 100000 in
theorem dM_shape_9 : decode bM_shape 9 = .ok (.iadd, 1) := by decide +kernel
set_option maxRecDepth 100000 in
theorem dM_shape_10 : decode bM_shape 10 = .ok (.ireturn, 1) := by decide +kernel
def fM_shape (τ : yS) (a1 : Int32) (a2 : Int32) : Option (Int32) :=
  if ¬ (a1 < 0 ∨ 6 ≤ a1.toNatClampNeg) then
  some ((4 * (τ 33 0 a1.toNatClampNeg)) + a2)
  else none
set_option maxHeartbeats 4000000 in
set_option maxRecDepth 100000 in
theorem cM_shape (l : Launch) (E : xE) (τ : yS) (σ : xS) (a1 : Int32) (a2 : Int32) (res : Int32) (hf : fM_shape τ a1 a2 = some res) : xM l E yM_shape bM_shape 3 (some .int) 0 0 0 [.ref (E.2.2.1 30 0), .int a1, .int a2] σ τ (some (.int res)) σ τ := by
  refine x_met (by decide) (Nat.le_of_ble_eq_true rfl) (fun p e R s m args below meth c A ls H locs C hw hl => ?_)
  have hl : lv_has ls 3 [(0, .ref (E.2.2.1 30 0)), (1, .int a1), (2, .int a2)] := hl
  have hx := C.1
  have hb := C.2.1
  unfold fM_shape at hf
  refine lv_iconst (v := 4) hx hb dM_shape_0 (by decide) ?_
  refine lv_aload_n hx hb dM_shape_1 rfl (lv_at hl 0 rfl) ?_
  refine y_get C hw 30 0 2 (v := .ref (E.2.2.1 33 0)) at_30 rfl rfl ⟨by decide, by decide⟩ wM_17 rfl dM_shape_2 ?_
  refine lv_iload_n hx hb dM_shape_5 rfl (lv_at hl 1 rfl) ?_
  obtain ⟨g1, hf⟩ := x_g hf
  refine y_ild C hw 33 0 at_33 rfl g1 dM_shape_6 ?_
  refine lv_imul hx hb dM_shape_7 ?_
  refine lv_iload_n hx hb dM_shape_8 rfl (lv_at hl 2 rfl) ?_
  refine lv_iadd hx hb dM_shape_9 ?_
  obtain rfl := Option.some.inj hf
  exact x_iret C hw dM_shape_10
-- StandInsModel misuse (ZIZZ)I
set_option maxRecDepth 100000 in
theorem dM_misuse_0 : decode bM_misuse 0 = .ok (.iload_n 1, 1) := by decide +kernel
set_option maxRecDepth 100000 in
theorem dM_misuse_1 : decode bM_misuse 1 = .ok (.ifCond .ne 15, 3) := by decide +kernel
set_option maxRecDepth 100000 in
theorem dM_misuse_4 : decode bM_misuse 4 = .ok (.iload_n 2, 1) := by decide +kernel
set_option maxRecDepth 100000 in
theorem dM_misuse_5 : decode bM_misuse 5 = .ok (.ifCond .lt 15, 3) := by decide +kernel
set_option maxRecDepth 100000 in
theorem dM_misuse_8 : decode bM_misuse 8 = .ok (.iload_n 2, 1) := by decide +kernel
set_option maxRecDepth 100000 in
theorem dM_misuse_9 : decode bM_misuse 9 = .ok (.aload_n 0, 1) := by decide +kernel
set_option maxRecDepth 100000 in
theorem dM_misuse_10 : decode bM_misuse 10 = .ok (.getfield 87, 3) := by decide +kernel
set_option maxRecDepth 100000 in
theorem dM_misuse_13 : decode bM_misuse 13 = .ok (.if_icmp .ne 7, 3) := by decide +kernel
set_option maxRecDepth 100000 in
theorem dM_misuse_16 : decode bM_misuse 16 = .ok (.iconst 1, 1) := by decide +kernel
set_option maxRecDepth 100000 in
theorem dM_misuse_17 : decode bM_misuse 17 = .ok (.goto 4, 3) := by decide +kernel
set_option maxRecDepth 100000 in
theorem dM_misuse_20 : decode bM_misuse 20 = .ok (.iconst 0, 1) := by decide +kernel
set_option maxRecDepth 100000 in
theorem dM_misuse_21 : decode bM_misuse 21 = .ok (.istore 5, 2) := by decide +kernel
set_option maxRecDepth 100000 in
theorem dM_misuse_23 : decode bM_misuse 23 = .ok (.iconst 0, 1) := by decide +kernel
set_option maxRecDepth 100000 in
theorem dM_misuse_24 : decode bM_misuse 24 = .ok (.istore 6, 2) := by decide +kernel
set_option maxRecDepth 100000 in
theorem dM_misuse_26 : decode bM_misuse 26 = .ok (.aload_n 0, 1) := by decide +kernel
set_option maxRecDepth 100000 in
theorem dM_misuse_27 : decode bM_misuse 27 = .ok (.getfield 90, 3) := by decide +kernel
set_option maxRecDepth 100000 in
theorem dM_misuse_30 : decode bM_misuse 30 = .ok (.iconst 2, 1) := by decide +kernel
set_option maxRecDepth 100000 in
theorem dM_misuse_31 : decode bM_misuse 31 = .ok (.if_icmp .eq 11, 3) := by decide +kernel
set_option maxRecDepth 100000 in
theorem dM_misuse_34 : decode bM_misuse 34 = .ok (.aload_n 0, 1) := by decide +kernel
set_option maxRecDepth 100000 in
theorem dM_misuse_35 : decode bM_misuse 35 = .ok (.getfield 90, 3) := by decide +kernel
set_option maxRecDepth 100000 in
theorem dM_misuse_38 : decode bM_misuse 38 = .ok (.iconst 3, 1) := by decide +kernel
set_option maxRecDepth 100000 in
theorem dM_misuse_39 : decode bM_misuse 39 = .ok (.if_icmp .ne 8, 3) := by decide +kernel
set_option maxRecDepth 100000 in
theorem dM_misuse_42 : decode bM_misuse 42 = .ok (.iload 5, 2) := by decide +kernel
set_option maxRecDepth 100000 in
theorem dM_misuse_44 : decode bM_misuse 44 = .ok (.ifCond .eq 29, 3) := by decide +kernel
set_option maxRecDepth 100000 in
theorem dM_misuse_47 : decode bM_misuse 47 = .ok (.aload_n 0, 1) := by decide +kernel
set_option maxRecDepth 100000 in
theorem dM_misuse_48 : decode bM_misuse 48 = .ok (.getfield 90, 3) := by decide +kernel
set_option maxRecDepth 100000 in
theorem dM_misuse_51 : decode bM_misuse 51 = .ok (.iconst 4, 1) := by decide +kernel
set_option maxRecDepth 100000 in
theorem dM_misuse_52 : decode bM_misuse 52 = .ok (.if_icmp .ne 28, 3) := by decide +kernel
set_option maxRecDepth 100000 in
theorem dM_misuse_55 : decode bM_misuse 55 = .ok (.aload_n 0, 1) := by decide +kernel
set_option maxRecDepth 100000 in
theorem dM_misuse_56 : decode bM_misuse 56 = .ok (.getfield 59, 3) := by decide +kernel
set_option maxRecDepth 100000 in
theorem dM_misuse_59 : decode bM_misuse 59 = .ok (.aload_n 0, 1) := by decide +kernel
set_option maxRecDepth 100000 in
theorem dM_misuse_60 : decode bM_misuse 60 = .ok (.getfield 93, 3) := by decide +kernel
set_option maxRecDepth 100000 in
theorem dM_misuse_63 : decode bM_misuse 63 = .ok (.iconst 1, 1) := by decide +kernel
set_option maxRecDepth 100000 in
theorem dM_misuse_64 : decode bM_misuse 64 = .ok (.isub, 1) := by decide +kernel
set_option maxRecDepth 100000 in
theorem dM_misuse_65 : decode bM_misuse 65 = .ok (.iaload, 1) := by decide +kernel
set_option maxRecDepth 100000 in
theorem dM_misuse_66 : decode bM_misuse 66 = .ok (.ifCond .ne 14, 3) := by decide +kernel
set_option maxRecDepth 100000 in
theorem dM_misuse_69 : decode bM_misuse 69 = .ok (.iload_n 3, 1) := by decide +kernel
set_option maxRecDepth 100000 in
theorem dM_misuse_70 : decode bM_misuse 70 = .ok (.ifCond .ne 10, 3) := by decide +kernel
set_option maxRecDepth 100000 in
theorem dM_misuse_73 : decode bM_misuse 73 = .ok (.bipush (-3), 2) := by decide +kernel
set_option maxRecDepth 100000 in
theorem dM_misuse_75 : decode bM_misuse 75 = .ok (.istore 6, 2) := by decide +kernel
set_option maxRecDepth 100000 in
theorem dM_misuse_77 : decode bM_misuse 77 = .ok (.goto 34, 3) := by decide +kernel
set_option maxRecDepth 100000 in
theorem dM_misuse_80 : decode bM_misuse 80 = .ok (.aload_n 0, 1) := by decide +kernel
set_option maxRecDepth 100000 in
theorem dM_misuse_81 : decode bM_misuse 81 = .ok (.getfield 96, 3) := by decide +kernel
set_option maxRecDepth 100000 in
theorem dM_misuse_84 : decode bM_misuse 84 = .ok (.ifCond .le 18, 3) := by decide +kernel
set_option maxRecDepth 100000 in
theorem dM_misuse_87 : decode bM_misuse 87 = .ok (.iload_n 1, 1) := by decide +kernel
set_option maxRecDepth 100000 in
theorem dM_misuse_88 : decode bM_misuse 88 = .ok (.ifCond .ne 14, 3) := by decide +kernel
set_option maxRecDepth 100000 in
theorem dM_misuse_91 : decode bM_misuse 91 = .ok (.iload_n 2, 1) := by decide +kernel
set_option maxRecDepth 100000 in
theorem dM_misuse_92 : decode bM_misuse 92 = .ok (.ifCond .ge 10, 3) := by decide +kernel
set_option maxRecDepth 100000 in
theorem dM_misuse_95 : decode bM_misuse 95 = .ok (.bipush (-4), 2) := by decide +kernel
set_option maxRecDepth 100000 in
theorem dM_misuse_97 : decode bM_misuse 97 = .ok (.istore 6, 2) := by decide +kernel
set_option maxRecDepth 100000 in
theorem dM_misuse_99 : decode bM_misuse 99 = .ok (.goto 12, 3) := by decide +kernel
set_option maxRecDepth 100000 in
theorem dM_misuse_102 : decode bM_misuse 102 = .ok (.iload 4, 2) := by decide +kernel
set_option maxRecDepth 100000 in
theorem dM_misuse_104 : decode bM_misuse 104 = .ok (.ifCond .eq 7, 3) := by decide +kernel
set_option maxRecDepth 100000 in
theorem dM_misuse_107 : decode bM_misuse 107 = .ok (.bipush (-5), 2) := by decide +kernel
set_option maxRecDepth 100000 in
theorem dM_misuse_109 : decode bM_misuse 109 = .ok (.istore 6, 2) := by decide +kernel
set_option maxRecDepth 100000 in
theorem dM_misuse_111 : decode bM_misuse 111 = .ok (.iload 6, 2) := by decide +kernel
set_option maxRecDepth 100000 in
theorem dM_misuse_113 : decode bM_misuse 113 = .ok (.ifCond .ne 5, 3) := by decide +kernel
set_option maxRecDepth 100000 in
theorem dM_misuse_116 : decode bM_misuse 116 = .ok (.iconst 0, 1) := by decide +kernel
set_option maxRecDepth 100000 in
theorem dM_misuse_117 : decode bM_misuse 117 = .ok (.ireturn, 1) := by decide +kernel
set_option maxRecDepth 100000 in
theorem dM_misuse_118 : decode bM_misuse 118 = .ok (.aload_n 0, 1) := by decide +kernel
set_option maxRecDepth 100000 in
theorem dM_misuse_119 : decode bM_misuse 119 = .ok (.getfield 90, 3) := by decide +kernel
set_option maxRecDepth 100000 in
theorem dM_misuse_122 : decode bM_misuse 122 = .ok (.iconst 4, 1) := by decide +kernel
set_option maxRecDepth 100000 in
theorem dM_misuse_123 : decode bM_misuse 123 = .ok (.if_icmp .ne 29, 3) := by decide +kernel
set_option maxRecDepth 100000 in
theorem dM_misuse_126 : decode bM_misuse 126 = .ok (.aload_n 0, 1) := by decide +kernel
set_option maxRecDepth 100000 in
theorem dM_misuse_127 : decode bM_misuse 127 = .ok (.getfield 59, 3) := by decide +kernel
set_option maxRecDepth 100000 in
theorem dM_misuse_130 : decode bM_misuse 130 = .ok (.aload_n 0, 1) := by decide +kernel
set_option maxRecDepth 100000 in
theorem dM_misuse_131 : decode bM_misuse 131 = .ok (.getfield 93, 3) := by decide +kernel
set_option maxRecDepth 100000 in
theorem dM_misuse_134 : decode bM_misuse 134 = .ok (.iconst 1, 1) := by decide +kernel
set_option maxRecDepth 100000 in
theorem dM_misuse_135 : decode bM_misuse 135 = .ok (.isub, 1) := by decide +kernel
set_option maxRecDepth 100000 in
theorem dM_misuse_136 : decode bM_misuse 136 = .ok (.iaload, 1) := by decide +kernel
set_option maxRecDepth 100000 in
theorem dM_misuse_137 : decode bM_misuse 137 = .ok (.ifCond .ne 15, 3) := by decide +kernel
set_option maxRecDepth 100000 in
theorem dM_misuse_140 : decode bM_misuse 140 = .ok (.aload_n 0, 1) := by decide +kernel
set_option maxRecDepth 100000 in
theorem dM_misuse_141 : decode bM_misuse 141 = .ok (.getfield 71, 3) := by decide +kernel
set_option maxRecDepth 100000 in
theorem dM_misuse_144 : decode bM_misuse 144 = .ok (.aload_n 0, 1) := by decide +kernel
set_option maxRecDepth 100000 in
theorem dM_misuse_145 : decode bM_misuse 145 = .ok (.getfield 93, 3) := by decide +kernel
set_option maxRecDepth 100000 in
theorem dM_misuse_148 : decode bM_misuse 148 = .ok (.iconst 1, 1) := by decide +kernel
set_option maxRecDepth 100000 in
theorem dM_misuse_149 : decode bM_misuse 149 = .ok (.isub, 1) := by decide +kernel
set_option maxRecDepth 100000 in
theorem dM_misuse_150 : decode bM_misuse 150 = .ok (.iconst 1, 1) := by decide +kernel
set_option maxRecDepth 100000 in
theorem dM_misuse_151 : decode bM_misuse 151 = .ok (.bastore, 1) := by decide +kernel
set_option maxRecDepth 100000 in
theorem dM_misuse_152 : decode bM_misuse 152 = .ok (.aload_n 0, 1) := by decide +kernel
set_option maxRecDepth 100000 in
theorem dM_misuse_153 : decode bM_misuse 153 = .ok (.iconst 0, 1) := by decide +kernel
set_option maxRecDepth 100000 in
theorem dM_misuse_154 : decode bM_misuse 154 = .ok (.putfield 96, 3) := by decide +kernel
set_option maxRecDepth 100000 in
theorem dM_misuse_157 : decode bM_misuse 157 = .ok (.aload_n 0, 1) := by decide +kernel
set_option maxRecDepth 100000 in
theorem dM_misuse_158 : decode bM_misuse 158 = .ok (.iconst 0, 1) := by decide +kernel
set_option maxRecDepth 100000 in
theorem dM_misuse_159 : decode bM_misuse 159 = .ok (.putfield 90, 3) := by decide +kernel
set_option maxRecDepth 100000 in
theorem dM_misuse_162 : decode bM_misuse 162 = .ok (.aload_n 0, 1) := by decide +kernel
set_option maxRecDepth 100000 in
theorem dM_misuse_163 : decode bM_misuse 163 = .ok (.getfield 59, 3) := by decide +kernel
set_option maxRecDepth 100000 in
theorem dM_misuse_166 : decode bM_misuse 166 = .ok (.bipush 16, 2) := by decide +kernel
set_option maxRecDepth 100000 in
theorem dM_misuse_168 : decode bM_misuse 168 = .ok (.iconst 0, 1) := by decide +kernel
set_option maxRecDepth 100000 in
theorem dM_misuse_169 : decode bM_misuse 169 = .ok (.iastore, 1) := by decide +kernel
set_option maxRecDepth 100000 in
theorem dM_misuse_170 : decode bM_misuse 170 = .ok (.aload_n 0, 1) := by decide +kernel
set_option maxRecDepth 100000 in
theorem dM_misuse_171 : decode bM_misuse 171 = .ok (.dup, 1) := by decide +kernel
set_option maxRecDepth 100000 in
theorem dM_misuse_172 : decode bM_misuse 172 = .ok (.getfield 99, 3) := by decide +kernel
set_option maxRecDepth 100000 in
theorem dM_misuse_175 : decode bM_misuse 175 = .ok (.iconst 1, 1) := by decide +kernel
set_option maxRecDepth 100000 in
theorem dM_misuse_176 : decode bM_misuse 176 = .ok (.iadd, 1) := by decide +kernel
set_option maxRecDepth 100000 in
theorem dM_misuse_177 : decode bM_misuse 177 = .ok (.putfield 99, 3) := by decide +kernel
set_option maxRecDepth 100000 in
theorem dM_misuse_180 : decode bM_misuse 180 = .ok (.iload 6, 2) := by decide +kernel
set_option maxRecDepth 100000 in
theorem dM_misuse_182 : decode bM_misuse 182 = .ok (.ireturn, 1) := by decide +kernel
def fM_misuse_152 (τ : yS) (a6 : Int32) : Option (Int32 × yS) :=
  xl (y_si τ 30 0 8 0) fun s22 =>
  xl (y_si s22 30 0 9 0) fun s23 =>
  xl (y_si s23 47 0 ((16 : Int32).toNatClampNeg) 0) fun s24 =>
  xl (y_si s24 30 0 30 ((s24 30 0 30) + 1)) fun s25 =>
  some (a6, s25)
def fM_misuse_111 (τ : yS) (a6 : Int32) : Option (Int32 × yS) :=
  if a6 = 0 then
  (some (0, τ))
  else
  (if (τ 30 0 9) = 4 then
  (if ¬ (((τ 30 0 29) - 1) < 0 ∨ 17 ≤ ((τ 30 0 29) - 1).toNatClampNeg) then
  if (τ 47 0 (((τ 30 0 29) - 1).toNatClampNeg)) = 0 then
  (if ¬ (((τ 30 0 29) - 1) < 0 ∨ 16 ≤ ((τ 30 0 29) - 1).toNatClampNeg) then
  xl (y_si τ 51 0 (((τ 30 0 29) - 1).toNatClampNeg) 1) fun s31 =>
  fM_misuse_152 s31 a6
  else none)
  else
  (fM_misuse_152 τ a6)
  else none)
  else
  (fM_misuse_152 τ a6))
def fM_misuse_73 (τ : yS) : Option (Int32 × yS) :=
  fM_misuse_111 τ (-3)
def fM_misuse_102 (τ : yS) (a4 : Int32) (a6 : Int32) : Option (Int32 × yS) :=
  if a4 = 0 then
  (fM_misuse_111 τ a6)
  else
  (fM_misuse_111 τ (-5))
def fM_misuse_80 (τ : yS) (a1 : Int32) (a2 : Int32) (a4 : Int32) (a6 : Int32) : Option (Int32 × yS) :=
  if (τ 30 0 8) ≤ 0 then
  (fM_misuse_102 τ a4 a6)
  else
  (if a1 = 0 then
  (if 0 ≤ a2 then
  (fM_misuse_102 τ a4 a6)
  else
  (fM_misuse_111 τ (-4)))
  else
  (fM_misuse_102 τ a4 a6))
def fM_misuse_47 (τ : yS) (a1 : Int32) (a2 : Int32) (a3 : Int32) (a4 : Int32) (a6 : Int32) : Option (Int32 × yS) :=
  if (τ 30 0 9) = 4 then
  (if ¬ (((τ 30 0 29) - 1) < 0 ∨ 17 ≤ ((τ 30 0 29) - 1).toNatClampNeg) then
  if (τ 47 0 (((τ 30 0 29) - 1).toNatClampNeg)) = 0 then
  (if a3 = 0 then
  (fM_misuse_73 τ)
  else
  (fM_misuse_80 τ a1 a2 a4 a6))
  else
  (fM_misuse_80 τ a1 a2 a4 a6)
  else none)
  else
  (fM_misuse_80 τ a1 a2 a4 a6)
def fM_misuse_42 (τ : yS) (a1 : Int32) (a2 : Int32) (a3 : Int32) (a4 : Int32) (a5 : Int32) (a6 : Int32) : Option (Int32 × yS) :=
  if a5 = 0 then
  (fM_misuse_73 τ)
  else
  (fM_misuse_47 τ a1 a2 a3 a4 a6)
def fM_misuse_21 (τ : yS) (a1 : Int32) (a2 : Int32) (a3 : Int32) (a4 : Int32) (t0 : Int32) : Option (Int32 × yS) :=
  if (τ 30 0 9) = 2 then
  (fM_misuse_42 τ a1 a2 a3 a4 t0 0)
  else
  (if (τ 30 0 9) = 3 then
  (fM_misuse_42 τ a1 a2 a3 a4 t0 0)
  else
  (fM_misuse_47 τ a1 a2 a3 a4 0))
def fM_misuse_16 (τ : yS) (a1 : Int32) (a2 : Int32) (a3 : Int32) (a4 : Int32) : Option (Int32 × yS) :=
  fM_misuse_21 τ a1 a2 a3 a4 1
def fM_misuse_20 (τ : yS) (a1 : Int32) (a2 : Int32) (a3 : Int32) (a4 : Int32) : Option (Int32 × yS) :=
  fM_misuse_21 τ a1 a2 a3 a4 0
def fM_misuse (τ : yS) (a1 : Int32) (a2 : Int32) (a3 : Int32) (a4 : Int32) : Option (Int32 × yS) :=
  if a1 = 0 then
  (if a2 < 0 then
  (fM_misuse_20 τ a1 a2 a3 a4)
  else
  (if a2 = (τ 30 0 10) then
  (fM_misuse_16 τ a1 a2 a3 a4)
  else
  (fM_misuse_20 τ a1 a2 a3 a4)))
  else
  (fM_misuse_16 τ a1 a2 a3 a4)
set_option maxHeartbeats 4000000 in
set_option maxRecDepth 100000 in
theorem wM_misuse_152 {p : Program} {l : Launch} {e : Env} {R : Room} {s : State} {m : MethodId} {args : Array Value} {below : List Frame} {meth : Method} {c : Code} {E : xE} {A : Nat → Prop} {σ : xS} (C : xC p s m args meth c R E A bM_misuse 7 yM_misuse (some .int) 0 0 0) (τ : yS) (a6 : Int32) (res : Int32 × yS) (hf : fM_misuse_152 τ a6 = some res) (H : Heap) (locs : List Loc) (ls : Array Slot) (hw : xW E A s σ τ H locs) (hl : lv_has ls 7 [(0, .ref (E.2.2.1 30 0)), (6, .int a6)]) : W p l e R s m args below meth c H locs 0 0 (MQ below (xQ E A (some (.int res.1)) σ res.2) args s 0 0 A) (F0 m 152 ls []) := by
  have hx := C.1
  have hb := C.2.1
  unfold fM_misuse_152 at hf
  refine lv_aload_n hx hb dM_misuse_152 rfl (lv_at hl 0 rfl) ?_
  refine lv_iconst (v := 0) hx hb dM_misuse_153 (by decide) ?_
  refine y_puti C hw 30 0 8 at_30 rfl rfl rfl ⟨rfl, rfl⟩ ⟨by decide, by decide⟩ (Nat.le_of_ble_eq_true rfl) wM_96 dM_misuse_154 (fun H locs hw => ?_)
  obtain ⟨s22, es22, hf⟩ := x_l hf
  rw [← es22] at hw
  refine lv_aload_n hx hb dM_misuse_157 rfl (lv_at hl 0 rfl) ?_
  refine lv_iconst (v := 0) hx hb dM_misuse_158 (by decide) ?_
  refine y_puti C hw 30 0 9 at_30 rfl rfl rfl ⟨rfl, rfl⟩ ⟨by decide, by decide⟩ (Nat.le_of_ble_eq_true rfl) wM_90 dM_misuse_159 (fun H locs hw => ?_)
  obtain ⟨s23, es23, hf⟩ := x_l hf
  rw [← es23] at hw
  refine lv_aload_n hx hb dM_misuse_162 rfl (lv_at hl 0 rfl) ?_
  refine y_get C hw 30 0 24 (v := .ref (E.2.2.1 47 0)) at_30 rfl rfl ⟨by decide, by decide⟩ wM_59 rfl dM_misuse_163 ?_
  refine lv_bipush (v := 16) hx hb dM_misuse_166 (by decide) ?_
  refine lv_iconst (v := 0) hx hb dM_misuse_168 (by decide) ?_
  refine y_ist C hw 47 0 at_47 rfl rfl (by decide) dM_misuse_169 (fun H locs hw => ?_)
  obtain ⟨s24, es24, hf⟩ := x_l hf
  rw [← es24] at hw
  refine lv_aload_n hx hb dM_misuse_170 rfl (lv_at hl 0 rfl) ?_
  refine lv_dup hx hb dM_misuse_171 rfl ?_
  refine y_get C hw 30 0 30 (v := .int (s24 30 0 30)) at_30 rfl rfl ⟨by decide, by decide⟩ wM_99 rfl dM_misuse_172 ?_
  refine lv_iconst (v := 1) hx hb dM_misuse_175 (by decide) ?_
  refine lv_iadd hx hb dM_misuse_176 ?_
  refine y_puti C hw 30 0 30 at_30 rfl rfl rfl ⟨rfl, rfl⟩ ⟨by decide, by decide⟩ (Nat.le_of_ble_eq_true rfl) wM_99 dM_misuse_177 (fun H locs hw => ?_)
  obtain ⟨s25, es25, hf⟩ := x_l hf
  rw [← es25] at hw
  refine lv_iload hx hb dM_misuse_180 (lv_at hl 1 rfl) ?_
  obtain rfl := Option.some.inj hf
  exact x_iret C hw dM_misuse_182
set_option maxHeartbeats 4000000 in
set_option maxRecDepth 100000 in
theorem wM_misuse_111 {p : Program} {l : Launch} {e : Env} {R : Room} {s : State} {m : MethodId} {args : Array Value} {below : List Frame} {meth : Method} {c : Code} {E : xE} {A : Nat → Prop} {σ : xS} (C : xC p s m args meth c R E A bM_misuse 7 yM_misuse (some .int) 0 0 0) (τ : yS) (a6 : Int32) (res : Int32 × yS) (hf : fM_misuse_111 τ a6 = some res) (H : Heap) (locs : List Loc) (ls : Array Slot) (hw : xW E A s σ τ H locs) (hl : lv_has ls 7 [(0, .ref (E.2.2.1 30 0)), (6, .int a6)]) : W p l e R s m args below meth c H locs 0 0 (MQ below (xQ E A (some (.int res.1)) σ res.2) args s 0 0 A) (F0 m 111 ls []) := by
  have hx := C.1
  have hb := C.2.1
  unfold fM_misuse_111 at hf
  refine lv_iload hx hb dM_misuse_111 (lv_at hl 1 rfl) ?_
  refine lv_if_ne (tgt := 118) hx hb dM_misuse_113 (by decide) (fun c26 => ?_) (fun c26 => ?_)
  · replace hf := x_in c26 hf
    refine lv_aload_n hx hb dM_misuse_118 rfl (lv_at hl 0 rfl) ?_
    refine y_get C hw 30 0 9 (v := .int (τ 30 0 9)) at_30 rfl rfl ⟨by decide, by decide⟩ wM_90 rfl dM_misuse_119 ?_
    refine lv_iconst (v := 4) hx hb dM_misuse_122 (by decide) ?_
    refine lv_icmp_ne (tgt := 152) hx hb dM_misuse_123 (by decide) (fun c27 => ?_) (fun c27 => ?_)
    · replace hf := x_in c27 hf
      exact wM_misuse_152 C τ a6 res hf H locs ls hw (lv_sub hl [0, 1] rfl)
    · replace hf := x_ip c27 hf
      refine lv_aload_n hx hb dM_misuse_126 rfl (lv_at hl 0 rfl) ?_
      refine y_get C hw 30 0 24 (v := .ref (E.2.2.1 47 0)) at_30 rfl rfl ⟨by decide, by decide⟩ wM_59 rfl dM_misuse_127 ?_
      refine lv_aload_n hx hb dM_misuse_130 rfl (lv_at hl 0 rfl) ?_
      refine y_get C hw 30 0 29 (v := .int (τ 30 0 29)) at_30 rfl rfl ⟨by decide, by decide⟩ wM_93 rfl dM_misuse_131 ?_
      refine lv_iconst (v := 1) hx hb dM_misuse_134 (by decide) ?_
      refine lv_isub hx hb dM_misuse_135 ?_
      obtain ⟨g28, hf⟩ := x_g hf
      refine y_ild C hw 47 0 at_47 rfl g28 dM_misuse_136 ?_
      refine lv_if_ne (tgt := 152) hx hb dM_misuse_137 (by decide) (fun c29 => ?_) (fun c29 => ?_)
      · replace hf := x_in c29 hf
        exact wM_misuse_152 C τ a6 res hf H locs ls hw (lv_sub hl [0, 1] rfl)
      · replace hf := x_ip c29 hf
        refine lv_aload_n hx hb dM_misuse_140 rfl (lv_at hl 0 rfl) ?_
        refine y_get C hw 30 0 28 (v := .ref (E.2.2.1 51 0)) at_30 rfl rfl ⟨by decide, by decide⟩ wM_71 rfl dM_misuse_141 ?_
        refine lv_aload_n hx hb dM_misuse_144 rfl (lv_at hl 0 rfl) ?_
        refine y_get C hw 30 0 29 (v := .int (τ 30 0 29)) at_30 rfl rfl ⟨by decide, by decide⟩ wM_93 rfl dM_misuse_145 ?_
        refine lv_iconst (v := 1) hx hb dM_misuse_148 (by decide) ?_
        refine lv_isub hx hb dM_misuse_149 ?_
        refine lv_iconst (v := 1) hx hb dM_misuse_150 (by decide) ?_
        obtain ⟨g30, hf⟩ := x_g hf
        refine y_zst C hw 51 0 at_51 (by decide) rfl rfl g30 dM_misuse_151 (fun H locs hw => ?_)
        obtain ⟨s31, es31, hf⟩ := x_l hf
        rw [← es31] at hw
        exact wM_misuse_152 C s31 a6 res hf H locs ls hw (lv_sub hl [0, 1] rfl)
  · replace hf := x_ip c26 hf
    refine lv_iconst (v := 0) hx hb dM_misuse_116 (by decide) ?_
    obtain rfl := Option.some.inj hf
    exact x_iret C hw dM_misuse_117
set_option maxHeartbeats 4000000 in
set_option maxRecDepth 100000 in
theorem wM_misuse_73 {p : Program} {l : Launch} {e : Env} {R : Room} {s : State} {m : MethodId} {args : Array Value} {below : List Frame} {meth : Method} {c : Code} {E : xE} {A : Nat → Prop} {σ : xS} (C : xC p s m args meth c R E A bM_misuse 7 yM_misuse (some .int) 0 0 0) (τ : yS) (res : Int32 × yS) (hf : fM_misuse_73 τ = some res) (H : Heap) (locs : List Loc) (ls : Array Slot) (hw : xW E A s σ τ H locs) (hl : lv_has ls 7 [(0, .ref (E.2.2.1 30 0))]) : W p l e R s m args below meth c H locs 0 0 (MQ below (xQ E A (some (.int res.1)) σ res.2) args s 0 0 A) (F0 m 73 ls []) := by
  have hx := C.1
  have hb := C.2.1
  unfold fM_misuse_73 at hf
  refine lv_bipush (v := (-3)) hx hb dM_misuse_73 (by decide) ?_
  refine lv_istore (lv' := [(6, .int (-3)), (0, .ref (E.2.2.1 30 0))]) hx hb dM_misuse_75 hl (by decide) rfl (fun ls hl => ?_)
  refine lv_goto (tgt := 111) hx hb dM_misuse_77 (by decide) ?_
  exact wM_misuse_111 C τ (-3) res hf H locs ls hw (lv_sub hl [1, 0] rfl)
set_option maxHeartbeats 4000000 in
set_option maxRecDepth 100000 in
theorem wM_misuse_102 {p : Program} {l : Launch} {e : Env} {R : Room} {s : State} {m : MethodId} {args : Array Value} {below : List Frame} {meth : Method} {c : Code} {E : xE} {A : Nat → Prop} {σ : xS} (C : xC p s m args meth c R E A bM_misuse 7 yM_misuse (some .int) 0 0 0) (τ : yS) (a4 : Int32) (a6 : Int32) (res : Int32 × yS) (hf : fM_misuse_102 τ a4 a6 = some res) (H : Heap) (locs : List Loc) (ls : Array Slot) (hw : xW E A s σ τ H locs) (hl : lv_has ls 7 [(0, .ref (E.2.2.1 30 0)), (4, .int a4), (6, .int a6)]) : W p l e R s m args below meth c H locs 0 0 (MQ below (xQ E A (some (.int res.1)) σ res.2) args s 0 0 A) (F0 m 102 ls []) := by
  have hx := C.1
  have hb := C.2.1
  unfold fM_misuse_102 at hf
  refine lv_iload hx hb dM_misuse_102 (lv_at hl 1 rfl) ?_
  refine lv_if_eq (tgt := 111) hx hb dM_misuse_104 (by decide) (fun c32 => ?_) (fun c32 => ?_)
  · replace hf := x_ip c32 hf
    exact wM_misuse_111 C τ a6 res hf H locs ls hw (lv_sub hl [0, 2] rfl)
  · replace hf := x_in c32 hf
    refine lv_bipush (v := (-5)) hx hb dM_misuse_107 (by decide) ?_
    refine lv_istore (lv' := [(6, .int (-5)), (0, .ref (E.2.2.1 30 0)), (4, .int a4)]) hx hb dM_misuse_109 hl (by decide) rfl (fun ls hl => ?_)
    exact wM_misuse_111 C τ (-5) res hf H locs ls hw (lv_sub hl [1, 0] rfl)
set_option maxHeartbeats 4000000 in
set_option maxRecDepth 100000 in
theorem wM_misuse_80 {p : Program} {l : Launch} {e : Env} {R : Room} {s : State} {m : MethodId} {args : Array Value} {below : List Frame} {meth : Method} {c : Code} {E : xE} {A : Nat → Prop} {σ : xS} (C : xC p s m args meth c R E A bM_misuse 7 yM_misuse (some .int) 0 0 0) (τ : yS) (a1 : Int32) (a2 : Int32) (a4 : Int32) (a6 : Int32) (res : Int32 × yS) (hf : fM_misuse_80 τ a1 a2 a4 a6 = some res) (H : Heap) (locs : List Loc) (ls : Array Slot) (hw : xW E A s σ τ H locs) (hl : lv_has ls 7 [(0, .ref (E.2.2.1 30 0)), (1, .int a1), (2, .int a2), (4, .int a4), (6, .int a6)]) : W p l e R s m args below meth c H locs 0 0 (MQ below (xQ E A (some (.int res.1)) σ res.2) args s 0 0 A) (F0 m 80 ls []) := by
  have hx := C.1
  have hb := C.2.1
  unfold fM_misuse_80 at hf
  refine lv_aload_n hx hb dM_misuse_80 rfl (lv_at hl 0 rfl) ?_
  refine y_get C hw 30 0 8 (v := .int (τ 30 0 8)) at_30 rfl rfl ⟨by decide, by decide⟩ wM_96 rfl dM_misuse_81 ?_
  refine lv_if_le (tgt := 102) hx hb dM_misuse_84 (by decide) (fun c33 => ?_) (fun c33 => ?_)
  · replace hf := x_ip c33 hf
    exact wM_misuse_102 C τ a4 a6 res hf H locs ls hw (lv_sub hl [0, 3, 4] rfl)
  · replace hf := x_in c33 hf
    refine lv_iload_n hx hb dM_misuse_87 rfl (lv_at hl 1 rfl) ?_
    refine lv_if_ne (tgt := 102) hx hb dM_misuse_88 (by decide) (fun c34 => ?_) (fun c34 => ?_)
    · replace hf := x_in c34 hf
      exact wM_misuse_102 C τ a4 a6 res hf H locs ls hw (lv_sub hl [0, 3, 4] rfl)
    · replace hf := x_ip c34 hf
      refine lv_iload_n hx hb dM_misuse_91 rfl (lv_at hl 2 rfl) ?_
      refine lv_if_ge (tgt := 102) hx hb dM_misuse_92 (by decide) (fun c35 => ?_) (fun c35 => ?_)
      · replace hf := x_ip c35 hf
        exact wM_misuse_102 C τ a4 a6 res hf H locs ls hw (lv_sub hl [0, 3, 4] rfl)
      · replace hf := x_in c35 hf
        refine lv_bipush (v := (-4)) hx hb dM_misuse_95 (by decide) ?_
        refine lv_istore (lv' := [(6, .int (-4)), (0, .ref (E.2.2.1 30 0)), (1, .int a1), (2, .int a2), (4, .int a4)]) hx hb dM_misuse_97 hl (by decide) rfl (fun ls hl => ?_)
        refine lv_goto (tgt := 111) hx hb dM_misuse_99 (by decide) ?_
        exact wM_misuse_111 C τ (-4) res hf H locs ls hw (lv_sub hl [1, 0] rfl)
set_option maxHeartbeats 4000000 in
set_option maxRecDepth 100000 in
theorem wM_misuse_47 {p : Program} {l : Launch} {e : Env} {R : Room} {s : State} {m : MethodId} {args : Array Value} {below : List Frame} {meth : Method} {c : Code} {E : xE} {A : Nat → Prop} {σ : xS} (C : xC p s m args meth c R E A bM_misuse 7 yM_misuse (some .int) 0 0 0) (τ : yS) (a1 : Int32) (a2 : Int32) (a3 : Int32) (a4 : Int32) (a6 : Int32) (res : Int32 × yS) (hf : fM_misuse_47 τ a1 a2 a3 a4 a6 = some res) (H : Heap) (locs : List Loc) (ls : Array Slot) (hw : xW E A s σ τ H locs) (hl : lv_has ls 7 [(0, .ref (E.2.2.1 30 0)), (1, .int a1), (2, .int a2), (3, .int a3), (4, .int a4), (6, .int a6)]) : W p l e R s m args below meth c H locs 0 0 (MQ below (xQ E A (some (.int res.1)) σ res.2) args s 0 0 A) (F0 m 47 ls []) := by
  have hx := C.1
  have hb := C.2.1
  unfold fM_misuse_47 at hf
  refine lv_aload_n hx hb dM_misuse_47 rfl (lv_at hl 0 rfl) ?_
  refine y_get C hw 30 0 9 (v := .int (τ 30 0 9)) at_30 rfl rfl ⟨by decide, by decide⟩ wM_90 rfl dM_misuse_48 ?_
  refine lv_iconst (v := 4) hx hb dM_misuse_51 (by decide) ?_
  refine lv_icmp_ne (tgt := 80) hx hb dM_misuse_52 (by decide) (fun c36 => ?_) (fun c36 => ?_)
  · replace hf := x_in c36 hf
    exact wM_misuse_80 C τ a1 a2 a4 a6 res hf H locs ls hw (lv_sub hl [0, 1, 2, 4, 5] rfl)
  · replace hf := x_ip c36 hf
    refine lv_aload_n hx hb dM_misuse_55 rfl (lv_at hl 0 rfl) ?_
    refine y_get C hw 30 0 24 (v := .ref (E.2.2.1 47 0)) at_30 rfl rfl ⟨by decide, by decide⟩ wM_59 rfl dM_misuse_56 ?_
    refine lv_aload_n hx hb dM_misuse_59 rfl (lv_at hl 0 rfl) ?_
    refine y_get C hw 30 0 29 (v := .int (τ 30 0 29)) at_30 rfl rfl ⟨by decide, by decide⟩ wM_93 rfl dM_misuse_60 ?_
    refine lv_iconst (v := 1) hx hb dM_misuse_63 (by decide) ?_
    refine lv_isub hx hb dM_misuse_64 ?_
    obtain ⟨g37, hf⟩ := x_g hf
    refine y_ild C hw 47 0 at_47 rfl g37 dM_misuse_65 ?_
    refine lv_if_ne (tgt := 80) hx hb dM_misuse_66 (by decide) (fun c38 => ?_) (fun c38 => ?_)
    · replace hf := x_in c38 hf
      exact wM_misuse_80 C τ a1 a2 a4 a6 res hf H locs ls hw (lv_sub hl [0, 1, 2, 4, 5] rfl)
    · replace hf := x_ip c38 hf
      refine lv_iload_n hx hb dM_misuse_69 rfl (lv_at hl 3 rfl) ?_
      refine lv_if_ne (tgt := 80) hx hb dM_misuse_70 (by decide) (fun c39 => ?_) (fun c39 => ?_)
      · replace hf := x_in c39 hf
        exact wM_misuse_80 C τ a1 a2 a4 a6 res hf H locs ls hw (lv_sub hl [0, 1, 2, 4, 5] rfl)
      · replace hf := x_ip c39 hf
        exact wM_misuse_73 C τ res hf H locs ls hw (lv_sub hl [0] rfl)
set_option maxHeartbeats 4000000 in
set_option maxRecDepth 100000 in
theorem wM_misuse_42 {p : Program} {l : Launch} {e : Env} {R : Room} {s : State} {m : MethodId} {args : Array Value} {below : List Frame} {meth : Method} {c : Code} {E : xE} {A : Nat → Prop} {σ : xS} (C : xC p s m args meth c R E A bM_misuse 7 yM_misuse (some .int) 0 0 0) (τ : yS) (a1 : Int32) (a2 : Int32) (a3 : Int32) (a4 : Int32) (a5 : Int32) (a6 : Int32) (res : Int32 × yS) (hf : fM_misuse_42 τ a1 a2 a3 a4 a5 a6 = some res) (H : Heap) (locs : List Loc) (ls : Array Slot) (hw : xW E A s σ τ H locs) (hl : lv_has ls 7 [(0, .ref (E.2.2.1 30 0)), (1, .int a1), (2, .int a2), (3, .int a3), (4, .int a4), (5, .int a5), (6, .int a6)]) : W p l e R s m args below meth c H locs 0 0 (MQ below (xQ E A (some (.int res.1)) σ res.2) args s 0 0 A) (F0 m 42 ls []) := by
  have hx := C.1
  have hb := C.2.1
  unfold fM_misuse_42 at hf
  refine lv_iload hx hb dM_misuse_42 (lv_at hl 5 rfl) ?_
  refine lv_if_eq (tgt := 73) hx hb dM_misuse_44 (by decide) (fun c40 => ?_) (fun c40 => ?_)
  · replace hf := x_ip c40 hf
    exact wM_misuse_73 C τ res hf H locs ls hw (lv_sub hl [0] rfl)
  · replace hf := x_in c40 hf
    exact wM_misuse_47 C τ a1 a2 a3 a4 a6 res hf H locs ls hw (lv_sub hl [0, 1, 2, 3, 4, 6] rfl)
set_option maxHeartbeats 4000000 in
set_option maxRecDepth 100000 in
theorem wM_misuse_21 {p : Program} {l : Launch} {e : Env} {R : Room} {s : State} {m : MethodId} {args : Array Value} {below : List Frame} {meth : Method} {c : Code} {E : xE} {A : Nat → Prop} {σ : xS} (C : xC p s m args meth c R E A bM_misuse 7 yM_misuse (some .int) 0 0 0) (τ : yS) (a1 : Int32) (a2 : Int32) (a3 : Int32) (a4 : Int32) (t0 : Int32) (res : Int32 × yS) (hf : fM_misuse_21 τ a1 a2 a3 a4 t0 = some res) (H : Heap) (locs : List Loc) (ls : Array Slot) (hw : xW E A s σ τ H locs) (hl : lv_has ls 7 [(0, .ref (E.2.2.1 30 0)), (1, .int a1), (2, .int a2), (3, .int a3), (4, .int a4)]) : W p l e R s m args below meth c H locs 0 0 (MQ below (xQ E A (some (.int res.1)) σ res.2) args s 0 0 A) (F0 m 21 ls [.int t0]) := by
  have hx := C.1
  have hb := C.2.1
  unfold fM_misuse_21 at hf
  refine lv_istore (lv' := [(5, .int t0), (0, .ref (E.2.2.1 30 0)), (1, .int a1), (2, .int a2), (3, .int a3), (4, .int a4)]) hx hb dM_misuse_21 hl (by decide) rfl (fun ls hl => ?_)
  refine lv_iconst (v := 0) hx hb dM_misuse_23 (by decide) ?_
  refine lv_istore (lv' := [(6, .int 0), (5, .int t0), (0, .ref (E.2.2.1 30 0)), (1, .int a1), (2, .int a2), (3, .int a3), (4, .int a4)]) hx hb dM_misuse_24 hl (by decide) rfl (fun ls hl => ?_)
  refine lv_aload_n hx hb dM_misuse_26 rfl (lv_at hl 2 rfl) ?_
  refine y_get C hw 30 0 9 (v := .int (τ 30 0 9)) at_30 rfl rfl ⟨by decide, by decide⟩ wM_90 rfl dM_misuse_27 ?_
  refine lv_iconst (v := 2) hx hb dM_misuse_30 (by decide) ?_
  refine lv_icmp_eq (tgt := 42) hx hb dM_misuse_31 (by decide) (fun c41 => ?_) (fun c41 => ?_)
  · replace hf := x_ip c41 hf
    exact wM_misuse_42 C τ a1 a2 a3 a4 t0 0 res hf H locs ls hw (lv_sub hl [2, 3, 4, 5, 6, 1, 0] rfl)
  · replace hf := x_in c41 hf
    refine lv_aload_n hx hb dM_misuse_34 rfl (lv_at hl 2 rfl) ?_
    refine y_get C hw 30 0 9 (v := .int (τ 30 0 9)) at_30 rfl rfl ⟨by decide, by decide⟩ wM_90 rfl dM_misuse_35 ?_
    refine lv_iconst (v := 3) hx hb dM_misuse_38 (by decide) ?_
    refine lv_icmp_ne (tgt := 47) hx hb dM_misuse_39 (by decide) (fun c42 => ?_) (fun c42 => ?_)
    · replace hf := x_in c42 hf
      exact wM_misuse_47 C τ a1 a2 a3 a4 0 res hf H locs ls hw (lv_sub hl [2, 3, 4, 5, 6, 0] rfl)
    · replace hf := x_ip c42 hf
      exact wM_misuse_42 C τ a1 a2 a3 a4 t0 0 res hf H locs ls hw (lv_sub hl [2, 3, 4, 5, 6, 1, 0] rfl)
set_option maxHeartbeats 4000000 in
set_option maxRecDepth 100000 in
theorem wM_misuse_16 {p : Program} {l : Launch} {e : Env} {R : Room} {s : State} {m : MethodId} {args : Array Value} {below : List Frame} {meth : Method} {c : Code} {E : xE} {A : Nat → Prop} {σ : xS} (C : xC p s m args meth c R E A bM_misuse 7 yM_misuse (some .int) 0 0 0) (τ : yS) (a1 : Int32) (a2 : Int32) (a3 : Int32) (a4 : Int32) (res : Int32 × yS) (hf : fM_misuse_16 τ a1 a2 a3 a4 = some res) (H : Heap) (locs : List Loc) (ls : Array Slot) (hw : xW E A s σ τ H locs) (hl : lv_has ls 7 [(0, .ref (E.2.2.1 30 0)), (1, .int a1), (2, .int a2), (3, .int a3), (4, .int a4)]) : W p l e R s m args below meth c H locs 0 0 (MQ below (xQ E A (some (.int res.1)) σ res.2) args s 0 0 A) (F0 m 16 ls []) := by
  have hx := C.1
  have hb := C.2.1
  unfold fM_misuse_16 at hf
  refine lv_iconst (v := 1) hx hb dM_misuse_16 (by decide) ?_
  refine lv_goto (tgt := 21) hx hb dM_misuse_17 (by decide) ?_
  exact wM_misuse_21 C τ a1 a2 a3 a4 1 res hf H locs ls hw (lv_sub hl [0, 1, 2, 3, 4] rfl)
set_option maxHeartbeats 4000000 in
set_option maxRecDepth 100000 in
theorem wM_misuse_20 {p : Program} {l : Launch} {e : Env} {R : Room} {s : State} {m : MethodId} {args : Array Value} {below : List Frame} {meth : Method} {c : Code} {E : xE} {A : Nat → Prop} {σ : xS} (C : xC p s m args meth c R E A bM_misuse 7 yM_misuse (some .int) 0 0 0) (τ : yS) (a1 : Int32) (a2 : Int32) (a3 : Int32) (a4 : Int32) (res : Int32 × yS) (hf : fM_misuse_20 τ a1 a2 a3 a4 = some res) (H : Heap) (locs : List Loc) (ls : Array Slot) (hw : xW E A s σ τ H locs) (hl : lv_has ls 7 [(0, .ref (E.2.2.1 30 0)), (1, .int a1), (2, .int a2), (3, .int a3), (4, .int a4)]) : W p l e R s m args below meth c H locs 0 0 (MQ below (xQ E A (some (.int res.1)) σ res.2) args s 0 0 A) (F0 m 20 ls []) := by
  have hx := C.1
  have hb := C.2.1
  unfold fM_misuse_20 at hf
  refine lv_iconst (v := 0) hx hb dM_misuse_20 (by decide) ?_
  exact wM_misuse_21 C τ a1 a2 a3 a4 0 res hf H locs ls hw (lv_sub hl [0, 1, 2, 3, 4] rfl)
set_option maxHeartbeats 4000000 in
set_option maxRecDepth 100000 in
theorem cM_misuse (l : Launch) (E : xE) (τ : yS) (σ : xS) (a1 : Int32) (a2 : Int32) (a3 : Int32) (a4 : Int32) (res : Int32 × yS) (hf : fM_misuse τ a1 a2 a3 a4 = some res) : xM l E yM_misuse bM_misuse 7 (some .int) 0 0 0 [.ref (E.2.2.1 30 0), .int a1, .int a2, .int a3, .int a4] σ τ (some (.int res.1)) σ res.2 := by
  refine x_met (by decide) (Nat.le_of_ble_eq_true rfl) (fun p e R s m args below meth c A ls H locs C hw hl => ?_)
  have hl : lv_has ls 7 [(0, .ref (E.2.2.1 30 0)), (1, .int a1), (2, .int a2), (3, .int a3), (4, .int a4)] := hl
  have hx := C.1
  have hb := C.2.1
  unfold fM_misuse at hf
  refine lv_iload_n hx hb dM_misuse_0 rfl (lv_at hl 1 rfl) ?_
  refine lv_if_ne (tgt := 16) hx hb dM_misuse_1 (by decide) (fun c43 => ?_) (fun c43 => ?_)
  · replace hf := x_in c43 hf
    exact wM_misuse_16 C τ a1 a2 a3 a4 res hf H locs ls hw (lv_sub hl [0, 1, 2, 3, 4] rfl)
  · replace hf := x_ip c43 hf
    refine lv_iload_n hx hb dM_misuse_4 rfl (lv_at hl 2 rfl) ?_
    refine lv_if_lt (tgt := 20) hx hb dM_misuse_5 (by decide) (fun c44 => ?_) (fun c44 => ?_)
    · replace hf := x_ip c44 hf
      exact wM_misuse_20 C τ a1 a2 a3 a4 res hf H locs ls hw (lv_sub hl [0, 1, 2, 3, 4] rfl)
    · replace hf := x_in c44 hf
      refine lv_iload_n hx hb dM_misuse_8 rfl (lv_at hl 2 rfl) ?_
      refine lv_aload_n hx hb dM_misuse_9 rfl (lv_at hl 0 rfl) ?_
      refine y_get C hw 30 0 10 (v := .int (τ 30 0 10)) at_30 rfl rfl ⟨by decide, by decide⟩ wM_87 rfl dM_misuse_10 ?_
      refine lv_icmp_ne (tgt := 20) hx hb dM_misuse_13 (by decide) (fun c45 => ?_) (fun c45 => ?_)
      · replace hf := x_in c45 hf
        exact wM_misuse_20 C τ a1 a2 a3 a4 res hf H locs ls hw (lv_sub hl [0, 1, 2, 3, 4] rfl)
      · replace hf := x_ip c45 hf
        exact wM_misuse_16 C τ a1 a2 a3 a4 res hf H locs ls hw (lv_sub hl [0, 1, 2, 3, 4] rfl)
-- StandInsModel other (Z)I
set_option maxRecDepth 100000 in
theorem dM_other_0 : decode bM_other 0 = .ok (.aload_n 0, 1) := by decide +kernel
set_option maxRecDepth 100000 in
theorem dM_other_1 : decode bM_other 1 = .ok (.iconst 0, 1) := by decide +kernel
set_option maxRecDepth 100000 in
theorem dM_other_2 : decode bM_other 2 = .ok (.iconst (-1), 1) := by decide +kernel
set_option maxRecDepth 100000 in
theorem dM_other_3 : decode bM_other 3 = .ok (.iconst 0, 1) := by decide +kernel
set_option maxRecDepth 100000 in
theorem dM_other_4 : decode bM_other 4 = .ok (.iload_n 1, 1) := by decide +kernel
set_option maxRecDepth 100000 in
theorem dM_other_5 : decode bM_other 5 = .ok (.invokevirtual 102, 3) := by decide +kernel
set_option maxRecDepth 100000 in
theorem dM_other_8 : decode bM_other 8 = .ok (.istore_n 2, 1) := by decide +kernel
set_option maxRecDepth 100000 in
theorem dM_other_9 : decode bM_other 9 = .ok (.aload_n 0, 1) := by decide +kernel
set_option maxRecDepth 100000 in
theorem dM_other_10 : decode bM_other 10 = .ok (.iconst 0, 1) := by decide +kernel
set_option maxRecDepth 100000 in
theorem dM_other_11 : decode bM_other 11 = .ok (.putfield 90, 3) := by decide +kernel
set_option maxRecDepth 100000 in
theorem dM_other_14 : decode bM_other 14 = .ok (.iload_n 2, 1) := by decide +kernel
set_option maxRecDepth 100000 in
theorem dM_other_15 : decode bM_other 15 = .ok (.ireturn, 1) := by decide +kernel
def fM_other (τ : yS) (a1 : Int32) : Option (Int32 × yS) :=
  xb (fM_misuse τ 0 (-1) 0 a1) fun r2 s3 =>
  xl (y_si s3 30 0 9 0) fun s4 =>
  some (r2, s4)
set_option maxHeartbeats 4000000 in
set_option maxRecDepth 100000 in
theorem cM_other (l : Launch) (E : xE) (τ : yS) (σ : xS) (a1 : Int32) (res : Int32 × yS) (hf : fM_other τ a1 = some res) : xM l E yM_other bM_other 3 (some .int) 1 0 0 [.ref (E.2.2.1 30 0), .int a1] σ τ (some (.int res.1)) σ res.2 := by
  refine x_met (by decide) (Nat.le_of_ble_eq_true rfl) (fun p e R s m args below meth c A ls H locs C hw hl => ?_)
  have hl : lv_has ls 3 [(0, .ref (E.2.2.1 30 0)), (1, .int a1)] := hl
  have hx := C.1
  have hb := C.2.1
  unfold fM_other at hf
  refine lv_aload_n hx hb dM_other_0 rfl (lv_at hl 0 rfl) ?_
  refine lv_iconst (v := 0) hx hb dM_other_1 (by decide) ?_
  refine lv_iconst (v := (-1)) hx hb dM_other_2 (by decide) ?_
  refine lv_iconst (v := 0) hx hb dM_other_3 (by decide) ?_
  refine lv_iload_n hx hb dM_other_4 rfl (lv_at hl 1 rfl) ?_
  obtain ⟨r2, s3, h1, hf⟩ := x_b hf
  refine x_callV (As := [.int 0, .int (-1), .int 0, .int a1]) (rest := []) (st1 := [.int r2]) C hw (cM_misuse l E τ σ 0 (-1) 0 a1 (r2, s3) h1) kM_102 (x_recvY C hw 30 0 at_30 rfl rfl) (by decide) rfl rfl hl.1 (lv_room (Nat.le_of_ble_eq_true rfl)) dM_other_5 ⟨by decide, by decide⟩ rfl (fun H locs hw => ?_)
  refine lv_istore_n (lv' := [(2, .int r2), (0, .ref (E.2.2.1 30 0)), (1, .int a1)]) hx hb dM_other_8 rfl hl (by decide) rfl (fun ls hl => ?_)
  refine lv_aload_n hx hb dM_other_9 rfl (lv_at hl 1 rfl) ?_
  refine lv_iconst (v := 0) hx hb dM_other_10 (by decide) ?_
  refine y_puti C hw 30 0 9 at_30 rfl rfl rfl ⟨rfl, rfl⟩ ⟨by decide, by decide⟩ (Nat.le_of_ble_eq_true rfl) wM_90 dM_other_11 (fun H locs hw => ?_)
  obtain ⟨s4, es4, hf⟩ := x_l hf
  rw [← es4] at hw
  refine lv_iload_n hx hb dM_other_14 rfl (lv_at hl 0 rfl) ?_
  obtain rfl := Option.some.inj hf
  exact x_iret C hw dM_other_15
-- StandInsModel willNotDo (III)Z
set_option maxRecDepth 100000 in
theorem dM_willNotDo_0 : decode bM_willNotDo 0 = .ok (.aload_n 0, 1) := by decide +kernel
set_option maxRecDepth 100000 in
theorem dM_willNotDo_1 : decode bM_willNotDo 1 = .ok (.getfield 65, 3) := by decide +kernel
set_option maxRecDepth 100000 in
theorem dM_willNotDo_4 : decode bM_willNotDo 4 = .ok (.iconst 4, 1) := by decide +kernel
set_option maxRecDepth 100000 in
theorem dM_willNotDo_5 : decode bM_willNotDo 5 = .ok (.iload_n 1, 1) := by decide +kernel
set_option maxRecDepth 100000 in
theorem dM_willNotDo_6 : decode bM_willNotDo 6 = .ok (.imul, 1) := by decide +kernel
set_option maxRecDepth 100000 in
theorem dM_willNotDo_7 : decode bM_willNotDo 7 = .ok (.iload_n 2, 1) := by decide +kernel
set_option maxRecDepth 100000 in
theorem dM_willNotDo_8 : decode bM_willNotDo 8 = .ok (.iadd, 1) := by decide +kernel
set_option maxRecDepth 100000 in
theorem dM_willNotDo_9 : decode bM_willNotDo 9 = .ok (.iaload, 1) := by decide +kernel
set_option maxRecDepth 100000 in
theorem dM_willNotDo_10 : decode bM_willNotDo 10 = .ok (.istore 4, 2) := by decide +kernel
set_option maxRecDepth 100000 in
theorem dM_willNotDo_12 : decode bM_willNotDo 12 = .ok (.iload 4, 2) := by decide +kernel
set_option maxRecDepth 100000 in
theorem dM_willNotDo_14 : decode bM_willNotDo 14 = .ok (.iconst 2, 1) := by decide +kernel
set_option maxRecDepth 100000 in
theorem dM_willNotDo_15 : decode bM_willNotDo 15 = .ok (.if_icmp .ne 22, 3) := by decide +kernel
set_option maxRecDepth 100000 in
theorem dM_willNotDo_18 : decode bM_willNotDo 18 = .ok (.aload_n 0, 1) := by decide +kernel
set_option maxRecDepth 100000 in
theorem dM_willNotDo_19 : decode bM_willNotDo 19 = .ok (.getfield 68, 3) := by decide +kernel
set_option maxRecDepth 100000 in
theorem dM_willNotDo_22 : decode bM_willNotDo 22 = .ok (.iconst 4, 1) := by decide +kernel
set_option maxRecDepth 100000 in
theorem dM_willNotDo_23 : decode bM_willNotDo 23 = .ok (.iload_n 1, 1) := by decide +kernel
set_option maxRecDepth 100000 in
theorem dM_willNotDo_24 : decode bM_willNotDo 24 = .ok (.imul, 1) := by decide +kernel
set_option maxRecDepth 100000 in
theorem dM_willNotDo_25 : decode bM_willNotDo 25 = .ok (.iload_n 2, 1) := by decide +kernel
set_option maxRecDepth 100000 in
theorem dM_willNotDo_26 : decode bM_willNotDo 26 = .ok (.iadd, 1) := by decide +kernel
set_option maxRecDepth 100000 in
theorem dM_willNotDo_27 : decode bM_willNotDo 27 = .ok (.iaload, 1) := by decide +kernel
set_option maxRecDepth 100000 in
theorem dM_willNotDo_28 : decode bM_willNotDo 28 = .ok (.aload_n 0, 1) := by decide +kernel
set_option maxRecDepth 100000 in
theorem dM_willNotDo_29 : decode bM_willNotDo 29 = .ok (.getfield 7, 3) := by decide +kernel
set_option maxRecDepth 100000 in
theorem dM_willNotDo_32 : decode bM_willNotDo 32 = .ok (.iload_n 3, 1) := by decide +kernel
set_option maxRecDepth 100000 in
theorem dM_willNotDo_33 : decode bM_willNotDo 33 = .ok (.iaload, 1) := by decide +kernel
set_option maxRecDepth 100000 in
theorem dM_willNotDo_34 : decode bM_willNotDo 34 = .ok (.if_icmp .ge 18, 3) := by decide +kernel
set_option maxRecDepth 100000 in
theorem dM_willNotDo_37 : decode bM_willNotDo 37 = .ok (.iload 4, 2) := by decide +kernel
set_option maxRecDepth 100000 in
theorem dM_willNotDo_39 : decode bM_willNotDo 39 = .ok (.iconst 1, 1) := by decide +kernel
set_option maxRecDepth 100000 in
theorem dM_willNotDo_40 : decode bM_willNotDo 40 = .ok (.if_icmp .eq 16, 3) := by decide +kernel
set_option maxRecDepth 100000 in
theorem dM_willNotDo_43 : decode bM_willNotDo 43 = .ok (.aload_n 0, 1) := by decide +kernel
set_option maxRecDepth 100000 in
theorem dM_willNotDo_44 : decode bM_willNotDo 44 = .ok (.getfield 13, 3) := by decide +kernel
set_option maxRecDepth 100000 in
theorem dM_willNotDo_47 : decode bM_willNotDo 47 = .ok (.iload_n 3, 1) := by decide +kernel
set_option maxRecDepth 100000 in
theorem dM_willNotDo_48 : decode bM_willNotDo 48 = .ok (.baload, 1) := by decide +kernel
set_option maxRecDepth 100000 in
theorem dM_willNotDo_49 : decode bM_willNotDo 49 = .ok (.ifCond .ne 7, 3) := by decide +kernel
set_option maxRecDepth 100000 in
theorem dM_willNotDo_52 : decode bM_willNotDo 52 = .ok (.iconst 1, 1) := by decide +kernel
set_option maxRecDepth 100000 in
theorem dM_willNotDo_53 : decode bM_willNotDo 53 = .ok (.goto 4, 3) := by decide +kernel
set_option maxRecDepth 100000 in
theorem dM_willNotDo_56 : decode bM_willNotDo 56 = .ok (.iconst 0, 1) := by decide +kernel
set_option maxRecDepth 100000 in
theorem dM_willNotDo_57 : decode bM_willNotDo 57 = .ok (.ireturn, 1) := by decide +kernel
def fM_willNotDo_52 (τ : yS) : Option (Int32) :=
  some 1
def fM_willNotDo_37 (τ : yS) (a3 : Int32) (a4 : Int32) : Option (Int32) :=
  if a4 = 1 then
  (some 0)
  else
  (if ¬ (a3 < 0 ∨ 12 ≤ a3.toNatClampNeg) then
  if (τ 32 0 a3.toNatClampNeg) = 0 then
  (fM_willNotDo_52 τ)
  else
  (some 0)
  else none)
def fM_willNotDo (τ : yS) (a1 : Int32) (a2 : Int32) (a3 : Int32) : Option (Int32) :=
  if ¬ (((4 * a1) + a2) < 0 ∨ 68 ≤ ((4 * a1) + a2).toNatClampNeg) then
  if (τ 49 0 (((4 * a1) + a2).toNatClampNeg)) = 2 then
  (if ¬ (a3 < 0 ∨ 12 ≤ a3.toNatClampNeg) then
  if (τ 31 0 a3.toNatClampNeg) ≤ (τ 50 0 (((4 * a1) + a2).toNatClampNeg)) then
  (fM_willNotDo_52 τ)
  else
  (fM_willNotDo_37 τ a3 (τ 49 0 (((4 * a1) + a2).toNatClampNeg)))
  else none)
  else
  (fM_willNotDo_37 τ a3 (τ 49 0 (((4 * a1) + a2).toNatClampNeg)))
  else none
set_option maxHeartbeats 4000000 in
set_option maxRecDepth 100000 in
theorem wM_willNotDo_52 {p : Program} {l : Launch} {e : Env} {R : Room} {s : State} {m : MethodId} {args : Array Value} {below : List Frame} {meth : Method} {c : Code} {E : xE} {A : Nat → Prop} {σ : xS} (C : xC p s m args meth c R E A bM_willNotDo 5 yM_willNotDo (some .boolean) 0 0 0) (τ : yS) (res : Int32) (hf : fM_willNotDo_52 τ = some res) (H : Heap) (locs : List Loc) (ls : Array Slot) (hw : xW E A s σ τ H locs) (hl : lv_has ls 5 []) : W p l e R s m args below meth c H locs 0 0 (MQ below (xQ E A (some (.int res)) σ τ) args s 0 0 A) (F0 m 52 ls []) := by
  have hx := C.1
  have hb := C.2.1
  unfold fM_willNotDo_52 at hf
  refine lv_iconst (v := 1) hx hb dM_willNotDo_52 (by decide) ?_
  refine lv_goto (tgt := 57) hx hb dM_willNotDo_53 (by decide) ?_
  obtain rfl := Option.some.inj hf
  exact x_zret C hw (x_nz (v := 1) (Or.inr rfl)) dM_willNotDo_57
set_option maxHeartbeats 4000000 in
set_option maxRecDepth 100000 in
theorem wM_willNotDo_37 {p : Program} {l : Launch} {e : Env} {R : Room} {s : State} {m : MethodId} {args : Array Value} {below : List Frame} {meth : Method} {c : Code} {E : xE} {A : Nat → Prop} {σ : xS} (C : xC p s m args meth c R E A bM_willNotDo 5 yM_willNotDo (some .boolean) 0 0 0) (τ : yS) (a3 : Int32) (a4 : Int32) (res : Int32) (hf : fM_willNotDo_37 τ a3 a4 = some res) (H : Heap) (locs : List Loc) (ls : Array Slot) (hw : xW E A s σ τ H locs) (hl : lv_has ls 5 [(0, .ref (E.2.2.1 30 0)), (3, .int a3), (4, .int a4)]) : W p l e R s m args below meth c H locs 0 0 (MQ below (xQ E A (some (.int res)) σ τ) args s 0 0 A) (F0 m 37 ls []) := by
  have hx := C.1
  have hb := C.2.1
  unfold fM_willNotDo_37 at hf
  refine lv_iload hx hb dM_willNotDo_37 (lv_at hl 2 rfl) ?_
  refine lv_iconst (v := 1) hx hb dM_willNotDo_39 (by decide) ?_
  refine lv_icmp_eq (tgt := 56) hx hb dM_willNotDo_40 (by decide) (fun c4 => ?_) (fun c4 => ?_)
  · replace hf := x_ip c4 hf
    refine lv_iconst (v := 0) hx hb dM_willNotDo_56 (by decide) ?_
    obtain rfl := Option.some.inj hf
    exact x_zret C hw (x_nz (v := 0) (Or.inl rfl)) dM_willNotDo_57
  · replace hf := x_in c4 hf
    refine lv_aload_n hx hb dM_willNotDo_43 rfl (lv_at hl 0 rfl) ?_
    refine y_get C hw 30 0 1 (v := .ref (E.2.2.1 32 0)) at_30 rfl rfl ⟨by decide, by decide⟩ wM_13 rfl dM_willNotDo_44 ?_
    refine lv_iload_n hx hb dM_willNotDo_47 rfl (lv_at hl 1 rfl) ?_
    obtain ⟨g5, hf⟩ := x_g hf
    refine y_zld C hw 32 0 at_32 rfl g5 dM_willNotDo_48 ?_
    refine lv_if_ne (tgt := 56) hx hb dM_willNotDo_49 (by decide) (fun c6 => ?_) (fun c6 => ?_)
    · replace hf := x_in c6 hf
      refine lv_iconst (v := 0) hx hb dM_willNotDo_56 (by decide) ?_
      obtain rfl := Option.some.inj hf
      exact x_zret C hw (x_nz (v := 0) (Or.inl rfl)) dM_willNotDo_57
    · replace hf := x_ip c6 hf
      exact wM_willNotDo_52 C τ res hf H locs ls hw (lv_sub hl [] rfl)
set_option maxHeartbeats 4000000 in
set_option maxRecDepth 100000 in
theorem cM_willNotDo (l : Launch) (E : xE) (τ : yS) (σ : xS) (a1 : Int32) (a2 : Int32) (a3 : Int32) (res : Int32) (hf : fM_willNotDo τ a1 a2 a3 = some res) : xM l E yM_willNotDo bM_willNotDo 5 (some .boolean) 0 0 0 [.ref (E.2.2.1 30 0), .int a1, .int a2, .int a3] σ τ (some (.int res)) σ τ := by
  refine x_met (by decide) (Nat.le_of_ble_eq_true rfl) (fun p e R s m args below meth c A ls H locs C hw hl => ?_)
  have hl : lv_has ls 5 [(0, .ref (E.2.2.1 30 0)), (1, .int a1), (2, .int a2), (3, .int a3)] := hl
  have hx := C.1
  have hb := C.2.1
  unfold fM_willNotDo at hf
  refine lv_aload_n hx hb dM_willNotDo_0 rfl (lv_at hl 0 rfl) ?_
  refine y_get C hw 30 0 26 (v := .ref (E.2.2.1 49 0)) at_30 rfl rfl ⟨by decide, by decide⟩ wM_65 rfl dM_willNotDo_1 ?_
  refine lv_iconst (v := 4) hx hb dM_willNotDo_4 (by decide) ?_
  refine lv_iload_n hx hb dM_willNotDo_5 rfl (lv_at hl 1 rfl) ?_
  refine lv_imul hx hb dM_willNotDo_6 ?_
  refine lv_iload_n hx hb dM_willNotDo_7 rfl (lv_at hl 2 rfl) ?_
  refine lv_iadd hx hb dM_willNotDo_8 ?_
  obtain ⟨g7, hf⟩ := x_g hf
  refine y_ild C hw 49 0 at_49 rfl g7 dM_willNotDo_9 ?_
  refine lv_istore (lv' := [(4, .int (τ 49 0 (((4 * a1) + a2).toNatClampNeg))), (0, .ref (E.2.2.1 30 0)), (1, .int a1), (2, .int a2), (3, .int a3)]) hx hb dM_willNotDo_10 hl (by decide) rfl (fun ls hl => ?_)
  refine lv_iload hx hb dM_willNotDo_12 (lv_at hl 0 rfl) ?_
  refine lv_iconst (v := 2) hx hb dM_willNotDo_14 (by decide) ?_
  refine lv_icmp_ne (tgt := 37) hx hb dM_willNotDo_15 (by decide) (fun c8 => ?_) (fun c8 => ?_)
  · replace hf := x_in c8 hf
    exact wM_willNotDo_37 C τ a3 (τ 49 0 (((4 * a1) + a2).toNatClampNeg)) res hf H locs ls hw (lv_sub hl [1, 4, 0] rfl)
  · replace hf := x_ip c8 hf
    refine lv_aload_n hx hb dM_willNotDo_18 rfl (lv_at hl 1 rfl) ?_
    refine y_get C hw 30 0 27 (v := .ref (E.2.2.1 50 0)) at_30 rfl rfl ⟨by decide, by decide⟩ wM_68 rfl dM_willNotDo_19 ?_
    refine lv_iconst (v := 4) hx hb dM_willNotDo_22 (by decide) ?_
    refine lv_iload_n hx hb dM_willNotDo_23 rfl (lv_at hl 2 rfl) ?_
    refine lv_imul hx hb dM_willNotDo_24 ?_
    refine lv_iload_n hx hb dM_willNotDo_25 rfl (lv_at hl 3 rfl) ?_
    refine lv_iadd hx hb dM_willNotDo_26 ?_
    refine y_ild C hw 50 0 at_50 rfl g7 dM_willNotDo_27 ?_
    refine lv_aload_n hx hb dM_willNotDo_28 rfl (lv_at hl 1 rfl) ?_
    refine y_get C hw 30 0 0 (v := .ref (E.2.2.1 31 0)) at_30 rfl rfl ⟨by decide, by decide⟩ wM_7 rfl dM_willNotDo_29 ?_
    refine lv_iload_n hx hb dM_willNotDo_32 rfl (lv_at hl 4 rfl) ?_
    obtain ⟨g9, hf⟩ := x_g hf
    refine y_ild C hw 31 0 at_31 rfl g9 dM_willNotDo_33 ?_
    refine lv_icmp_ge (tgt := 52) hx hb dM_willNotDo_34 (by decide) (fun c10 => ?_) (fun c10 => ?_)
    · replace hf := x_ip c10 hf
      exact wM_willNotDo_52 C τ res hf H locs ls hw (lv_sub hl [] rfl)
    · replace hf := x_in c10 hf
      exact wM_willNotDo_37 C τ a3 (τ 49 0 (((4 * a1) + a2).toNatClampNeg)) res hf H locs ls hw (lv_sub hl [1, 4, 0] rfl)
-- StandInsModel define (IIIZ)I
set_option maxRecDepth 100000 in
theorem dM_define_0 : decode bM_define 0 = .ok (.iload_n 1, 1) := by decide +kernel
set_option maxRecDepth 100000 in
theorem dM_define_1 : decode bM_define 1 = .ok (.iconst 0, 1) := by decide +kernel
set_option maxRecDepth 100000 in
theorem dM_define_2 : decode bM_define 2 = .ok (.iconst 2, 1) := by decide +kernel
set_option maxRecDepth 100000 in
theorem dM_define_3 : decode bM_define 3 = .ok (.invokestatic 106, 3) := by decide +kernel
set_option maxRecDepth 100000 in
theorem dM_define_6 : decode bM_define 6 = .ok (.ifCond .eq 21, 3) := by decide +kernel
set_option maxRecDepth 100000 in
theorem dM_define_9 : decode bM_define 9 = .ok (.iload_n 2, 1) := by decide +kernel
set_option maxRecDepth 100000 in
theorem dM_define_10 : decode bM_define 10 = .ok (.iconst 0, 1) := by decide +kernel
set_option maxRecDepth 100000 in
theorem dM_define_11 : decode bM_define 11 = .ok (.iconst 3, 1) := by decide +kernel
set_option maxRecDepth 100000 in
theorem dM_define_12 : decode bM_define 12 = .ok (.invokestatic 106, 3) := by decide +kernel
set_option maxRecDepth 100000 in
theorem dM_define_15 : decode bM_define 15 = .ok (.ifCond .eq 12, 3) := by decide +kernel
set_option maxRecDepth 100000 in
theorem dM_define_18 : decode bM_define 18 = .ok (.iload_n 3, 1) := by decide +kernel
set_option maxRecDepth 100000 in
theorem dM_define_19 : decode bM_define 19 = .ok (.iconst 0, 1) := by decide +kernel
set_option maxRecDepth 100000 in
theorem dM_define_20 : decode bM_define 20 = .ok (.iconst 2, 1) := by decide +kernel
set_option maxRecDepth 100000 in
theorem dM_define_21 : decode bM_define 21 = .ok (.invokestatic 106, 3) := by decide +kernel
set_option maxRecDepth 100000 in
theorem dM_define_24 : decode bM_define 24 = .ok (.ifCond .ne 5, 3) := by decide +kernel
set_option maxRecDepth 100000 in
theorem dM_define_27 : decode bM_define 27 = .ok (.iconst (-1), 1) := by decide +kernel
set_option maxRecDepth 100000 in
theorem dM_define_28 : decode bM_define 28 = .ok (.ireturn, 1) := by decide +kernel
set_option maxRecDepth 100000 in
theorem dM_define_29 : decode bM_define 29 = .ok (.aload_n 0, 1) := by decide +kernel
set_option maxRecDepth 100000 in
theorem dM_define_30 : decode bM_define 30 = .ok (.getfield 110, 3) := by decide +kernel
set_option maxRecDepth 100000 in
theorem dM_define_33 : decode bM_define 33 = .ok (.ifCond .le 6, 3) := by decide +kernel
set_option maxRecDepth 100000 in
theorem dM_define_36 : decode bM_define 36 = .ok (.bipush (-2), 2) := by decide +kernel
set_option maxRecDepth 100000 in
theorem dM_define_38 : decode bM_define 38 = .ok (.ireturn, 1) := by decide +kernel
set_option maxRecDepth 100000 in
theorem dM_define_39 : decode bM_define 39 = .ok (.aload_n 0, 1) := by decide +kernel
set_option maxRecDepth 100000 in
theorem dM_define_40 : decode bM_define 40 = .ok (.iconst 0, 1) := by decide +kernel
set_option maxRecDepth 100000 in
theorem dM_define_41 : decode bM_define 41 = .ok (.invokevirtual 113, 3) := by decide +kernel
set_option maxRecDepth 100000 in
theorem dM_define_44 : decode bM_define 44 = .ok (.istore 5, 2) := by decide +kernel
set_option maxRecDepth 100000 in
theorem dM_define_46 : decode bM_define 46 = .ok (.iload 5, 2) := by decide +kernel
set_option maxRecDepth 100000 in
theorem dM_define_48 : decode bM_define 48 = .ok (.ifCond .ge 6, 3) := by decide +kernel
set_option maxRecDepth 100000 in
theorem dM_define_51 : decode bM_define 51 = .ok (.iload 5, 2) := by decide +kernel
set_option maxRecDepth 100000 in
theorem dM_define_53 : decode bM_define 53 = .ok (.ireturn, 1) := by decide +kernel
set_option maxRecDepth 100000 in
theorem dM_define_54 : decode bM_define 54 = .ok (.aload_n 0, 1) := by decide +kernel
set_option maxRecDepth 100000 in
theorem dM_define_55 : decode bM_define 55 = .ok (.getfield 7, 3) := by decide +kernel
set_option maxRecDepth 100000 in
theorem dM_define_58 : decode bM_define 58 = .ok (.iconst 4, 1) := by decide +kernel
set_option maxRecDepth 100000 in
theorem dM_define_59 : decode bM_define 59 = .ok (.iload_n 1, 1) := by decide +kernel
set_option maxRecDepth 100000 in
theorem dM_define_60 : decode bM_define 60 = .ok (.imul, 1) := by decide +kernel
set_option maxRecDepth 100000 in
theorem dM_define_61 : decode bM_define 61 = .ok (.iload_n 2, 1) := by decide +kernel
set_option maxRecDepth 100000 in
theorem dM_define_62 : decode bM_define 62 = .ok (.iadd, 1) := by decide +kernel
set_option maxRecDepth 100000 in
theorem dM_define_63 : decode bM_define 63 = .ok (.iload_n 3, 1) := by decide +kernel
set_option maxRecDepth 100000 in
theorem dM_define_64 : decode bM_define 64 = .ok (.iastore, 1) := by decide +kernel
set_option maxRecDepth 100000 in
theorem dM_define_65 : decode bM_define 65 = .ok (.aload_n 0, 1) := by decide +kernel
set_option maxRecDepth 100000 in
theorem dM_define_66 : decode bM_define 66 = .ok (.getfield 13, 3) := by decide +kernel
set_option maxRecDepth 100000 in
theorem dM_define_69 : decode bM_define 69 = .ok (.iconst 4, 1) := by decide +kernel
set_option maxRecDepth 100000 in
theorem dM_define_70 : decode bM_define 70 = .ok (.iload_n 1, 1) := by decide +kernel
set_option maxRecDepth 100000 in
theorem dM_define_71 : decode bM_define 71 = .ok (.imul, 1) := by decide +kernel
set_option maxRecDepth 100000 in
theorem dM_define_72 : decode bM_define 72 = .ok (.iload_n 2, 1) := by decide +kernel
set_option maxRecDepth 100000 in
theorem dM_define_73 : decode bM_define 73 = .ok (.iadd, 1) := by decide +kernel
set_option maxRecDepth 100000 in
theorem dM_define_74 : decode bM_define 74 = .ok (.iload 4, 2) := by decide +kernel
set_option maxRecDepth 100000 in
theorem dM_define_76 : decode bM_define 76 = .ok (.bastore, 1) := by decide +kernel
set_option maxRecDepth 100000 in
theorem dM_define_77 : decode bM_define 77 = .ok (.iconst 1, 1) := by decide +kernel
set_option maxRecDepth 100000 in
theorem dM_define_78 : decode bM_define 78 = .ok (.ireturn, 1) := by decide +kernel
def fM_define (τ : yS) (a1 : Int32) (a2 : Int32) (a3 : Int32) (a4 : Int32) : Option (Int32 × yS) :=
  if (fM_in a1 0 2) = 0 then
  (some ((-1), τ))
  else
  (if (fM_in a2 0 3) = 0 then
  (some ((-1), τ))
  else
  (if (fM_in a3 0 2) = 0 then
  (some ((-1), τ))
  else
  (if (τ 30 0 4) ≤ 0 then
  (xb (fM_other τ 0) fun r9 s10 =>
  if 0 ≤ r9 then
  (if ¬ (((4 * a1) + a2) < 0 ∨ 12 ≤ ((4 * a1) + a2).toNatClampNeg) then
  xl (y_si s10 31 0 (((4 * a1) + a2).toNatClampNeg) a3) fun s13 =>
  if a4 = 0 ∨ a4 = 1 then
  xl (y_si s13 32 0 (((4 * a1) + a2).toNatClampNeg) a4) fun s15 =>
  some (1, s15)
  else none
  else none)
  else
  (some (r9, s10)))
  else
  (some ((-2), τ)))))
set_option maxHeartbeats 4000000 in
set_option maxRecDepth 100000 in
theorem cM_define (l : Launch) (E : xE) (τ : yS) (σ : xS) (a1 : Int32) (a2 : Int32) (a3 : Int32) (a4 : Int32) (res : Int32 × yS) (hf : fM_define τ a1 a2 a3 a4 = some res) : xM l E yM_define bM_define 6 (some .int) 2 0 0 [.ref (E.2.2.1 30 0), .int a1, .int a2, .int a3, .int a4] σ τ (some (.int res.1)) σ res.2 := by
  refine x_met (by decide) (Nat.le_of_ble_eq_true rfl) (fun p e R s m args below meth c A ls H locs C hw hl => ?_)
  have hl : lv_has ls 6 [(0, .ref (E.2.2.1 30 0)), (1, .int a1), (2, .int a2), (3, .int a3), (4, .int a4)] := hl
  have hx := C.1
  have hb := C.2.1
  unfold fM_define at hf
  refine lv_iload_n hx hb dM_define_0 rfl (lv_at hl 1 rfl) ?_
  refine lv_iconst (v := 0) hx hb dM_define_1 (by decide) ?_
  refine lv_iconst (v := 2) hx hb dM_define_2 (by decide) ?_
  refine x_callS (As := [.int a1, .int 0, .int 2]) (rest := []) (st1 := [.int (fM_in a1 0 2)]) C hw (cM_in l E τ σ a1 0 2) kM_106 (by decide) rfl rfl hl.1 (lv_room (Nat.le_of_ble_eq_true rfl)) dM_define_3 ⟨by decide, by decide⟩ rfl (fun H locs hw => ?_)
  refine lv_if_eq (tgt := 27) hx hb dM_define_6 (by decide) (fun c2 => ?_) (fun c2 => ?_)
  · replace hf := x_ip c2 hf
    refine lv_iconst (v := (-1)) hx hb dM_define_27 (by decide) ?_
    obtain rfl := Option.some.inj hf
    exact x_iret C hw dM_define_28
  · replace hf := x_in c2 hf
    refine lv_iload_n hx hb dM_define_9 rfl (lv_at hl 2 rfl) ?_
    refine lv_iconst (v := 0) hx hb dM_define_10 (by decide) ?_
    refine lv_iconst (v := 3) hx hb dM_define_11 (by decide) ?_
    refine x_callS (As := [.int a2, .int 0, .int 3]) (rest := []) (st1 := [.int (fM_in a2 0 3)]) C hw (cM_in l E τ σ a2 0 3) kM_106 (by decide) rfl rfl hl.1 (lv_room (Nat.le_of_ble_eq_true rfl)) dM_define_12 ⟨by decide, by decide⟩ rfl (fun H locs hw => ?_)
    refine lv_if_eq (tgt := 27) hx hb dM_define_15 (by decide) (fun c4 => ?_) (fun c4 => ?_)
    · replace hf := x_ip c4 hf
      refine lv_iconst (v := (-1)) hx hb dM_define_27 (by decide) ?_
      obtain rfl := Option.some.inj hf
      exact x_iret C hw dM_define_28
    · replace hf := x_in c4 hf
      refine lv_iload_n hx hb dM_define_18 rfl (lv_at hl 3 rfl) ?_
      refine lv_iconst (v := 0) hx hb dM_define_19 (by decide) ?_
      refine lv_iconst (v := 2) hx hb dM_define_20 (by decide) ?_
      refine x_callS (As := [.int a3, .int 0, .int 2]) (rest := []) (st1 := [.int (fM_in a3 0 2)]) C hw (cM_in l E τ σ a3 0 2) kM_106 (by decide) rfl rfl hl.1 (lv_room (Nat.le_of_ble_eq_true rfl)) dM_define_21 ⟨by decide, by decide⟩ rfl (fun H locs hw => ?_)
      refine lv_if_ne (tgt := 29) hx hb dM_define_24 (by decide) (fun c6 => ?_) (fun c6 => ?_)
      · replace hf := x_in c6 hf
        refine lv_aload_n hx hb dM_define_29 rfl (lv_at hl 0 rfl) ?_
        refine y_get C hw 30 0 4 (v := .int (τ 30 0 4)) at_30 rfl rfl ⟨by decide, by decide⟩ wM_110 rfl dM_define_30 ?_
        refine lv_if_le (tgt := 39) hx hb dM_define_33 (by decide) (fun c7 => ?_) (fun c7 => ?_)
        · replace hf := x_ip c7 hf
          refine lv_aload_n hx hb dM_define_39 rfl (lv_at hl 0 rfl) ?_
          refine lv_iconst (v := 0) hx hb dM_define_40 (by decide) ?_
          obtain ⟨r9, s10, h8, hf⟩ := x_b hf
          refine x_callV (As := [.int 0]) (rest := []) (st1 := [.int r9]) C hw (cM_other l E τ σ 0 (r9, s10) h8) kM_113 (x_recvY C hw 30 0 at_30 rfl rfl) (by decide) rfl rfl hl.1 (lv_room (Nat.le_of_ble_eq_true rfl)) dM_define_41 ⟨by decide, by decide⟩ rfl (fun H locs hw => ?_)
          refine lv_istore (lv' := [(5, .int r9), (0, .ref (E.2.2.1 30 0)), (1, .int a1), (2, .int a2), (3, .int a3), (4, .int a4)]) hx hb dM_define_44 hl (by decide) rfl (fun ls hl => ?_)
          refine lv_iload hx hb dM_define_46 (lv_at hl 0 rfl) ?_
          refine lv_if_ge (tgt := 54) hx hb dM_define_48 (by decide) (fun c11 => ?_) (fun c11 => ?_)
          · replace hf := x_ip c11 hf
            refine lv_aload_n hx hb dM_define_54 rfl (lv_at hl 1 rfl) ?_
            refine y_get C hw 30 0 0 (v := .ref (E.2.2.1 31 0)) at_30 rfl rfl ⟨by decide, by decide⟩ wM_7 rfl dM_define_55 ?_
            refine lv_iconst (v := 4) hx hb dM_define_58 (by decide) ?_
            refine lv_iload_n hx hb dM_define_59 rfl (lv_at hl 2 rfl) ?_
            refine lv_imul hx hb dM_define_60 ?_
            refine lv_iload_n hx hb dM_define_61 rfl (lv_at hl 3 rfl) ?_
            refine lv_iadd hx hb dM_define_62 ?_
            refine lv_iload_n hx hb dM_define_63 rfl (lv_at hl 4 rfl) ?_
            obtain ⟨g12, hf⟩ := x_g hf
            refine y_ist C hw 31 0 at_31 rfl rfl g12 dM_define_64 (fun H locs hw => ?_)
            obtain ⟨s13, es13, hf⟩ := x_l hf
            rw [← es13] at hw
            refine lv_aload_n hx hb dM_define_65 rfl (lv_at hl 1 rfl) ?_
            refine y_get C hw 30 0 1 (v := .ref (E.2.2.1 32 0)) at_30 rfl rfl ⟨by decide, by decide⟩ wM_13 rfl dM_define_66 ?_
            refine lv_iconst (v := 4) hx hb dM_define_69 (by decide) ?_
            refine lv_iload_n hx hb dM_define_70 rfl (lv_at hl 2 rfl) ?_
            refine lv_imul hx hb dM_define_71 ?_
            refine lv_iload_n hx hb dM_define_72 rfl (lv_at hl 3 rfl) ?_
            refine lv_iadd hx hb dM_define_73 ?_
            refine lv_iload hx hb dM_define_74 (lv_at hl 5 rfl) ?_
            obtain ⟨g14, hf⟩ := x_g hf
            refine y_zst C hw 32 0 at_32 g14 rfl rfl g12 dM_define_76 (fun H locs hw => ?_)
            obtain ⟨s15, es15, hf⟩ := x_l hf
            rw [← es15] at hw
            refine lv_iconst (v := 1) hx hb dM_define_77 (by decide) ?_
            obtain rfl := Option.some.inj hf
            exact x_iret C hw dM_define_78
          · replace hf := x_in c11 hf
            refine lv_iload hx hb dM_define_51 (lv_at hl 0 rfl) ?_
            obtain rfl := Option.some.inj hf
            exact x_iret C hw dM_define_53
        · replace hf := x_in c7 hf
          refine lv_bipush (v := (-2)) hx hb dM_define_36 (by decide) ?_
          obtain rfl := Option.some.inj hf
          exact x_iret C hw dM_define_38
      · replace hf := x_ip c6 hf
        refine lv_iconst (v := (-1)) hx hb dM_define_27 (by decide) ?_
        obtain rfl := Option.some.inj hf
        exact x_iret C hw dM_define_28
-- StandInsModel make (II)I
set_option maxRecDepth 100000 in
theorem dM_make_0 : decode bM_make 0 = .ok (.iload_n 1, 1) := by decide +kernel
set_option maxRecDepth 100000 in
theorem dM_make_1 : decode bM_make 1 = .ok (.iconst 0, 1) := by decide +kernel
set_option maxRecDepth 100000 in
theorem dM_make_2 : decode bM_make 2 = .ok (.iconst 2, 1) := by decide +kernel
set_option maxRecDepth 100000 in
theorem dM_make_3 : decode bM_make 3 = .ok (.invokestatic 106, 3) := by decide +kernel
set_option maxRecDepth 100000 in
theorem dM_make_6 : decode bM_make 6 = .ok (.ifCond .eq 12, 3) := by decide +kernel
set_option maxRecDepth 100000 in
theorem dM_make_9 : decode bM_make 9 = .ok (.iload_n 2, 1) := by decide +kernel
set_option maxRecDepth 100000 in
theorem dM_make_10 : decode bM_make 10 = .ok (.iconst 0, 1) := by decide +kernel
set_option maxRecDepth 100000 in
theorem dM_make_11 : decode bM_make 11 = .ok (.iconst 2, 1) := by decide +kernel
set_option maxRecDepth 100000 in
theorem dM_make_12 : decode bM_make 12 = .ok (.invokestatic 106, 3) := by decide +kernel
set_option maxRecDepth 100000 in
theorem dM_make_15 : decode bM_make 15 = .ok (.ifCond .ne 5, 3) := by decide +kernel
set_option maxRecDepth 100000 in
theorem dM_make_18 : decode bM_make 18 = .ok (.iconst (-1), 1) := by decide +kernel
set_option maxRecDepth 100000 in
theorem dM_make_19 : decode bM_make 19 = .ok (.ireturn, 1) := by decide +kernel
set_option maxRecDepth 100000 in
theorem dM_make_20 : decode bM_make 20 = .ok (.aload_n 0, 1) := by decide +kernel
set_option maxRecDepth 100000 in
theorem dM_make_21 : decode bM_make 21 = .ok (.getfield 110, 3) := by decide +kernel
set_option maxRecDepth 100000 in
theorem dM_make_24 : decode bM_make 24 = .ok (.bipush 6, 2) := by decide +kernel
set_option maxRecDepth 100000 in
theorem dM_make_26 : decode bM_make 26 = .ok (.if_icmp .ne 6, 3) := by decide +kernel
set_option maxRecDepth 100000 in
theorem dM_make_29 : decode bM_make 29 = .ok (.bipush (-2), 2) := by decide +kernel
set_option maxRecDepth 100000 in
theorem dM_make_31 : decode bM_make 31 = .ok (.ireturn, 1) := by decide +kernel
set_option maxRecDepth 100000 in
theorem dM_make_32 : decode bM_make 32 = .ok (.aload_n 0, 1) := by decide +kernel
set_option maxRecDepth 100000 in
theorem dM_make_33 : decode bM_make 33 = .ok (.iconst 0, 1) := by decide +kernel
set_option maxRecDepth 100000 in
theorem dM_make_34 : decode bM_make 34 = .ok (.invokevirtual 113, 3) := by decide +kernel
set_option maxRecDepth 100000 in
theorem dM_make_37 : decode bM_make 37 = .ok (.istore_n 3, 1) := by decide +kernel
set_option maxRecDepth 100000 in
theorem dM_make_38 : decode bM_make 38 = .ok (.iload_n 3, 1) := by decide +kernel
set_option maxRecDepth 100000 in
theorem dM_make_39 : decode bM_make 39 = .ok (.ifCond .ge 5, 3) := by decide +kernel
set_option maxRecDepth 100000 in
theorem dM_make_42 : decode bM_make 42 = .ok (.iload_n 3, 1) := by decide +kernel
set_option maxRecDepth 100000 in
theorem dM_make_43 : decode bM_make 43 = .ok (.ireturn, 1) := by decide +kernel
set_option maxRecDepth 100000 in
theorem dM_make_44 : decode bM_make 44 = .ok (.aload_n 0, 1) := by decide +kernel
set_option maxRecDepth 100000 in
theorem dM_make_45 : decode bM_make 45 = .ok (.getfield 17, 3) := by decide +kernel
set_option maxRecDepth 100000 in
theorem dM_make_48 : decode bM_make 48 = .ok (.aload_n 0, 1) := by decide +kernel
set_option maxRecDepth 100000 in
theorem dM_make_49 : decode bM_make 49 = .ok (.getfield 110, 3) := by decide +kernel
set_option maxRecDepth 100000 in
theorem dM_make_52 : decode bM_make 52 = .ok (.iload_n 1, 1) := by decide +kernel
set_option maxRecDepth 100000 in
theorem dM_make_53 : decode bM_make 53 = .ok (.iastore, 1) := by decide +kernel
set_option maxRecDepth 100000 in
theorem dM_make_54 : decode bM_make 54 = .ok (.aload_n 0, 1) := by decide +kernel
set_option maxRecDepth 100000 in
theorem dM_make_55 : decode bM_make 55 = .ok (.getfield 20, 3) := by decide +kernel
set_option maxRecDepth 100000 in
theorem dM_make_58 : decode bM_make 58 = .ok (.aload_n 0, 1) := by decide +kernel
set_option maxRecDepth 100000 in
theorem dM_make_59 : decode bM_make 59 = .ok (.getfield 110, 3) := by decide +kernel
set_option maxRecDepth 100000 in
theorem dM_make_62 : decode bM_make 62 = .ok (.iload_n 2, 1) := by decide +kernel
set_option maxRecDepth 100000 in
theorem dM_make_63 : decode bM_make 63 = .ok (.iastore, 1) := by decide +kernel
set_option maxRecDepth 100000 in
theorem dM_make_64 : decode bM_make 64 = .ok (.aload_n 0, 1) := by decide +kernel
set_option maxRecDepth 100000 in
theorem dM_make_65 : decode bM_make 65 = .ok (.dup, 1) := by decide +kernel
set_option maxRecDepth 100000 in
theorem dM_make_66 : decode bM_make 66 = .ok (.getfield 110, 3) := by decide +kernel
set_option maxRecDepth 100000 in
theorem dM_make_69 : decode bM_make 69 = .ok (.iconst 1, 1) := by decide +kernel
set_option maxRecDepth 100000 in
theorem dM_make_70 : decode bM_make 70 = .ok (.iadd, 1) := by decide +kernel
set_option maxRecDepth 100000 in
theorem dM_make_71 : decode bM_make 71 = .ok (.putfield 110, 3) := by decide +kernel
set_option maxRecDepth 100000 in
theorem dM_make_74 : decode bM_make 74 = .ok (.aload_n 0, 1) := by decide +kernel
set_option maxRecDepth 100000 in
theorem dM_make_75 : decode bM_make 75 = .ok (.getfield 110, 3) := by decide +kernel
set_option maxRecDepth 100000 in
theorem dM_make_78 : decode bM_make 78 = .ok (.iconst 1, 1) := by decide +kernel
set_option maxRecDepth 100000 in
theorem dM_make_79 : decode bM_make 79 = .ok (.isub, 1) := by decide +kernel
set_option maxRecDepth 100000 in
theorem dM_make_80 : decode bM_make 80 = .ok (.ireturn, 1) := by decide +kernel
def fM_make (τ : yS) (a1 : Int32) (a2 : Int32) : Option (Int32 × yS) :=
  if (fM_in a1 0 2) = 0 then
  (some ((-1), τ))
  else
  (if (fM_in a2 0 2) = 0 then
  (some ((-1), τ))
  else
  (if (τ 30 0 4) = 6 then
  (some ((-2), τ))
  else
  (xb (fM_other τ 0) fun r7 s8 =>
  if 0 ≤ r7 then
  (if ¬ ((s8 30 0 4) < 0 ∨ 6 ≤ (s8 30 0 4).toNatClampNeg) then
  xl (y_si s8 33 0 ((s8 30 0 4).toNatClampNeg) a1) fun s11 =>
  if ¬ ((s11 30 0 4) < 0 ∨ 6 ≤ (s11 30 0 4).toNatClampNeg) then
  xl (y_si s11 34 0 ((s11 30 0 4).toNatClampNeg) a2) fun s13 =>
  xl (y_si s13 30 0 4 ((s13 30 0 4) + 1)) fun s14 =>
  some ((s14 30 0 4) - 1, s14)
  else none
  else none)
  else
  (some (r7, s8)))))
set_option maxHeartbeats 4000000 in
set_option maxRecDepth 100000 in
theorem cM_make (l : Launch) (E : xE) (τ : yS) (σ : xS) (a1 : Int32) (a2 : Int32) (res : Int32 × yS) (hf : fM_make τ a1 a2 = some res) : xM l E yM_make bM_make 4 (some .int) 2 0 0 [.ref (E.2.2.1 30 0), .int a1, .int a2] σ τ (some (.int res.1)) σ res.2 := by
  refine x_met (by decide) (Nat.le_of_ble_eq_true rfl) (fun p e R s m args below meth c A ls H locs C hw hl => ?_)
  have hl : lv_has ls 4 [(0, .ref (E.2.2.1 30 0)), (1, .int a1), (2, .int a2)] := hl
  have hx := C.1
  have hb := C.2.1
  unfold fM_make at hf
  refine lv_iload_n hx hb dM_make_0 rfl (lv_at hl 1 rfl) ?_
  refine lv_iconst (v := 0) hx hb dM_make_1 (by decide) ?_
  refine lv_iconst (v := 2) hx hb dM_make_2 (by decide) ?_
  refine x_callS (As := [.int a1, .int 0, .int 2]) (rest := []) (st1 := [.int (fM_in a1 0 2)]) C hw (cM_in l E τ σ a1 0 2) kM_106 (by decide) rfl rfl hl.1 (lv_room (Nat.le_of_ble_eq_true rfl)) dM_make_3 ⟨by decide, by decide⟩ rfl (fun H locs hw => ?_)
  refine lv_if_eq (tgt := 18) hx hb dM_make_6 (by decide) (fun c2 => ?_) (fun c2 => ?_)
  · replace hf := x_ip c2 hf
    refine lv_iconst (v := (-1)) hx hb dM_make_18 (by decide) ?_
    obtain rfl := Option.some.inj hf
    exact x_iret C hw dM_make_19
  · replace hf := x_in c2 hf
    refine lv_iload_n hx hb dM_make_9 rfl (lv_at hl 2 rfl) ?_
    refine lv_iconst (v := 0) hx hb dM_make_10 (by decide) ?_
    refine lv_iconst (v := 2) hx hb dM_make_11 (by decide) ?_
    refine x_callS (As := [.int a2, .int 0, .int 2]) (rest := []) (st1 := [.int (fM_in a2 0 2)]) C hw (cM_in l E τ σ a2 0 2) kM_106 (by decide) rfl rfl hl.1 (lv_room (Nat.le_of_ble_eq_true rfl)) dM_make_12 ⟨by decide, by decide⟩ rfl (fun H locs hw => ?_)
    refine lv_if_ne (tgt := 20) hx hb dM_make_15 (by decide) (fun c4 => ?_) (fun c4 => ?_)
    · replace hf := x_in c4 hf
      refine lv_aload_n hx hb dM_make_20 rfl (lv_at hl 0 rfl) ?_
      refine y_get C hw 30 0 4 (v := .int (τ 30 0 4)) at_30 rfl rfl ⟨by decide, by decide⟩ wM_110 rfl dM_make_21 ?_
      refine lv_bipush (v := 6) hx hb dM_make_24 (by decide) ?_
      refine lv_icmp_ne (tgt := 32) hx hb dM_make_26 (by decide) (fun c5 => ?_) (fun c5 => ?_)
      · replace hf := x_in c5 hf
        refine lv_aload_n hx hb dM_make_32 rfl (lv_at hl 0 rfl) ?_
        refine lv_iconst (v := 0) hx hb dM_make_33 (by decide) ?_
        obtain ⟨r7, s8, h6, hf⟩ := x_b hf
        refine x_callV (As := [.int 0]) (rest := []) (st1 := [.int r7]) C hw (cM_other l E τ σ 0 (r7, s8) h6) kM_113 (x_recvY C hw 30 0 at_30 rfl rfl) (by decide) rfl rfl hl.1 (lv_room (Nat.le_of_ble_eq_true rfl)) dM_make_34 ⟨by decide, by decide⟩ rfl (fun H locs hw => ?_)
        refine lv_istore_n (lv' := [(3, .int r7), (0, .ref (E.2.2.1 30 0)), (1, .int a1), (2, .int a2)]) hx hb dM_make_37 rfl hl (by decide) rfl (fun ls hl => ?_)
        refine lv_iload_n hx hb dM_make_38 rfl (lv_at hl 0 rfl) ?_
        refine lv_if_ge (tgt := 44) hx hb dM_make_39 (by decide) (fun c9 => ?_) (fun c9 => ?_)
        · replace hf := x_ip c9 hf
          refine lv_aload_n hx hb dM_make_44 rfl (lv_at hl 1 rfl) ?_
          refine y_get C hw 30 0 2 (v := .ref (E.2.2.1 33 0)) at_30 rfl rfl ⟨by decide, by decide⟩ wM_17 rfl dM_make_45 ?_
          refine lv_aload_n hx hb dM_make_48 rfl (lv_at hl 1 rfl) ?_
          refine y_get C hw 30 0 4 (v := .int (s8 30 0 4)) at_30 rfl rfl ⟨by decide, by decide⟩ wM_110 rfl dM_make_49 ?_
          refine lv_iload_n hx hb dM_make_52 rfl (lv_at hl 2 rfl) ?_
          obtain ⟨g10, hf⟩ := x_g hf
          refine y_ist C hw 33 0 at_33 rfl rfl g10 dM_make_53 (fun H locs hw => ?_)
          obtain ⟨s11, es11, hf⟩ := x_l hf
          rw [← es11] at hw
          refine lv_aload_n hx hb dM_make_54 rfl (lv_at hl 1 rfl) ?_
          refine y_get C hw 30 0 3 (v := .ref (E.2.2.1 34 0)) at_30 rfl rfl ⟨by decide, by decide⟩ wM_20 rfl dM_make_55 ?_
          refine lv_aload_n hx hb dM_make_58 rfl (lv_at hl 1 rfl) ?_
          refine y_get C hw 30 0 4 (v := .int (s11 30 0 4)) at_30 rfl rfl ⟨by decide, by decide⟩ wM_110 rfl dM_make_59 ?_
          refine lv_iload_n hx hb dM_make_62 rfl (lv_at hl 3 rfl) ?_
          obtain ⟨g12, hf⟩ := x_g hf
          refine y_ist C hw 34 0 at_34 rfl rfl g12 dM_make_63 (fun H locs hw => ?_)
          obtain ⟨s13, es13, hf⟩ := x_l hf
          rw [← es13] at hw
          refine lv_aload_n hx hb dM_make_64 rfl (lv_at hl 1 rfl) ?_
          refine lv_dup hx hb dM_make_65 rfl ?_
          refine y_get C hw 30 0 4 (v := .int (s13 30 0 4)) at_30 rfl rfl ⟨by decide, by decide⟩ wM_110 rfl dM_make_66 ?_
          refine lv_iconst (v := 1) hx hb dM_make_69 (by decide) ?_
          refine lv_iadd hx hb dM_make_70 ?_
          refine y_puti C hw 30 0 4 at_30 rfl rfl rfl ⟨rfl, rfl⟩ ⟨by decide, by decide⟩ (Nat.le_of_ble_eq_true rfl) wM_110 dM_make_71 (fun H locs hw => ?_)
          obtain ⟨s14, es14, hf⟩ := x_l hf
          rw [← es14] at hw
          refine lv_aload_n hx hb dM_make_74 rfl (lv_at hl 1 rfl) ?_
          refine y_get C hw 30 0 4 (v := .int (s14 30 0 4)) at_30 rfl rfl ⟨by decide, by decide⟩ wM_110 rfl dM_make_75 ?_
          refine lv_iconst (v := 1) hx hb dM_make_78 (by decide) ?_
          refine lv_isub hx hb dM_make_79 ?_
          obtain rfl := Option.some.inj hf
          exact x_iret C hw dM_make_80
        · replace hf := x_in c9 hf
          refine lv_iload_n hx hb dM_make_42 rfl (lv_at hl 0 rfl) ?_
          obtain rfl := Option.some.inj hf
          exact x_iret C hw dM_make_43
      · replace hf := x_ip c5 hf
        refine lv_bipush (v := (-2)) hx hb dM_make_29 (by decide) ?_
        obtain rfl := Option.some.inj hf
        exact x_iret C hw dM_make_31
    · replace hf := x_ip c4 hf
      refine lv_iconst (v := (-1)) hx hb dM_make_18 (by decide) ?_
      obtain rfl := Option.some.inj hf
      exact x_iret C hw dM_make_19
-- StandInsModel copy (III)V
set_option maxRecDepth 100000 in
theorem dM_copy_0 : decode bM_copy 0 = .ok (.iconst 0, 1) := by decide +kernel
set_option maxRecDepth 100000 in
theorem dM_copy_1 : decode bM_copy 1 = .ok (.istore 4, 2) := by decide +kernel
set_option maxRecDepth 100000 in
theorem dM_copy_3 : decode bM_copy 3 = .ok (.iload 4, 2) := by decide +kernel
set_option maxRecDepth 100000 in
theorem dM_copy_5 : decode bM_copy 5 = .ok (.aload_n 0, 1) := by decide +kernel
set_option maxRecDepth 100000 in
theorem dM_copy_6 : decode bM_copy 6 = .ok (.getfield 23, 3) := by decide +kernel
set_option maxRecDepth 100000 in
theorem dM_copy_9 : decode bM_copy 9 = .ok (.iload_n 1, 1) := by decide +kernel
set_option maxRecDepth 100000 in
theorem dM_copy_10 : decode bM_copy 10 = .ok (.iaload, 1) := by decide +kernel
set_option maxRecDepth 100000 in
theorem dM_copy_11 : decode bM_copy 11 = .ok (.if_icmp .ge 61, 3) := by decide +kernel
set_option maxRecDepth 100000 in
theorem dM_copy_14 : decode bM_copy 14 = .ok (.aload_n 0, 1) := by decide +kernel
set_option maxRecDepth 100000 in
theorem dM_copy_15 : decode bM_copy 15 = .ok (.getfield 26, 3) := by decide +kernel
set_option maxRecDepth 100000 in
theorem dM_copy_18 : decode bM_copy 18 = .ok (.bipush 8, 2) := by decide +kernel
set_option maxRecDepth 100000 in
theorem dM_copy_20 : decode bM_copy 20 = .ok (.iload_n 2, 1) := by decide +kernel
set_option maxRecDepth 100000 in
theorem dM_copy_21 : decode bM_copy 21 = .ok (.imul, 1) := by decide +kernel
set_option maxRecDepth 100000 in
theorem dM_copy_22 : decode bM_copy 22 = .ok (.iload_n 3, 1) := by decide +kernel
set_option maxRecDepth 100000 in
theorem dM_copy_23 : decode bM_copy 23 = .ok (.iadd, 1) := by decide +kernel
set_option maxRecDepth 100000 in
theorem dM_copy_24 : decode bM_copy 24 = .ok (.iload 4, 2) := by decide +kernel
set_option maxRecDepth 100000 in
theorem dM_copy_26 : decode bM_copy 26 = .ok (.iadd, 1) := by decide +kernel
set_option maxRecDepth 100000 in
theorem dM_copy_27 : decode bM_copy 27 = .ok (.aload_n 0, 1) := by decide +kernel
set_option maxRecDepth 100000 in
theorem dM_copy_28 : decode bM_copy 28 = .ok (.getfield 26, 3) := by decide +kernel
set_option maxRecDepth 100000 in
theorem dM_copy_31 : decode bM_copy 31 = .ok (.bipush 8, 2) := by decide +kernel
set_option maxRecDepth 100000 in
theorem dM_copy_33 : decode bM_copy 33 = .ok (.iload_n 1, 1) := by decide +kernel
set_option maxRecDepth 100000 in
theorem dM_copy_34 : decode bM_copy 34 = .ok (.imul, 1) := by decide +kernel
set_option maxRecDepth 100000 in
theorem dM_copy_35 : decode bM_copy 35 = .ok (.iload 4, 2) := by decide +kernel
set_option maxRecDepth 100000 in
theorem dM_copy_37 : decode bM_copy 37 = .ok (.iadd, 1) := by decide +kernel
set_option maxRecDepth 100000 in
theorem dM_copy_38 : decode bM_copy 38 = .ok (.iaload, 1) := by decide +kernel
set_option maxRecDepth 100000 in
theorem dM_copy_39 : decode bM_copy 39 = .ok (.iastore, 1) := by decide +kernel
set_option maxRecDepth 100000 in
theorem dM_copy_40 : decode bM_copy 40 = .ok (.aload_n 0, 1) := by decide +kernel
set_option maxRecDepth 100000 in
theorem dM_copy_41 : decode bM_copy 41 = .ok (.getfield 29, 3) := by decide +kernel
set_option maxRecDepth 100000 in
theorem dM_copy_44 : decode bM_copy 44 = .ok (.bipush 8, 2) := by decide +kernel
set_option maxRecDepth 100000 in
theorem dM_copy_46 : decode bM_copy 46 = .ok (.iload_n 2, 1) := by decide +kernel
set_option maxRecDepth 100000 in
theorem dM_copy_47 : decode bM_copy 47 = .ok (.imul, 1) := by decide +kernel
set_option maxRecDepth 100000 in
theorem dM_copy_48 : decode bM_copy 48 = .ok (.iload_n 3, 1) := by decide +kernel
set_option maxRecDepth 100000 in
theorem dM_copy_49 : decode bM_copy 49 = .ok (.iadd, 1) := by decide +kernel
set_option maxRecDepth 100000 in
theorem dM_copy_50 : decode bM_copy 50 = .ok (.iload 4, 2) := by decide +kernel
set_option maxRecDepth 100000 in
theorem dM_copy_52 : decode bM_copy 52 = .ok (.iadd, 1) := by decide +kernel
set_option maxRecDepth 100000 in
theorem dM_copy_53 : decode bM_copy 53 = .ok (.aload_n 0, 1) := by decide +kernel
set_option maxRecDepth 100000 in
theorem dM_copy_54 : decode bM_copy 54 = .ok (.getfield 29, 3) := by decide +kernel
set_option maxRecDepth 100000 in
theorem dM_copy_57 : decode bM_copy 57 = .ok (.bipush 8, 2) := by decide +kernel
set_option maxRecDepth 100000 in
theorem dM_copy_59 : decode bM_copy 59 = .ok (.iload_n 1, 1) := by decide +kernel
set_option maxRecDepth 100000 in
theorem dM_copy_60 : decode bM_copy 60 = .ok (.imul, 1) := by decide +kernel
set_option maxRecDepth 100000 in
theorem dM_copy_61 : decode bM_copy 61 = .ok (.iload 4, 2) := by decide +kernel
set_option maxRecDepth 100000 in
theorem dM_copy_63 : decode bM_copy 63 = .ok (.iadd, 1) := by decide +kernel
set_option maxRecDepth 100000 in
theorem dM_copy_64 : decode bM_copy 64 = .ok (.iaload, 1) := by decide +kernel
set_option maxRecDepth 100000 in
theorem dM_copy_65 : decode bM_copy 65 = .ok (.iastore, 1) := by decide +kernel
set_option maxRecDepth 100000 in
theorem dM_copy_66 : decode bM_copy 66 = .ok (.iinc 4 1, 3) := by decide +kernel
set_option maxRecDepth 100000 in
theorem dM_copy_69 : decode bM_copy 69 = .ok (.goto (-66), 3) := by decide +kernel
set_option maxRecDepth 100000 in
theorem dM_copy_72 : decode bM_copy 72 = .ok (.return_, 1) := by decide +kernel
def fM_copy_3b (N : Nat) (rec3 : yS → Int32 → Int32 → Int32 → Int32 → Option (yS)) (τ : yS) (a1 : Int32) (a2 : Int32) (a3 : Int32) (a4 : Int32) : Option (yS) :=
  if ¬ (a1 < 0 ∨ 120 ≤ a1.toNatClampNeg) then
  if (τ 35 0 a1.toNatClampNeg) ≤ a4 then
  (some τ)
  else
  (if ¬ (((8 * a1) + a4) < 0 ∨ 960 ≤ ((8 * a1) + a4).toNatClampNeg) then
  if ¬ ((((8 * a2) + a3) + a4) < 0 ∨ 960 ≤ (((8 * a2) + a3) + a4).toNatClampNeg) then
  xl (y_si τ 36 0 ((((8 * a2) + a3) + a4).toNatClampNeg) (τ 36 0 (((8 * a1) + a4).toNatClampNeg))) fun s11 =>
  xl (y_si s11 37 0 ((((8 * a2) + a3) + a4).toNatClampNeg) (s11 37 0 (((8 * a1) + a4).toNatClampNeg))) fun s12 =>
  rec3 s12 a1 a2 a3 (a4 + 1)
  else none
  else none)
  else none
def fM_copy_3 (N : Nat) : Nat → yS → Int32 → Int32 → Int32 → Int32 → Option (yS)
  | 0, _, _, _, _, _ => none
  | n + 1, τ, a1, a2, a3, a4 => fM_copy_3b N (fM_copy_3 N n) τ a1 a2 a3 a4
def fM_copy (N : Nat) (τ : yS) (a1 : Int32) (a2 : Int32) (a3 : Int32) : Option (yS) :=
  fM_copy_3 N N τ a1 a2 a3 0
set_option maxHeartbeats 4000000 in
set_option maxRecDepth 100000 in
theorem wM_copy_3b {p : Program} {l : Launch} {e : Env} {R : Room} {s : State} {m : MethodId} {args : Array Value} {below : List Frame} {meth : Method} {c : Code} {E : xE} {A : Nat → Prop} {σ : xS} (C : xC p s m args meth c R E A bM_copy 5 yM_copy none 0 0 0) (N : Nat) (τ : yS) (rec3 : yS → Int32 → Int32 → Int32 → Int32 → Option (yS)) (hrec3 : ∀ (τ : yS) (a1 : Int32) (a2 : Int32) (a3 : Int32) (a4 : Int32) (res : yS), rec3 τ a1 a2 a3 a4 = some res → ∀ (H : Heap) (locs : List Loc) (ls : Array Slot), xW E A s σ τ H locs → lv_has ls 5 [(0, .ref (E.2.2.1 30 0)), (1, .int a1), (2, .int a2), (3, .int a3), (4, .int a4)] → W p l e R s m args below meth c H locs 0 0 (MQ below (xQ E A none σ res) args s 0 0 A) (F0 m 3 ls [])) (a1 : Int32) (a2 : Int32) (a3 : Int32) (a4 : Int32) (res : yS) (hf : fM_copy_3b N rec3 τ a1 a2 a3 a4 = some res) (H : Heap) (locs : List Loc) (ls : Array Slot) (hw : xW E A s σ τ H locs) (hl : lv_has ls 5 [(0, .ref (E.2.2.1 30 0)), (1, .int a1), (2, .int a2), (3, .int a3), (4, .int a4)]) : W p l e R s m args below meth c H locs 0 0 (MQ below (xQ E A none σ res) args s 0 0 A) (F0 m 3 ls []) := by
  have hx := C.1
  have hb := C.2.1
  unfold fM_copy_3b at hf
  refine lv_iload hx hb dM_copy_3 (lv_at hl 4 rfl) ?_
  refine lv_aload_n hx hb dM_copy_5 rfl (lv_at hl 0 rfl) ?_
  refine y_get C hw 30 0 5 (v := .ref (E.2.2.1 35 0)) at_30 rfl rfl ⟨by decide, by decide⟩ wM_23 rfl dM_copy_6 ?_
  refine lv_iload_n hx hb dM_copy_9 rfl (lv_at hl 1 rfl) ?_
  obtain ⟨g7, hf⟩ := x_g hf
  refine y_ild C hw 35 0 at_35 rfl g7 dM_copy_10 ?_
  refine lv_icmp_ge (tgt := 72) hx hb dM_copy_11 (by decide) (fun c8 => ?_) (fun c8 => ?_)
  · replace hf := x_ip c8 hf
    obtain rfl := Option.some.inj hf
    exact x_vret C hw dM_copy_72
  · replace hf := x_in c8 hf
    refine lv_aload_n hx hb dM_copy_14 rfl (lv_at hl 0 rfl) ?_
    refine y_get C hw 30 0 6 (v := .ref (E.2.2.1 36 0)) at_30 rfl rfl ⟨by decide, by decide⟩ wM_26 rfl dM_copy_15 ?_
    refine lv_bipush (v := 8) hx hb dM_copy_18 (by decide) ?_
    refine lv_iload_n hx hb dM_copy_20 rfl (lv_at hl 2 rfl) ?_
    refine lv_imul hx hb dM_copy_21 ?_
    refine lv_iload_n hx hb dM_copy_22 rfl (lv_at hl 3 rfl) ?_
    refine lv_iadd hx hb dM_copy_23 ?_
    refine lv_iload hx hb dM_copy_24 (lv_at hl 4 rfl) ?_
    refine lv_iadd hx hb dM_copy_26 ?_
    refine lv_aload_n hx hb dM_copy_27 rfl (lv_at hl 0 rfl) ?_
    refine y_get C hw 30 0 6 (v := .ref (E.2.2.1 36 0)) at_30 rfl rfl ⟨by decide, by decide⟩ wM_26 rfl dM_copy_28 ?_
    refine lv_bipush (v := 8) hx hb dM_copy_31 (by decide) ?_
    refine lv_iload_n hx hb dM_copy_33 rfl (lv_at hl 1 rfl) ?_
    refine lv_imul hx hb dM_copy_34 ?_
    refine lv_iload hx hb dM_copy_35 (lv_at hl 4 rfl) ?_
    refine lv_iadd hx hb dM_copy_37 ?_
    obtain ⟨g9, hf⟩ := x_g hf
    refine y_ild C hw 36 0 at_36 rfl g9 dM_copy_38 ?_
    obtain ⟨g10, hf⟩ := x_g hf
    refine y_ist C hw 36 0 at_36 rfl rfl g10 dM_copy_39 (fun H locs hw => ?_)
    obtain ⟨s11, es11, hf⟩ := x_l hf
    rw [← es11] at hw
    refine lv_aload_n hx hb dM_copy_40 rfl (lv_at hl 0 rfl) ?_
    refine y_get C hw 30 0 7 (v := .ref (E.2.2.1 37 0)) at_30 rfl rfl ⟨by decide, by decide⟩ wM_29 rfl dM_copy_41 ?_
    refine lv_bipush (v := 8) hx hb dM_copy_44 (by decide) ?_
    refine lv_iload_n hx hb dM_copy_46 rfl (lv_at hl 2 rfl) ?_
    refine lv_imul hx hb dM_copy_47 ?_
    refine lv_iload_n hx hb dM_copy_48 rfl (lv_at hl 3 rfl) ?_
    refine lv_iadd hx hb dM_copy_49 ?_
    refine lv_iload hx hb dM_copy_50 (lv_at hl 4 rfl) ?_
    refine lv_iadd hx hb dM_copy_52 ?_
    refine lv_aload_n hx hb dM_copy_53 rfl (lv_at hl 0 rfl) ?_
    refine y_get C hw 30 0 7 (v := .ref (E.2.2.1 37 0)) at_30 rfl rfl ⟨by decide, by decide⟩ wM_29 rfl dM_copy_54 ?_
    refine lv_bipush (v := 8) hx hb dM_copy_57 (by decide) ?_
    refine lv_iload_n hx hb dM_copy_59 rfl (lv_at hl 1 rfl) ?_
    refine lv_imul hx hb dM_copy_60 ?_
    refine lv_iload hx hb dM_copy_61 (lv_at hl 4 rfl) ?_
    refine lv_iadd hx hb dM_copy_63 ?_
    refine y_ild C hw 37 0 at_37 rfl g9 dM_copy_64 ?_
    refine y_ist C hw 37 0 at_37 rfl rfl g10 dM_copy_65 (fun H locs hw => ?_)
    obtain ⟨s12, es12, hf⟩ := x_l hf
    rw [← es12] at hw
    refine lv_iinc (v := a4 + 1) (lv' := [(4, .int (a4 + 1)), (0, .ref (E.2.2.1 30 0)), (1, .int a1), (2, .int a2), (3, .int a3)]) hx hb dM_copy_66 hl (k := 4) rfl rfl (by decide) rfl (fun ls hl => ?_)
    refine lv_goto (tgt := 3) hx hb dM_copy_69 (by decide) ?_
    exact hrec3 s12 a1 a2 a3 (a4 + 1) res hf H locs ls hw (lv_sub hl [1, 2, 3, 4, 0] rfl)
set_option maxHeartbeats 4000000 in
set_option maxRecDepth 100000 in
theorem wM_copy_3 {p : Program} {l : Launch} {e : Env} {R : Room} {s : State} {m : MethodId} {args : Array Value} {below : List Frame} {meth : Method} {c : Code} {E : xE} {A : Nat → Prop} {σ : xS} (C : xC p s m args meth c R E A bM_copy 5 yM_copy none 0 0 0) (N : Nat) (n : Nat) : ∀ (τ : yS) (a1 : Int32) (a2 : Int32) (a3 : Int32) (a4 : Int32) (res : yS), fM_copy_3 N n τ a1 a2 a3 a4 = some res → ∀ (H : Heap) (locs : List Loc) (ls : Array Slot), xW E A s σ τ H locs → lv_has ls 5 [(0, .ref (E.2.2.1 30 0)), (1, .int a1), (2, .int a2), (3, .int a3), (4, .int a4)] → W p l e R s m args below meth c H locs 0 0 (MQ below (xQ E A none σ res) args s 0 0 A) (F0 m 3 ls []) := by
  induction n with
  | zero => intro τ a1 a2 a3 a4 res hf; cases hf
  | succ n ih =>
    intro τ a1 a2 a3 a4 res hf H locs ls hw hl
    exact wM_copy_3b C N τ (fM_copy_3 N n) ih a1 a2 a3 a4 res hf H locs ls hw hl
set_option maxHeartbeats 4000000 in
set_option maxRecDepth 100000 in
theorem cM_copy (l : Launch) (E : xE) (N : Nat) (τ : yS) (σ : xS) (a1 : Int32) (a2 : Int32) (a3 : Int32) (res : yS) (hf : fM_copy N τ a1 a2 a3 = some res) : xM l E yM_copy bM_copy 5 none 0 0 0 [.ref (E.2.2.1 30 0), .int a1, .int a2, .int a3] σ τ none σ res := by
  refine x_met (by decide) (Nat.le_of_ble_eq_true rfl) (fun p e R s m args below meth c A ls H locs C hw hl => ?_)
  have hl : lv_has ls 5 [(0, .ref (E.2.2.1 30 0)), (1, .int a1), (2, .int a2), (3, .int a3)] := hl
  have hx := C.1
  have hb := C.2.1
  unfold fM_copy at hf
  refine lv_iconst (v := 0) hx hb dM_copy_0 (by decide) ?_
  refine lv_istore (lv' := [(4, .int 0), (0, .ref (E.2.2.1 30 0)), (1, .int a1), (2, .int a2), (3, .int a3)]) hx hb dM_copy_1 hl (by decide) rfl (fun ls hl => ?_)
  exact wM_copy_3 C N N τ a1 a2 a3 0 res hf H locs ls hw (lv_sub hl [1, 2, 3, 4, 0] rfl)
