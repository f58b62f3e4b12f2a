-- StandIns call (IIII)J
set_option maxRecDepth 100000 in
theorem dA_call_0 : decode bA_call 0 = .ok (.aload_n 0, 1) := by decide +kernel
set_option maxRecDepth 100000 in
theorem dA_call_1 : decode bA_call 1 = .ok (.iload_n 1, 1) := by decide +kernel
set_option maxRecDepth 100000 in
theorem dA_call_2 : decode bA_call 2 = .ok (.invokevirtual 150, 3) := by decide +kernel
set_option maxRecDepth 100000 in
theorem dA_call_5 : decode bA_call 5 = .ok (.ifCond .eq 11, 3) := by decide +kernel
set_option maxRecDepth 100000 in
theorem dA_call_8 : decode bA_call 8 = .ok (.iload_n 2, 1) := by decide +kernel
set_option maxRecDepth 100000 in
theorem dA_call_9 : decode bA_call 9 = .ok (.iconst 4, 1) := by decide +kernel
set_option maxRecDepth 100000 in
theorem dA_call_10 : decode bA_call 10 = .ok (.invokestatic 97, 3) := by decide +kernel
set_option maxRecDepth 100000 in
theorem dA_call_13 : decode bA_call 13 = .ok (.ifCond .ne 7, 3) := by decide +kernel
set_option maxRecDepth 100000 in
theorem dA_call_16 : decode bA_call 16 = .ok (.ldc2_w 153, 3) := by decide +kernel
set_option maxRecDepth 100000 in
theorem dA_call_19 : decode bA_call 19 = .ok (.lreturn, 1) := by decide +kernel
set_option maxRecDepth 100000 in
theorem dA_call_20 : decode bA_call 20 = .ok (.aload_n 0, 1) := by decide +kernel
set_option maxRecDepth 100000 in
theorem dA_call_21 : decode bA_call 21 = .ok (.iload_n 1, 1) := by decide +kernel
set_option maxRecDepth 100000 in
theorem dA_call_22 : decode bA_call 22 = .ok (.invokevirtual 155, 3) := by decide +kernel
set_option maxRecDepth 100000 in
theorem dA_call_25 : decode bA_call 25 = .ok (.ifCond .eq 7, 3) := by decide +kernel
set_option maxRecDepth 100000 in
theorem dA_call_28 : decode bA_call 28 = .ok (.ldc2_w 158, 3) := by decide +kernel
set_option maxRecDepth 100000 in
theorem dA_call_31 : decode bA_call 31 = .ok (.lreturn, 1) := by decide +kernel
set_option maxRecDepth 100000 in
theorem dA_call_32 : decode bA_call 32 = .ok (.aload_n 0, 1) := by decide +kernel
set_option maxRecDepth 100000 in
theorem dA_call_33 : decode bA_call 33 = .ok (.iload_n 1, 1) := by decide +kernel
set_option maxRecDepth 100000 in
theorem dA_call_34 : decode bA_call 34 = .ok (.iload_n 2, 1) := by decide +kernel
set_option maxRecDepth 100000 in
theorem dA_call_35 : decode bA_call 35 = .ok (.invokevirtual 160, 3) := by decide +kernel
set_option maxRecDepth 100000 in
theorem dA_call_38 : decode bA_call 38 = .ok (.astore 5, 2) := by decide +kernel
set_option maxRecDepth 100000 in
theorem dA_call_40 : decode bA_call 40 = .ok (.aload_n 0, 1) := by decide +kernel
set_option maxRecDepth 100000 in
theorem dA_call_41 : decode bA_call 41 = .ok (.iload_n 1, 1) := by decide +kernel
set_option maxRecDepth 100000 in
theorem dA_call_42 : decode bA_call 42 = .ok (.aload 5, 2) := by decide +kernel
set_option maxRecDepth 100000 in
theorem dA_call_44 : decode bA_call 44 = .ok (.invokevirtual 164, 3) := by decide +kernel
set_option maxRecDepth 100000 in
theorem dA_call_47 : decode bA_call 47 = .ok (.istore 6, 2) := by decide +kernel
set_option maxRecDepth 100000 in
theorem dA_call_49 : decode bA_call 49 = .ok (.iload 6, 2) := by decide +kernel
set_option maxRecDepth 100000 in
theorem dA_call_51 : decode bA_call 51 = .ok (.ifCond .eq 11, 3) := by decide +kernel
set_option maxRecDepth 100000 in
theorem dA_call_54 : decode bA_call 54 = .ok (.ldc2_w 168, 3) := by decide +kernel
set_option maxRecDepth 100000 in
theorem dA_call_57 : decode bA_call 57 = .ok (.iload 6, 2) := by decide +kernel
set_option maxRecDepth 100000 in
theorem dA_call_59 : decode bA_call 59 = .ok (.i2l, 1) := by decide +kernel
set_option maxRecDepth 100000 in
theorem dA_call_60 : decode bA_call 60 = .ok (.ladd, 1) := by decide +kernel
set_option maxRecDepth 100000 in
theorem dA_call_61 : decode bA_call 61 = .ok (.lreturn, 1) := by decide +kernel
set_option maxRecDepth 100000 in
theorem dA_call_62 : decode bA_call 62 = .ok (.aload 5, 2) := by decide +kernel
set_option maxRecDepth 100000 in
theorem dA_call_64 : decode bA_call 64 = .ok (.getfield 105, 3) := by decide +kernel
set_option maxRecDepth 100000 in
theorem dA_call_67 : decode bA_call 67 = .ok (.ifCond .le 7, 3) := by decide +kernel
set_option maxRecDepth 100000 in
theorem dA_call_70 : decode bA_call 70 = .ok (.iload_n 3, 1) := by decide +kernel
set_option maxRecDepth 100000 in
theorem dA_call_71 : decode bA_call 71 = .ok (.goto 4, 3) := by decide +kernel
set_option maxRecDepth 100000 in
theorem dA_call_74 : decode bA_call 74 = .ok (.iconst 0, 1) := by decide +kernel
set_option maxRecDepth 100000 in
theorem dA_call_75 : decode bA_call 75 = .ok (.istore 7, 2) := by decide +kernel
set_option maxRecDepth 100000 in
theorem dA_call_77 : decode bA_call 77 = .ok (.aload 5, 2) := by decide +kernel
set_option maxRecDepth 100000 in
theorem dA_call_79 : decode bA_call 79 = .ok (.getfield 105, 3) := by decide +kernel
set_option maxRecDepth 100000 in
theorem dA_call_82 : decode bA_call 82 = .ok (.iconst 1, 1) := by decide +kernel
set_option maxRecDepth 100000 in
theorem dA_call_83 : decode bA_call 83 = .ok (.if_icmp .le 8, 3) := by decide +kernel
set_option maxRecDepth 100000 in
theorem dA_call_86 : decode bA_call 86 = .ok (.iload 4, 2) := by decide +kernel
set_option maxRecDepth 100000 in
theorem dA_call_88 : decode bA_call 88 = .ok (.goto 4, 3) := by decide +kernel
set_option maxRecDepth 100000 in
theorem dA_call_91 : decode bA_call 91 = .ok (.iconst 0, 1) := by decide +kernel
set_option maxRecDepth 100000 in
theorem dA_call_92 : decode bA_call 92 = .ok (.istore 8, 2) := by decide +kernel
set_option maxRecDepth 100000 in
theorem dA_call_94 : decode bA_call 94 = .ok (.aload_n 0, 1) := by decide +kernel
set_option maxRecDepth 100000 in
theorem dA_call_95 : decode bA_call 95 = .ok (.getfield 73, 3) := by decide +kernel
set_option maxRecDepth 100000 in
theorem dA_call_98 : decode bA_call 98 = .ok (.iload_n 1, 1) := by decide +kernel
set_option maxRecDepth 100000 in
theorem dA_call_99 : decode bA_call 99 = .ok (.putfield 170, 3) := by decide +kernel
set_option maxRecDepth 100000 in
theorem dA_call_102 : decode bA_call 102 = .ok (.aload_n 0, 1) := by decide +kernel
set_option maxRecDepth 100000 in
theorem dA_call_103 : decode bA_call 103 = .ok (.getfield 73, 3) := by decide +kernel
set_option maxRecDepth 100000 in
theorem dA_call_106 : decode bA_call 106 = .ok (.iload_n 2, 1) := by decide +kernel
set_option maxRecDepth 100000 in
theorem dA_call_107 : decode bA_call 107 = .ok (.putfield 173, 3) := by decide +kernel
set_option maxRecDepth 100000 in
theorem dA_call_110 : decode bA_call 110 = .ok (.aload_n 0, 1) := by decide +kernel
set_option maxRecDepth 100000 in
theorem dA_call_111 : decode bA_call 111 = .ok (.getfield 73, 3) := by decide +kernel
set_option maxRecDepth 100000 in
theorem dA_call_114 : decode bA_call 114 = .ok (.aload_n 0, 1) := by decide +kernel
set_option maxRecDepth 100000 in
theorem dA_call_115 : decode bA_call 115 = .ok (.iconst 0, 1) := by decide +kernel
set_option maxRecDepth 100000 in
theorem dA_call_116 : decode bA_call 116 = .ok (.aload 5, 2) := by decide +kernel
set_option maxRecDepth 100000 in
theorem dA_call_118 : decode bA_call 118 = .ok (.getfield 105, 3) := by decide +kernel
set_option maxRecDepth 100000 in
theorem dA_call_121 : decode bA_call 121 = .ok (.iload 7, 2) := by decide +kernel
set_option maxRecDepth 100000 in
theorem dA_call_123 : decode bA_call 123 = .ok (.invokevirtual 176, 3) := by decide +kernel
set_option maxRecDepth 100000 in
theorem dA_call_126 : decode bA_call 126 = .ok (.putfield 180, 3) := by decide +kernel
set_option maxRecDepth 100000 in
theorem dA_call_129 : decode bA_call 129 = .ok (.aload_n 0, 1) := by decide +kernel
set_option maxRecDepth 100000 in
theorem dA_call_130 : decode bA_call 130 = .ok (.getfield 73, 3) := by decide +kernel
set_option maxRecDepth 100000 in
theorem dA_call_133 : decode bA_call 133 = .ok (.aload_n 0, 1) := by decide +kernel
set_option maxRecDepth 100000 in
theorem dA_call_134 : decode bA_call 134 = .ok (.iconst 1, 1) := by decide +kernel
set_option maxRecDepth 100000 in
theorem dA_call_135 : decode bA_call 135 = .ok (.aload 5, 2) := by decide +kernel
set_option maxRecDepth 100000 in
theorem dA_call_137 : decode bA_call 137 = .ok (.getfield 105, 3) := by decide +kernel
set_option maxRecDepth 100000 in
theorem dA_call_140 : decode bA_call 140 = .ok (.iload 8, 2) := by decide +kernel
set_option maxRecDepth 100000 in
theorem dA_call_142 : decode bA_call 142 = .ok (.invokevirtual 176, 3) := by decide +kernel
set_option maxRecDepth 100000 in
theorem dA_call_145 : decode bA_call 145 = .ok (.putfield 184, 3) := by decide +kernel
set_option maxRecDepth 100000 in
theorem dA_call_148 : decode bA_call 148 = .ok (.aload_n 0, 1) := by decide +kernel
set_option maxRecDepth 100000 in
theorem dA_call_149 : decode bA_call 149 = .ok (.getfield 29, 3) := by decide +kernel
set_option maxRecDepth 100000 in
theorem dA_call_152 : decode bA_call 152 = .ok (.iconst 0, 1) := by decide +kernel
set_option maxRecDepth 100000 in
theorem dA_call_153 : decode bA_call 153 = .ok (.putfield 121, 3) := by decide +kernel
set_option maxRecDepth 100000 in
theorem dA_call_156 : decode bA_call 156 = .ok (.aload_n 0, 1) := by decide +kernel
set_option maxRecDepth 100000 in
theorem dA_call_157 : decode bA_call 157 = .ok (.getfield 77, 3) := by decide +kernel
set_option maxRecDepth 100000 in
theorem dA_call_160 : decode bA_call 160 = .ok (.iconst 2, 1) := by decide +kernel
set_option maxRecDepth 100000 in
theorem dA_call_161 : decode bA_call 161 = .ok (.if_icmp .ne 8, 3) := by decide +kernel
set_option maxRecDepth 100000 in
theorem dA_call_164 : decode bA_call 164 = .ok (.aload_n 0, 1) := by decide +kernel
set_option maxRecDepth 100000 in
theorem dA_call_165 : decode bA_call 165 = .ok (.invokevirtual 187, 3) := by decide +kernel
set_option maxRecDepth 100000 in
theorem dA_call_168 : decode bA_call 168 = .ok (.lreturn, 1) := by decide +kernel
set_option maxRecDepth 100000 in
theorem dA_call_169 : decode bA_call 169 = .ok (.aload_n 0, 1) := by decide +kernel
set_option maxRecDepth 100000 in
theorem dA_call_170 : decode bA_call 170 = .ok (.getfield 77, 3) := by decide +kernel
set_option maxRecDepth 100000 in
theorem dA_call_173 : decode bA_call 173 = .ok (.iconst 3, 1) := by decide +kernel
set_option maxRecDepth 100000 in
theorem dA_call_174 : decode bA_call 174 = .ok (.if_icmp .ne 10, 3) := by decide +kernel
set_option maxRecDepth 100000 in
theorem dA_call_177 : decode bA_call 177 = .ok (.aload_n 0, 1) := by decide +kernel
set_option maxRecDepth 100000 in
theorem dA_call_178 : decode bA_call 178 = .ok (.invokevirtual 191, 3) := by decide +kernel
set_option maxRecDepth 100000 in
theorem dA_call_181 : decode bA_call 181 = .ok (.goto 13, 3) := by decide +kernel
set_option maxRecDepth 100000 in
theorem dA_call_184 : decode bA_call 184 = .ok (.aload_n 0, 1) := by decide +kernel
set_option maxRecDepth 100000 in
theorem dA_call_185 : decode bA_call 185 = .ok (.aload 5, 2) := by decide +kernel
set_option maxRecDepth 100000 in
theorem dA_call_187 : decode bA_call 187 = .ok (.iload 7, 2) := by decide +kernel
set_option maxRecDepth 100000 in
theorem dA_call_189 : decode bA_call 189 = .ok (.iload 8, 2) := by decide +kernel
set_option maxRecDepth 100000 in
theorem dA_call_191 : decode bA_call 191 = .ok (.invokevirtual 194, 3) := by decide +kernel
set_option maxRecDepth 100000 in
theorem dA_call_194 : decode bA_call 194 = .ok (.lreturn, 1) := by decide +kernel
def fA_call_92 (N : Nat) (σ : xS) (a1 : Int32) (a2 : Int32) (k5 : Nat) (a7 : Int32) (t0 : Int32) : Option (Int64 × xS) :=
  xl (x_si σ 17 16 0 a1) fun s26 =>
  xl (x_si s26 17 16 1 a2) fun s27 =>
  if k5 < 12 then
  xb (fA_matcherOf s27 0 (s27.1 14 k5 0) a7) fun r30 s31 =>
  xl (x_sp s31 17 16 2 r30) fun s32 =>
  xb (fA_matcherOf s32 1 (s32.1 14 k5 0) t0) fun r34 s35 =>
  xl (x_sp s35 17 16 3 r34) fun s36 =>
  xl (x_si s36 4 0 1 0) fun s37 =>
  if (s37.1 0 0 12) = 2 then
  (xb (fA_tellPrepared N s37) fun r47 s48 =>
  some (r47, s48))
  else
  (if (s37.1 0 0 12) = 3 then
  (xb (fA_doCheck N s37) fun r44 s45 =>
  some (r44, s45))
  else
  (xb (fA_noteAndAnswer N s37 k5 a7 t0) fun r41 s42 =>
  some (r41, s42)))
  else none
def fA_call_75 (N : Nat) (σ : xS) (a1 : Int32) (a2 : Int32) (a4 : Int32) (k5 : Nat) (t0 : Int32) : Option (Int64 × xS) :=
  if k5 < 12 then
  if (σ.1 14 k5 0) ≤ 1 then
  (fA_call_92 N σ a1 a2 k5 t0 0)
  else
  (fA_call_92 N σ a1 a2 k5 t0 a4)
  else none
def fA_call (N : Nat) (σ : xS) (a1 : Int32) (a2 : Int32) (a3 : Int32) (a4 : Int32) : Option (Int64 × xS) :=
  if (fA_isStandIn σ a1) = 0 then
  (some (17592186044415, σ))
  else
  (if (fA_isBelow a2 4) = 0 then
  (some (17592186044415, σ))
  else
  (if (fA_hasNoRoomForCallOf σ a1) = 0 then
  (xp (fA_methodOf σ a1 a2) fun r58 =>
  xb (fA_misuseOfCall N σ a1 r58) fun r60 s61 =>
  if r60 = 0 then
  (if r58 < 12 then
  if (s61.1 14 r58 0) ≤ 0 then
  (fA_call_75 N s61 a1 a2 a4 r58 0)
  else
  (fA_call_75 N s61 a1 a2 a4 r58 a3)
  else none)
  else
  (some (17592186044416 + r60.toInt64, s61)))
  else
  (some (17592186044414, σ))))
set_option maxHeartbeats 4000000 in
set_option maxRecDepth 100000 in
theorem wA_call_92 {p : Program} {l : Launch} {e : Env} {R : Room} {s : State} {m : MethodId} {args : Array Value} {below : List Frame} {meth : Method} {c : Code} {E : xE} {A : Nat → Prop} {τ : yS} (C : xC p s m args meth c R E A bA_call 9 yA_call (some .long) 13 2 10) (N : Nat) (σ : xS) (a1 : Int32) (a2 : Int32) (k5 : Nat) (a7 : Int32) (t0 : Int32) (res : Int64 × xS) (hf : fA_call_92 N σ a1 a2 k5 a7 t0 = some res) (H : Heap) (locs : List Loc) (ls : Array Slot) (hw : xW E A s σ τ H locs) (hl : lv_has ls 9 [(0, .ref (E.2.2.1 0 0)), (1, .int a1), (2, .int a2), (5, .ref (E.2.2.1 14 k5)), (7, .int a7)]) : W p l e R s m args below meth c H locs 0 0 (MQ below (xQ E A (some (.long res.1)) res.2 τ) args s 2 10 A) (F0 m 92 ls [.int t0]) := by
  have hx := C.1
  have hb := C.2.1
  unfold fA_call_92 at hf
  refine lv_istore (lv' := [(8, .int t0), (0, .ref (E.2.2.1 0 0)), (1, .int a1), (2, .int a2), (5, .ref (E.2.2.1 14 k5)), (7, .int a7)]) hx hb dA_call_92 hl (by decide) rfl (fun ls hl => ?_)
  refine lv_aload_n hx hb dA_call_94 rfl (lv_at hl 1 rfl) ?_
  refine x_get C hw 0 0 11 (v := .ref (E.2.2.1 17 16)) at_0 rfl rfl ⟨by decide, by decide⟩ wA_73 rfl dA_call_95 ?_
  refine lv_iload_n hx hb dA_call_98 rfl (lv_at hl 2 rfl) ?_
  refine x_putiN C hw 17 16 0 (at_17 (by decide)) rfl rfl rfl ⟨rfl, rfl⟩ ⟨by decide, by decide⟩ (Nat.le_of_ble_eq_true rfl) wA_170 dA_call_99 (fun H locs hw => ?_)
  obtain ⟨s26, es26, hf⟩ := x_l hf
  rw [← es26] at hw
  refine lv_aload_n hx hb dA_call_102 rfl (lv_at hl 1 rfl) ?_
  refine x_get C hw 0 0 11 (v := .ref (E.2.2.1 17 16)) at_0 rfl rfl ⟨by decide, by decide⟩ wA_73 rfl dA_call_103 ?_
  refine lv_iload_n hx hb dA_call_106 rfl (lv_at hl 3 rfl) ?_
  refine x_putiN C hw 17 16 1 (at_17 (by decide)) rfl rfl rfl ⟨rfl, rfl⟩ ⟨by decide, by decide⟩ (Nat.le_of_ble_eq_true rfl) wA_173 dA_call_107 (fun H locs hw => ?_)
  obtain ⟨s27, es27, hf⟩ := x_l hf
  rw [← es27] at hw
  refine lv_aload_n hx hb dA_call_110 rfl (lv_at hl 1 rfl) ?_
  refine x_get C hw 0 0 11 (v := .ref (E.2.2.1 17 16)) at_0 rfl rfl ⟨by decide, by decide⟩ wA_73 rfl dA_call_111 ?_
  refine lv_aload_n hx hb dA_call_114 rfl (lv_at hl 1 rfl) ?_
  refine lv_iconst (v := 0) hx hb dA_call_115 (by decide) ?_
  refine lv_aload hx hb dA_call_116 (lv_at hl 4 rfl) ?_
  obtain ⟨g28, hf⟩ := x_g hf
  refine x_getN C hw 14 k5 0 (v := .int (s27.1 14 k5 0)) (at_14 g28) rfl rfl ⟨by decide, by decide⟩ wA_105 rfl dA_call_118 ?_
  refine lv_iload hx hb dA_call_121 (lv_at hl 5 rfl) ?_
  obtain ⟨r30, s31, h29, hf⟩ := x_b hf
  refine x_callV (As := [.int 0, .int (s27.1 14 k5 0), .int a7]) (rest := [.ref (E.2.2.1 17 16)]) (st1 := [va_rf r30, .ref (E.2.2.1 17 16)]) C hw (cA_matcherOf l E s27 τ 0 (s27.1 14 k5 0) a7 (r30, s31) h29) kA_176 (x_recv C hw 0 0 at_0 rfl rfl) (by decide) rfl rfl hl.1 (lv_room (Nat.le_of_ble_eq_true rfl)) dA_call_123 ⟨by decide, by decide⟩ rfl (fun H locs hw => ?_)
  refine x_putoN C hw 17 16 2 (at_17 (by decide)) rfl rfl rfl ⟨rfl, rfl⟩ ⟨by decide, by decide⟩ (Nat.le_of_ble_eq_true rfl) wA_180 dA_call_126 (fun H locs hw => ?_)
  obtain ⟨s32, es32, hf⟩ := x_l hf
  rw [← es32] at hw
  refine lv_aload_n hx hb dA_call_129 rfl (lv_at hl 1 rfl) ?_
  refine x_get C hw 0 0 11 (v := .ref (E.2.2.1 17 16)) at_0 rfl rfl ⟨by decide, by decide⟩ wA_73 rfl dA_call_130 ?_
  refine lv_aload_n hx hb dA_call_133 rfl (lv_at hl 1 rfl) ?_
  refine lv_iconst (v := 1) hx hb dA_call_134 (by decide) ?_
  refine lv_aload hx hb dA_call_135 (lv_at hl 4 rfl) ?_
  refine x_getN C hw 14 k5 0 (v := .int (s32.1 14 k5 0)) (at_14 g28) rfl rfl ⟨by decide, by decide⟩ wA_105 rfl dA_call_137 ?_
  refine lv_iload hx hb dA_call_140 (lv_at hl 0 rfl) ?_
  obtain ⟨r34, s35, h33, hf⟩ := x_b hf
  refine x_callV (As := [.int 1, .int (s32.1 14 k5 0), .int t0]) (rest := [.ref (E.2.2.1 17 16)]) (st1 := [va_rf r34, .ref (E.2.2.1 17 16)]) C hw (cA_matcherOf l E s32 τ 1 (s32.1 14 k5 0) t0 (r34, s35) h33) kA_176 (x_recv C hw 0 0 at_0 rfl rfl) (by decide) rfl rfl hl.1 (lv_room (Nat.le_of_ble_eq_true rfl)) dA_call_142 ⟨by decide, by decide⟩ rfl (fun H locs hw => ?_)
  refine x_putoN C hw 17 16 3 (at_17 (by decide)) rfl rfl rfl ⟨rfl, rfl⟩ ⟨by decide, by decide⟩ (Nat.le_of_ble_eq_true rfl) wA_184 dA_call_145 (fun H locs hw => ?_)
  obtain ⟨s36, es36, hf⟩ := x_l hf
  rw [← es36] at hw
  refine lv_aload_n hx hb dA_call_148 rfl (lv_at hl 1 rfl) ?_
  refine x_get C hw 0 0 4 (v := .ref (E.2.2.1 4 0)) at_0 rfl rfl ⟨by decide, by decide⟩ wA_29 rfl dA_call_149 ?_
  refine lv_iconst (v := 0) hx hb dA_call_152 (by decide) ?_
  refine x_putiN C hw 4 0 1 at_4 rfl rfl rfl ⟨rfl, rfl⟩ ⟨by decide, by decide⟩ (Nat.le_of_ble_eq_true rfl) wA_121 dA_call_153 (fun H locs hw => ?_)
  obtain ⟨s37, es37, hf⟩ := x_l hf
  rw [← es37] at hw
  refine lv_aload_n hx hb dA_call_156 rfl (lv_at hl 1 rfl) ?_
  refine x_get C hw 0 0 12 (v := .int (s37.1 0 0 12)) at_0 rfl rfl ⟨by decide, by decide⟩ wA_77 rfl dA_call_157 ?_
  refine lv_iconst (v := 2) hx hb dA_call_160 (by decide) ?_
  refine lv_icmp_ne (tgt := 169) hx hb dA_call_161 (by decide) (fun c38 => ?_) (fun c38 => ?_)
  · replace hf := x_in c38 hf
    refine lv_aload_n hx hb dA_call_169 rfl (lv_at hl 1 rfl) ?_
    refine x_get C hw 0 0 12 (v := .int (s37.1 0 0 12)) at_0 rfl rfl ⟨by decide, by decide⟩ wA_77 rfl dA_call_170 ?_
    refine lv_iconst (v := 3) hx hb dA_call_173 (by decide) ?_
    refine lv_icmp_ne (tgt := 184) hx hb dA_call_174 (by decide) (fun c39 => ?_) (fun c39 => ?_)
    · replace hf := x_in c39 hf
      refine lv_aload_n hx hb dA_call_184 rfl (lv_at hl 1 rfl) ?_
      refine lv_aload hx hb dA_call_185 (lv_at hl 4 rfl) ?_
      refine lv_iload hx hb dA_call_187 (lv_at hl 5 rfl) ?_
      refine lv_iload hx hb dA_call_189 (lv_at hl 0 rfl) ?_
      obtain ⟨r41, s42, h40, hf⟩ := x_b hf
      refine x_callV (As := [.ref (E.2.2.1 14 k5), .int a7, .int t0]) (rest := []) (st1 := [.long r41]) C hw (cA_noteAndAnswer l E N s37 τ k5 a7 t0 (r41, s42) h40) kA_194 (x_recv C hw 0 0 at_0 rfl rfl) (by decide) rfl rfl hl.1 (lv_room (Nat.le_of_ble_eq_true rfl)) dA_call_191 ⟨by decide, by decide⟩ rfl (fun H locs hw => ?_)
      obtain rfl := Option.some.inj hf
      refine W.widen (k := 2) (n := 10) (by decide) (by decide) ?_
      exact x_lret C hw dA_call_194
    · replace hf := x_ip c39 hf
      refine lv_aload_n hx hb dA_call_177 rfl (lv_at hl 1 rfl) ?_
      obtain ⟨r44, s45, h43, hf⟩ := x_b hf
      refine x_callV (As := []) (rest := []) (st1 := [.long r44]) C hw (cA_doCheck l E N s37 τ (r44, s45) h43) kA_191 (x_recv C hw 0 0 at_0 rfl rfl) (by decide) rfl rfl hl.1 (lv_room (Nat.le_of_ble_eq_true rfl)) dA_call_178 ⟨by decide, by decide⟩ rfl (fun H locs hw => ?_)
      refine lv_goto (tgt := 194) hx hb dA_call_181 (by decide) ?_
      obtain rfl := Option.some.inj hf
      refine W.widen (k := 2) (n := 10) (by decide) (by decide) ?_
      exact x_lret C hw dA_call_194
  · replace hf := x_ip c38 hf
    refine lv_aload_n hx hb dA_call_164 rfl (lv_at hl 1 rfl) ?_
    obtain ⟨r47, s48, h46, hf⟩ := x_b hf
    refine x_callV (As := []) (rest := []) (st1 := [.long r47]) C hw (cA_tellPrepared l E N s37 τ (r47, s48) h46) kA_187 (x_recv C hw 0 0 at_0 rfl rfl) (by decide) rfl rfl hl.1 (lv_room (Nat.le_of_ble_eq_true rfl)) dA_call_165 ⟨by decide, by decide⟩ rfl (fun H locs hw => ?_)
    obtain rfl := Option.some.inj hf
    refine W.widen (k := 2) (n := 10) (by decide) (by decide) ?_
    exact x_lret C hw dA_call_168
set_option maxHeartbeats 4000000 in
set_option maxRecDepth 100000 in
theorem wA_call_75 {p : Program} {l : Launch} {e : Env} {R : Room} {s : State} {m : MethodId} {args : Array Value} {below : List Frame} {meth : Method} {c : Code} {E : xE} {A : Nat → Prop} {τ : yS} (C : xC p s m args meth c R E A bA_call 9 yA_call (some .long) 13 2 10) (N : Nat) (σ : xS) (a1 : Int32) (a2 : Int32) (a4 : Int32) (k5 : Nat) (t0 : Int32) (res : Int64 × xS) (hf : fA_call_75 N σ a1 a2 a4 k5 t0 = some res) (H : Heap) (locs : List Loc) (ls : Array Slot) (hw : xW E A s σ τ H locs) (hl : lv_has ls 9 [(0, .ref (E.2.2.1 0 0)), (1, .int a1), (2, .int a2), (4, .int a4), (5, .ref (E.2.2.1 14 k5))]) : W p l e R s m args below meth c H locs 0 0 (MQ below (xQ E A (some (.long res.1)) res.2 τ) args s 2 10 A) (F0 m 75 ls [.int t0]) := by
  have hx := C.1
  have hb := C.2.1
  unfold fA_call_75 at hf
  refine lv_istore (lv' := [(7, .int t0), (0, .ref (E.2.2.1 0 0)), (1, .int a1), (2, .int a2), (4, .int a4), (5, .ref (E.2.2.1 14 k5))]) hx hb dA_call_75 hl (by decide) rfl (fun ls hl => ?_)
  refine lv_aload hx hb dA_call_77 (lv_at hl 5 rfl) ?_
  obtain ⟨g49, hf⟩ := x_g hf
  refine x_getN C hw 14 k5 0 (v := .int (σ.1 14 k5 0)) (at_14 g49) rfl rfl ⟨by decide, by decide⟩ wA_105 rfl dA_call_79 ?_
  refine lv_iconst (v := 1) hx hb dA_call_82 (by decide) ?_
  refine lv_icmp_le (tgt := 91) hx hb dA_call_83 (by decide) (fun c50 => ?_) (fun c50 => ?_)
  · replace hf := x_ip c50 hf
    refine lv_iconst (v := 0) hx hb dA_call_91 (by decide) ?_
    exact wA_call_92 C N σ a1 a2 k5 t0 0 res hf H locs ls hw (lv_sub hl [1, 2, 3, 5, 0] rfl)
  · replace hf := x_in c50 hf
    refine lv_iload hx hb dA_call_86 (lv_at hl 4 rfl) ?_
    refine lv_goto (tgt := 92) hx hb dA_call_88 (by decide) ?_
    exact wA_call_92 C N σ a1 a2 k5 t0 a4 res hf H locs ls hw (lv_sub hl [1, 2, 3, 5, 0] rfl)
set_option maxHeartbeats 4000000 in
set_option maxRecDepth 100000 in
theorem cA_call (l : Launch) (E : xE) (N : Nat) (σ : xS) (τ : yS) (a1 : Int32) (a2 : Int32) (a3 : Int32) (a4 : Int32) (res : Int64 × xS) (hf : fA_call N σ a1 a2 a3 a4 = some res) : xM l E yA_call bA_call 9 (some .long) 13 2 10 [.ref (E.2.2.1 0 0), .int a1, .int a2, .int a3, .int a4] σ τ (some (.long res.1)) res.2 τ := by
  refine x_met (by decide) (Nat.le_of_ble_eq_true rfl) (fun p e R s m args below meth c A ls H locs C hw hl => ?_)
  have hl : lv_has ls 9 [(0, .ref (E.2.2.1 0 0)), (1, .int a1), (2, .int a2), (3, .int a3), (4, .int a4)] := hl
  have hx := C.1
  have hb := C.2.1
  unfold fA_call at hf
  refine lv_aload_n hx hb dA_call_0 rfl (lv_at hl 0 rfl) ?_
  refine lv_iload_n hx hb dA_call_1 rfl (lv_at hl 1 rfl) ?_
  refine x_callV (As := [.int a1]) (rest := []) (st1 := [.int (fA_isStandIn σ a1)]) C hw (cA_isStandIn l E σ τ a1) kA_150 (x_recv C hw 0 0 at_0 rfl rfl) (by decide) rfl rfl hl.1 (lv_room (Nat.le_of_ble_eq_true rfl)) dA_call_2 ⟨by decide, by decide⟩ rfl (fun H locs hw => ?_)
  refine lv_if_eq (tgt := 16) hx hb dA_call_5 (by decide) (fun c52 => ?_) (fun c52 => ?_)
  · replace hf := x_ip c52 hf
    refine lv_ldc2 (v := 17592186044415) hx hb C.own (C.tb wA_153) dA_call_16 ?_
    obtain rfl := Option.some.inj hf
    refine W.widen (k := 2) (n := 10) (by decide) (by decide) ?_
    exact x_lret C hw dA_call_19
  · replace hf := x_in c52 hf
    refine lv_iload_n hx hb dA_call_8 rfl (lv_at hl 2 rfl) ?_
    refine lv_iconst (v := 4) hx hb dA_call_9 (by decide) ?_
    refine x_callS (As := [.int a2, .int 4]) (rest := []) (st1 := [.int (fA_isBelow a2 4)]) C hw (cA_isBelow l E σ τ a2 4) kA_97 (by decide) rfl rfl hl.1 (lv_room (Nat.le_of_ble_eq_true rfl)) dA_call_10 ⟨by decide, by decide⟩ rfl (fun H locs hw => ?_)
    refine lv_if_ne (tgt := 20) hx hb dA_call_13 (by decide) (fun c54 => ?_) (fun c54 => ?_)
    · replace hf := x_in c54 hf
      refine lv_aload_n hx hb dA_call_20 rfl (lv_at hl 0 rfl) ?_
      refine lv_iload_n hx hb dA_call_21 rfl (lv_at hl 1 rfl) ?_
      refine x_callV (As := [.int a1]) (rest := []) (st1 := [.int (fA_hasNoRoomForCallOf σ a1)]) C hw (cA_hasNoRoomForCallOf l E σ τ a1) kA_155 (x_recv C hw 0 0 at_0 rfl rfl) (by decide) rfl rfl hl.1 (lv_room (Nat.le_of_ble_eq_true rfl)) dA_call_22 ⟨by decide, by decide⟩ rfl (fun H locs hw => ?_)
      refine lv_if_eq (tgt := 32) hx hb dA_call_25 (by decide) (fun c56 => ?_) (fun c56 => ?_)
      · replace hf := x_ip c56 hf
        refine lv_aload_n hx hb dA_call_32 rfl (lv_at hl 0 rfl) ?_
        refine lv_iload_n hx hb dA_call_33 rfl (lv_at hl 1 rfl) ?_
        refine lv_iload_n hx hb dA_call_34 rfl (lv_at hl 2 rfl) ?_
        obtain ⟨r58, h57, hf⟩ := x_p hf
        refine x_callV (As := [.int a1, .int a2]) (rest := []) (st1 := [.ref (E.2.2.1 14 r58)]) C hw (cA_methodOf l E σ τ a1 a2 r58 h57) kA_160 (x_recv C hw 0 0 at_0 rfl rfl) (by decide) rfl rfl hl.1 (lv_room (Nat.le_of_ble_eq_true rfl)) dA_call_35 ⟨by decide, by decide⟩ rfl (fun H locs hw => ?_)
        refine lv_astore (lv' := [(5, .ref (E.2.2.1 14 r58)), (0, .ref (E.2.2.1 0 0)), (1, .int a1), (2, .int a2), (3, .int a3), (4, .int a4)]) hx hb dA_call_38 hl (by decide) rfl (fun ls hl => ?_)
        refine lv_aload_n hx hb dA_call_40 rfl (lv_at hl 1 rfl) ?_
        refine lv_iload_n hx hb dA_call_41 rfl (lv_at hl 2 rfl) ?_
        refine lv_aload hx hb dA_call_42 (lv_at hl 0 rfl) ?_
        obtain ⟨r60, s61, h59, hf⟩ := x_b hf
        refine x_callV (As := [.int a1, .ref (E.2.2.1 14 r58)]) (rest := []) (st1 := [.int r60]) C hw (cA_misuseOfCall l E N σ τ a1 r58 (r60, s61) h59) kA_164 (x_recv C hw 0 0 at_0 rfl rfl) (by decide) rfl rfl hl.1 (lv_room (Nat.le_of_ble_eq_true rfl)) dA_call_44 ⟨by decide, by decide⟩ rfl (fun H locs hw => ?_)
        refine lv_istore (lv' := [(6, .int r60), (5, .ref (E.2.2.1 14 r58)), (0, .ref (E.2.2.1 0 0)), (1, .int a1), (2, .int a2), (3, .int a3), (4, .int a4)]) hx hb dA_call_47 hl (by decide) rfl (fun ls hl => ?_)
        refine lv_iload hx hb dA_call_49 (lv_at hl 0 rfl) ?_
        refine lv_if_eq (tgt := 62) hx hb dA_call_51 (by decide) (fun c62 => ?_) (fun c62 => ?_)
        · replace hf := x_ip c62 hf
          refine lv_aload hx hb dA_call_62 (lv_at hl 1 rfl) ?_
          obtain ⟨g63, hf⟩ := x_g hf
          refine x_getN C hw 14 r58 0 (v := .int (s61.1 14 r58 0)) (at_14 g63) rfl rfl ⟨by decide, by decide⟩ wA_105 rfl dA_call_64 ?_
          refine lv_if_le (tgt := 74) hx hb dA_call_67 (by decide) (fun c64 => ?_) (fun c64 => ?_)
          · replace hf := x_ip c64 hf
            refine lv_iconst (v := 0) hx hb dA_call_74 (by decide) ?_
            exact wA_call_75 C N s61 a1 a2 a4 r58 0 res hf H locs ls hw (lv_sub hl [2, 3, 4, 6, 1] rfl)
          · replace hf := x_in c64 hf
            refine lv_iload_n hx hb dA_call_70 rfl (lv_at hl 5 rfl) ?_
            refine lv_goto (tgt := 75) hx hb dA_call_71 (by decide) ?_
            exact wA_call_75 C N s61 a1 a2 a4 r58 a3 res hf H locs ls hw (lv_sub hl [2, 3, 4, 6, 1] rfl)
        · replace hf := x_in c62 hf
          refine lv_ldc2 (v := 17592186044416) hx hb C.own (C.tb wA_168) dA_call_54 ?_
          refine lv_iload hx hb dA_call_57 (lv_at hl 0 rfl) ?_
          refine lv_i2l hx hb dA_call_59 rfl ?_
          refine lv_ladd hx hb dA_call_60 ?_
          obtain rfl := Option.some.inj hf
          refine W.widen (k := 2) (n := 10) (by decide) (by decide) ?_
          exact x_lret C hw dA_call_61
      · replace hf := x_in c56 hf
        refine lv_ldc2 (v := 17592186044414) hx hb C.own (C.tb wA_158) dA_call_28 ?_
        obtain rfl := Option.some.inj hf
        refine W.widen (k := 2) (n := 10) (by decide) (by decide) ?_
        exact x_lret C hw dA_call_31
    · replace hf := x_ip c54 hf
      refine lv_ldc2 (v := 17592186044415) hx hb C.own (C.tb wA_153) dA_call_16 ?_
      obtain rfl := Option.some.inj hf
      refine W.widen (k := 2) (n := 10) (by decide) (by decide) ?_
      exact x_lret C hw dA_call_19
-- StandIns$Notebook takeBackLast ()V
set_option maxRecDepth 100000 in
theorem dB_takeBackLast_0 : decode bB_takeBackLast 0 = .ok (.aload_n 0, 1) := by decide +kernel
set_option maxRecDepth 100000 in
theorem dB_takeBackLast_1 : decode bB_takeBackLast 1 = .ok (.getfield 17, 3) := by decide +kernel
set_option maxRecDepth 100000 in
theorem dB_takeBackLast_4 : decode bB_takeBackLast 4 = .ok (.ifCond .le 13, 3) := by decide +kernel
set_option maxRecDepth 100000 in
theorem dB_takeBackLast_7 : decode bB_takeBackLast 7 = .ok (.aload_n 0, 1) := by decide +kernel
set_option maxRecDepth 100000 in
theorem dB_takeBackLast_8 : decode bB_takeBackLast 8 = .ok (.dup, 1) := by decide +kernel
set_option maxRecDepth 100000 in
theorem dB_takeBackLast_9 : decode bB_takeBackLast 9 = .ok (.getfield 17, 3) := by decide +kernel
set_option maxRecDepth 100000 in
theorem dB_takeBackLast_12 : decode bB_takeBackLast 12 = .ok (.iconst 1, 1) := by decide +kernel
set_option maxRecDepth 100000 in
theorem dB_takeBackLast_13 : decode bB_takeBackLast 13 = .ok (.isub, 1) := by decide +kernel
set_option maxRecDepth 100000 in
theorem dB_takeBackLast_14 : decode bB_takeBackLast 14 = .ok (.putfield 17, 3) := by decide +kernel
set_option maxRecDepth 100000 in
theorem dB_takeBackLast_17 : decode bB_takeBackLast 17 = .ok (.return_, 1) := by decide +kernel
def fB_takeBackLast (σ : xS) : xS :=
  if (σ.1 6 0 1) ≤ 0 then
  (σ)
  else
  (xl (x_si σ 6 0 1 ((σ.1 6 0 1) - 1)) fun s2 =>
  s2)
set_option maxHeartbeats 4000000 in
set_option maxRecDepth 100000 in
theorem cB_takeBackLast (l : Launch) (E : xE) (σ : xS) (τ : yS) (res : xS) (hf : fB_takeBackLast σ = res) : xM l E yB_takeBackLast bB_takeBackLast 1 none 0 0 0 [.ref (E.2.2.1 6 0)] σ τ none res τ := by
  refine x_met (by decide) (Nat.le_of_ble_eq_true rfl) (fun p e R s m args below meth c A ls H locs C hw hl => ?_)
  have hl : lv_has ls 1 [(0, .ref (E.2.2.1 6 0))] := hl
  have hx := C.1
  have hb := C.2.1
  unfold fB_takeBackLast at hf
  refine lv_aload_n hx hb dB_takeBackLast_0 rfl (lv_at hl 0 rfl) ?_
  refine x_get C hw 6 0 1 (v := .int (σ.1 6 0 1)) at_6 rfl rfl ⟨by decide, by decide⟩ wB_17 rfl dB_takeBackLast_1 ?_
  refine lv_if_le (tgt := 17) hx hb dB_takeBackLast_4 (by decide) (fun c1 => ?_) (fun c1 => ?_)
  · replace hf := x_ip c1 hf
    obtain rfl := hf
    exact x_vret C hw dB_takeBackLast_17
  · replace hf := x_in c1 hf
    refine lv_aload_n hx hb dB_takeBackLast_7 rfl (lv_at hl 0 rfl) ?_
    refine lv_dup hx hb dB_takeBackLast_8 rfl ?_
    refine x_get C hw 6 0 1 (v := .int (σ.1 6 0 1)) at_6 rfl rfl ⟨by decide, by decide⟩ wB_17 rfl dB_takeBackLast_9 ?_
    refine lv_iconst (v := 1) hx hb dB_takeBackLast_12 (by decide) ?_
    refine lv_isub hx hb dB_takeBackLast_13 ?_
    refine x_puti C hw 6 0 1 at_6 rfl rfl rfl ⟨rfl, rfl⟩ ⟨by decide, by decide⟩ (Nat.le_of_ble_eq_true rfl) wB_17 dB_takeBackLast_14 (fun H locs hw => ?_)
    obtain ⟨s2, es2, hf⟩ := x_l hf
    rw [← es2] at hw
    obtain rfl := hf
    exact x_vret C hw dB_takeBackLast_17
-- StandIns when ()I
set_option maxRecDepth 100000 in
theorem dA_when_0 : decode bA_when 0 = .ok (.aload_n 0, 1) := by decide +kernel
set_option maxRecDepth 100000 in
theorem dA_when_1 : decode bA_when 1 = .ok (.getfield 53, 3) := by decide +kernel
set_option maxRecDepth 100000 in
theorem dA_when_4 : decode bA_when 4 = .ok (.bipush 16, 2) := by decide +kernel
set_option maxRecDepth 100000 in
theorem dA_when_6 : decode bA_when 6 = .ok (.if_icmp .lt 6, 3) := by decide +kernel
set_option maxRecDepth 100000 in
theorem dA_when_9 : decode bA_when 9 = .ok (.bipush (-2), 2) := by decide +kernel
set_option maxRecDepth 100000 in
theorem dA_when_11 : decode bA_when 11 = .ok (.ireturn, 1) := by decide +kernel
set_option maxRecDepth 100000 in
theorem dA_when_12 : decode bA_when 12 = .ok (.aload_n 0, 1) := by decide +kernel
set_option maxRecDepth 100000 in
theorem dA_when_13 : decode bA_when 13 = .ok (.aload_n 0, 1) := by decide +kernel
set_option maxRecDepth 100000 in
theorem dA_when_14 : decode bA_when 14 = .ok (.getfield 77, 3) := by decide +kernel
set_option maxRecDepth 100000 in
theorem dA_when_17 : decode bA_when 17 = .ok (.iconst 1, 1) := by decide +kernel
set_option maxRecDepth 100000 in
theorem dA_when_18 : decode bA_when 18 = .ok (.if_icmp .eq 7, 3) := by decide +kernel
set_option maxRecDepth 100000 in
theorem dA_when_21 : decode bA_when 21 = .ok (.iconst 1, 1) := by decide +kernel
set_option maxRecDepth 100000 in
theorem dA_when_22 : decode bA_when 22 = .ok (.goto 4, 3) := by decide +kernel
set_option maxRecDepth 100000 in
theorem dA_when_25 : decode bA_when 25 = .ok (.iconst 0, 1) := by decide +kernel
set_option maxRecDepth 100000 in
theorem dA_when_26 : decode bA_when 26 = .ok (.invokevirtual 101, 3) := by decide +kernel
set_option maxRecDepth 100000 in
theorem dA_when_29 : decode bA_when 29 = .ok (.istore_n 1, 1) := by decide +kernel
set_option maxRecDepth 100000 in
theorem dA_when_30 : decode bA_when 30 = .ok (.iload_n 1, 1) := by decide +kernel
set_option maxRecDepth 100000 in
theorem dA_when_31 : decode bA_when 31 = .ok (.ifCond .eq 5, 3) := by decide +kernel
set_option maxRecDepth 100000 in
theorem dA_when_34 : decode bA_when 34 = .ok (.iload_n 1, 1) := by decide +kernel
set_option maxRecDepth 100000 in
theorem dA_when_35 : decode bA_when 35 = .ok (.ireturn, 1) := by decide +kernel
set_option maxRecDepth 100000 in
theorem dA_when_36 : decode bA_when 36 = .ok (.aload_n 0, 1) := by decide +kernel
set_option maxRecDepth 100000 in
theorem dA_when_37 : decode bA_when 37 = .ok (.getfield 43, 3) := by decide +kernel
set_option maxRecDepth 100000 in
theorem dA_when_40 : decode bA_when 40 = .ok (.invokevirtual 198, 3) := by decide +kernel
set_option maxRecDepth 100000 in
theorem dA_when_43 : decode bA_when 43 = .ok (.aload_n 0, 1) := by decide +kernel
set_option maxRecDepth 100000 in
theorem dA_when_44 : decode bA_when 44 = .ok (.invokevirtual 201, 3) := by decide +kernel
set_option maxRecDepth 100000 in
theorem dA_when_47 : decode bA_when 47 = .ok (.aload_n 0, 1) := by decide +kernel
set_option maxRecDepth 100000 in
theorem dA_when_48 : decode bA_when 48 = .ok (.iconst 4, 1) := by decide +kernel
set_option maxRecDepth 100000 in
theorem dA_when_49 : decode bA_when 49 = .ok (.putfield 77, 3) := by decide +kernel
set_option maxRecDepth 100000 in
theorem dA_when_52 : decode bA_when 52 = .ok (.aload_n 0, 1) := by decide +kernel
set_option maxRecDepth 100000 in
theorem dA_when_53 : decode bA_when 53 = .ok (.getfield 53, 3) := by decide +kernel
set_option maxRecDepth 100000 in
theorem dA_when_56 : decode bA_when 56 = .ok (.iconst 1, 1) := by decide +kernel
set_option maxRecDepth 100000 in
theorem dA_when_57 : decode bA_when 57 = .ok (.isub, 1) := by decide +kernel
set_option maxRecDepth 100000 in
theorem dA_when_58 : decode bA_when 58 = .ok (.ireturn, 1) := by decide +kernel
def fA_when_26 (σ : xS) (t0 : Int32) : Option (Int32 × xS) :=
  xb (fA_misuseOfPlainStep σ t0) fun r11 s12 =>
  if r11 = 0 then
  (xl (fB_takeBackLast s12) fun s15 =>
  xp (fA_beginTelling s15) fun s17 =>
  xl (x_si s17 0 0 12 4) fun s18 =>
  some ((s18.1 0 0 8) - 1, s18))
  else
  (some (r11, s12))
def fA_when (σ : xS) : Option (Int32 × xS) :=
  if (σ.1 0 0 8) < 16 then
  (if (σ.1 0 0 12) = 1 then
  (fA_when_26 σ 0)
  else
  (fA_when_26 σ 1))
  else
  (some ((-2), σ))
set_option maxHeartbeats 4000000 in
set_option maxRecDepth 100000 in
theorem wA_when_26 {p : Program} {l : Launch} {e : Env} {R : Room} {s : State} {m : MethodId} {args : Array Value} {below : List Frame} {meth : Method} {c : Code} {E : xE} {A : Nat → Prop} {τ : yS} (C : xC p s m args meth c R E A bA_when 2 yA_when (some .int) 5 0 0) (σ : xS) (t0 : Int32) (res : Int32 × xS) (hf : fA_when_26 σ t0 = some res) (H : Heap) (locs : List Loc) (ls : Array Slot) (hw : xW E A s σ τ H locs) (hl : lv_has ls 2 [(0, .ref (E.2.2.1 0 0))]) : W p l e R s m args below meth c H locs 0 0 (MQ below (xQ E A (some (.int res.1)) res.2 τ) args s 0 0 A) (F0 m 26 ls [.int t0, .ref (E.2.2.1 0 0)]) := by
  have hx := C.1
  have hb := C.2.1
  unfold fA_when_26 at hf
  obtain ⟨r11, s12, h10, hf⟩ := x_b hf
  refine x_callV (As := [.int t0]) (rest := []) (st1 := [.int r11]) C hw (cA_misuseOfPlainStep l E σ τ t0 (r11, s12) h10) kA_101 (x_recv C hw 0 0 at_0 rfl rfl) (by decide) rfl rfl hl.1 (lv_room (Nat.le_of_ble_eq_true rfl)) dA_when_26 ⟨by decide, by decide⟩ rfl (fun H locs hw => ?_)
  refine lv_istore_n (lv' := [(1, .int r11), (0, .ref (E.2.2.1 0 0))]) hx hb dA_when_29 rfl hl (by decide) rfl (fun ls hl => ?_)
  refine lv_iload_n hx hb dA_when_30 rfl (lv_at hl 0 rfl) ?_
  refine lv_if_eq (tgt := 36) hx hb dA_when_31 (by decide) (fun c13 => ?_) (fun c13 => ?_)
  · replace hf := x_ip c13 hf
    refine lv_aload_n hx hb dA_when_36 rfl (lv_at hl 1 rfl) ?_
    refine x_get C hw 0 0 6 (v := .ref (E.2.2.1 6 0)) at_0 rfl rfl ⟨by decide, by decide⟩ wA_43 rfl dA_when_37 ?_
    obtain ⟨s15, h14, hf⟩ := x_l hf
    refine x_callVN (As := []) (rest := []) (st1 := []) C hw (cB_takeBackLast l E s12 τ s15 h14.symm) kA_198 (x_recv C hw 6 0 at_6 rfl rfl) (by decide) rfl rfl hl.1 (lv_room (Nat.le_of_ble_eq_true rfl)) dA_when_40 ⟨by decide, by decide⟩ rfl (fun H locs hw => ?_)
    refine lv_aload_n hx hb dA_when_43 rfl (lv_at hl 1 rfl) ?_
    obtain ⟨s17, h16, hf⟩ := x_p hf
    refine x_callV (As := []) (rest := []) (st1 := []) C hw (cA_beginTelling l E s15 τ s17 h16) kA_201 (x_recv C hw 0 0 at_0 rfl rfl) (by decide) rfl rfl hl.1 (lv_room (Nat.le_of_ble_eq_true rfl)) dA_when_44 ⟨by decide, by decide⟩ rfl (fun H locs hw => ?_)
    refine lv_aload_n hx hb dA_when_47 rfl (lv_at hl 1 rfl) ?_
    refine lv_iconst (v := 4) hx hb dA_when_48 (by decide) ?_
    refine x_puti C hw 0 0 12 at_0 rfl rfl rfl ⟨rfl, rfl⟩ ⟨by decide, by decide⟩ (Nat.le_of_ble_eq_true rfl) wA_77 dA_when_49 (fun H locs hw => ?_)
    obtain ⟨s18, es18, hf⟩ := x_l hf
    rw [← es18] at hw
    refine lv_aload_n hx hb dA_when_52 rfl (lv_at hl 1 rfl) ?_
    refine x_get C hw 0 0 8 (v := .int (s18.1 0 0 8)) at_0 rfl rfl ⟨by decide, by decide⟩ wA_53 rfl dA_when_53 ?_
    refine lv_iconst (v := 1) hx hb dA_when_56 (by decide) ?_
    refine lv_isub hx hb dA_when_57 ?_
    obtain rfl := Option.some.inj hf
    exact x_iret C hw dA_when_58
  · replace hf := x_in c13 hf
    refine lv_iload_n hx hb dA_when_34 rfl (lv_at hl 0 rfl) ?_
    obtain rfl := Option.some.inj hf
    exact x_iret C hw dA_when_35
set_option maxHeartbeats 4000000 in
set_option maxRecDepth 100000 in
theorem cA_when (l : Launch) (E : xE) (σ : xS) (τ : yS) (res : Int32 × xS) (hf : fA_when σ = some res) : xM l E yA_when bA_when 2 (some .int) 5 0 0 [.ref (E.2.2.1 0 0)] σ τ (some (.int res.1)) res.2 τ := by
  refine x_met (by decide) (Nat.le_of_ble_eq_true rfl) (fun p e R s m args below meth c A ls H locs C hw hl => ?_)
  have hl : lv_has ls 2 [(0, .ref (E.2.2.1 0 0))] := hl
  have hx := C.1
  have hb := C.2.1
  unfold fA_when at hf
  refine lv_aload_n hx hb dA_when_0 rfl (lv_at hl 0 rfl) ?_
  refine x_get C hw 0 0 8 (v := .int (σ.1 0 0 8)) at_0 rfl rfl ⟨by decide, by decide⟩ wA_53 rfl dA_when_1 ?_
  refine lv_bipush (v := 16) hx hb dA_when_4 (by decide) ?_
  refine lv_icmp_lt (tgt := 12) hx hb dA_when_6 (by decide) (fun c19 => ?_) (fun c19 => ?_)
  · replace hf := x_ip c19 hf
    refine lv_aload_n hx hb dA_when_12 rfl (lv_at hl 0 rfl) ?_
    refine lv_aload_n hx hb dA_when_13 rfl (lv_at hl 0 rfl) ?_
    refine x_get C hw 0 0 12 (v := .int (σ.1 0 0 12)) at_0 rfl rfl ⟨by decide, by decide⟩ wA_77 rfl dA_when_14 ?_
    refine lv_iconst (v := 1) hx hb dA_when_17 (by decide) ?_
    refine lv_icmp_eq (tgt := 25) hx hb dA_when_18 (by decide) (fun c20 => ?_) (fun c20 => ?_)
    · replace hf := x_ip c20 hf
      refine lv_iconst (v := 0) hx hb dA_when_25 (by decide) ?_
      exact wA_when_26 C σ 0 res hf H locs ls hw (lv_sub hl [0] rfl)
    · replace hf := x_in c20 hf
      refine lv_iconst (v := 1) hx hb dA_when_21 (by decide) ?_
      refine lv_goto (tgt := 26) hx hb dA_when_22 (by decide) ?_
      exact wA_when_26 C σ 1 res hf H locs ls hw (lv_sub hl [0] rfl)
  · replace hf := x_in c19 hf
    refine lv_bipush (v := (-2)) hx hb dA_when_9 (by decide) ?_
    obtain rfl := Option.some.inj hf
    exact x_iret C hw dA_when_11
-- StandIns isAnswer (II)Z
set_option maxRecDepth 100000 in
theorem dA_isAnswer_0 : decode bA_isAnswer 0 = .ok (.iload_n 0, 1) := by decide +kernel
set_option maxRecDepth 100000 in
theorem dA_isAnswer_1 : decode bA_isAnswer 1 = .ok (.tableswitch 47 0 3 #[31, 33, 41, 31], 31) := by decide +kernel
set_option maxRecDepth 100000 in
theorem dA_isAnswer_32 : decode bA_isAnswer 32 = .ok (.iconst 1, 1) := by decide +kernel
set_option maxRecDepth 100000 in
theorem dA_isAnswer_33 : decode bA_isAnswer 33 = .ok (.ireturn, 1) := by decide +kernel
set_option maxRecDepth 100000 in
theorem dA_isAnswer_34 : decode bA_isAnswer 34 = .ok (.iload_n 1, 1) := by decide +kernel
set_option maxRecDepth 100000 in
theorem dA_isAnswer_35 : decode bA_isAnswer 35 = .ok (.sipush 1000, 3) := by decide +kernel
set_option maxRecDepth 100000 in
theorem dA_isAnswer_38 : decode bA_isAnswer 38 = .ok (.invokestatic 97, 3) := by decide +kernel
set_option maxRecDepth 100000 in
theorem dA_isAnswer_41 : decode bA_isAnswer 41 = .ok (.ireturn, 1) := by decide +kernel
set_option maxRecDepth 100000 in
theorem dA_isAnswer_42 : decode bA_isAnswer 42 = .ok (.iload_n 1, 1) := by decide +kernel
set_option maxRecDepth 100000 in
theorem dA_isAnswer_43 : decode bA_isAnswer 43 = .ok (.iconst 2, 1) := by decide +kernel
set_option maxRecDepth 100000 in
theorem dA_isAnswer_44 : decode bA_isAnswer 44 = .ok (.invokestatic 97, 3) := by decide +kernel
set_option maxRecDepth 100000 in
theorem dA_isAnswer_47 : decode bA_isAnswer 47 = .ok (.ireturn, 1) := by decide +kernel
set_option maxRecDepth 100000 in
theorem dA_isAnswer_48 : decode bA_isAnswer 48 = .ok (.iconst 0, 1) := by decide +kernel
set_option maxRecDepth 100000 in
theorem dA_isAnswer_49 : decode bA_isAnswer 49 = .ok (.ireturn, 1) := by decide +kernel
def fA_isAnswer (a0 : Int32) (a1 : Int32) : Int32 :=
  if a0 = 0 then
  (1)
  else
  (if a0 = 1 then
  (fA_isBelow a1 1000)
  else
  (if a0 = 2 then
  (fA_isBelow a1 2)
  else
  (if a0 = 3 then
  (1)
  else
  (0))))
set_option maxHeartbeats 4000000 in
set_option maxRecDepth 100000 in
theorem cA_isAnswer (l : Launch) (E : xE) (σ : xS) (τ : yS) (a0 : Int32) (a1 : Int32) : xM l E yA_isAnswer bA_isAnswer 2 (some .boolean) 1 0 0 [.int a0, .int a1] σ τ (some (.int (fA_isAnswer a0 a1))) σ τ := by
  refine x_met (by decide) (Nat.le_of_ble_eq_true rfl) (fun p e R s m args below meth c A ls H locs C hw hl => ?_)
  have hl : lv_has ls 2 [(0, .int a0), (1, .int a1)] := hl
  have hx := C.1
  have hb := C.2.1
  obtain ⟨res, hf⟩ : ∃ z, fA_isAnswer a0 a1 = z := ⟨_, rfl⟩
  rw [hf]
  unfold fA_isAnswer at hf
  refine lv_iload_n hx hb dA_isAnswer_0 rfl (lv_at hl 0 rfl) ?_
  by_cases c1 : a0 = 0
  · replace hf := x_ip c1 hf
    refine lv_tableIn (tgt := 32) hx hb dA_isAnswer_1 (by rw [c1]; decide) (by rw [c1]; decide) (by rw [c1]; rfl) (by decide) ?_
    refine lv_iconst (v := 1) hx hb dA_isAnswer_32 (by decide) ?_
    obtain rfl := hf
    exact x_zret C hw (x_nz (v := 1) (Or.inr rfl)) dA_isAnswer_33
  · replace hf := x_in c1 hf
    by_cases c2 : a0 = 1
    · replace hf := x_ip c2 hf
      refine lv_tableIn (tgt := 34) hx hb dA_isAnswer_1 (by rw [c2]; decide) (by rw [c2]; decide) (by rw [c2]; rfl) (by decide) ?_
      refine lv_iload_n hx hb dA_isAnswer_34 rfl (lv_at hl 1 rfl) ?_
      refine lv_sipush (v := 1000) hx hb dA_isAnswer_35 (by decide) ?_
      refine x_callS (As := [.int a1, .int 1000]) (rest := []) (st1 := [.int (fA_isBelow a1 1000)]) C hw (cA_isBelow l E σ τ a1 1000) kA_97 (by decide) rfl rfl hl.1 (lv_room (Nat.le_of_ble_eq_true rfl)) dA_isAnswer_38 ⟨by decide, by decide⟩ rfl (fun H locs hw => ?_)
      obtain rfl := hf
      exact x_zret C hw (zA_isBelow a1 1000) dA_isAnswer_41
    · replace hf := x_in c2 hf
      by_cases c4 : a0 = 2
      · replace hf := x_ip c4 hf
        refine lv_tableIn (tgt := 42) hx hb dA_isAnswer_1 (by rw [c4]; decide) (by rw [c4]; decide) (by rw [c4]; rfl) (by decide) ?_
        refine lv_iload_n hx hb dA_isAnswer_42 rfl (lv_at hl 1 rfl) ?_
        refine lv_iconst (v := 2) hx hb dA_isAnswer_43 (by decide) ?_
        refine x_callS (As := [.int a1, .int 2]) (rest := []) (st1 := [.int (fA_isBelow a1 2)]) C hw (cA_isBelow l E σ τ a1 2) kA_97 (by decide) rfl rfl hl.1 (lv_room (Nat.le_of_ble_eq_true rfl)) dA_isAnswer_44 ⟨by decide, by decide⟩ rfl (fun H locs hw => ?_)
        obtain rfl := hf
        exact x_zret C hw (zA_isBelow a1 2) dA_isAnswer_47
      · replace hf := x_in c4 hf
        by_cases c6 : a0 = 3
        · replace hf := x_ip c6 hf
          refine lv_tableIn (tgt := 32) hx hb dA_isAnswer_1 (by rw [c6]; decide) (by rw [c6]; decide) (by rw [c6]; rfl) (by decide) ?_
          refine lv_iconst (v := 1) hx hb dA_isAnswer_32 (by decide) ?_
          obtain rfl := hf
          exact x_zret C hw (x_nz (v := 1) (Or.inr rfl)) dA_isAnswer_33
        · replace hf := x_in c6 hf
          refine lv_tableOut (tgt := 48) hx hb dA_isAnswer_1 (by have nc1 := lv_neT c1 (a := 0) (by decide); have nc2 := lv_neT c2 (a := 1) (by decide); have nc4 := lv_neT c4 (a := 2) (by decide); have nc6 := lv_neT c6 (a := 3) (by decide); omega) (by decide) ?_
          refine lv_iconst (v := 0) hx hb dA_isAnswer_48 (by decide) ?_
          obtain rfl := hf
          exact x_zret C hw (x_nz (v := 0) (Or.inl rfl)) dA_isAnswer_49
theorem zA_isAnswer (a0 : Int32) (a1 : Int32) : narrow .boolean (.int (fA_isAnswer a0 a1)) = .int (fA_isAnswer a0 a1) := by
  unfold fA_isAnswer
  (repeat' split) <;> first | rfl | exact zA_isBelow _ _ | exact zA_isBelow _ _
-- StandIns answer (II)I
set_option maxRecDepth 100000 in
theorem dA_answer_0 : decode bA_answer 0 = .ok (.iload_n 1, 1) := by decide +kernel
set_option maxRecDepth 100000 in
theorem dA_answer_1 : decode bA_answer 1 = .ok (.iload_n 2, 1) := by decide +kernel
set_option maxRecDepth 100000 in
theorem dA_answer_2 : decode bA_answer 2 = .ok (.invokestatic 204, 3) := by decide +kernel
set_option maxRecDepth 100000 in
theorem dA_answer_5 : decode bA_answer 5 = .ok (.ifCond .ne 5, 3) := by decide +kernel
set_option maxRecDepth 100000 in
theorem dA_answer_8 : decode bA_answer 8 = .ok (.iconst (-1), 1) := by decide +kernel
set_option maxRecDepth 100000 in
theorem dA_answer_9 : decode bA_answer 9 = .ok (.ireturn, 1) := by decide +kernel
set_option maxRecDepth 100000 in
theorem dA_answer_10 : decode bA_answer 10 = .ok (.aload_n 0, 1) := by decide +kernel
set_option maxRecDepth 100000 in
theorem dA_answer_11 : decode bA_answer 11 = .ok (.getfield 77, 3) := by decide +kernel
set_option maxRecDepth 100000 in
theorem dA_answer_14 : decode bA_answer 14 = .ok (.iconst 4, 1) := by decide +kernel
set_option maxRecDepth 100000 in
theorem dA_answer_15 : decode bA_answer 15 = .ok (.if_icmp .ne 13, 3) := by decide +kernel
set_option maxRecDepth 100000 in
theorem dA_answer_18 : decode bA_answer 18 = .ok (.aload_n 0, 1) := by decide +kernel
set_option maxRecDepth 100000 in
theorem dA_answer_19 : decode bA_answer 19 = .ok (.invokevirtual 207, 3) := by decide +kernel
set_option maxRecDepth 100000 in
theorem dA_answer_22 : decode bA_answer 22 = .ok (.getfield 211, 3) := by decide +kernel
set_option maxRecDepth 100000 in
theorem dA_answer_25 : decode bA_answer 25 = .ok (.goto 7, 3) := by decide +kernel
set_option maxRecDepth 100000 in
theorem dA_answer_28 : decode bA_answer 28 = .ok (.aload_n 0, 1) := by decide +kernel
set_option maxRecDepth 100000 in
theorem dA_answer_29 : decode bA_answer 29 = .ok (.getfield 36, 3) := by decide +kernel
set_option maxRecDepth 100000 in
theorem dA_answer_32 : decode bA_answer 32 = .ok (.astore_n 3, 1) := by decide +kernel
set_option maxRecDepth 100000 in
theorem dA_answer_33 : decode bA_answer 33 = .ok (.aload_n 3, 1) := by decide +kernel
set_option maxRecDepth 100000 in
theorem dA_answer_34 : decode bA_answer 34 = .ok (.getfield 214, 3) := by decide +kernel
set_option maxRecDepth 100000 in
theorem dA_answer_37 : decode bA_answer 37 = .ok (.iconst 4, 1) := by decide +kernel
set_option maxRecDepth 100000 in
theorem dA_answer_38 : decode bA_answer 38 = .ok (.if_icmp .lt 6, 3) := by decide +kernel
set_option maxRecDepth 100000 in
theorem dA_answer_41 : decode bA_answer 41 = .ok (.bipush (-2), 2) := by decide +kernel
set_option maxRecDepth 100000 in
theorem dA_answer_43 : decode bA_answer 43 = .ok (.ireturn, 1) := by decide +kernel
set_option maxRecDepth 100000 in
theorem dA_answer_44 : decode bA_answer 44 = .ok (.aload_n 0, 1) := by decide +kernel
set_option maxRecDepth 100000 in
theorem dA_answer_45 : decode bA_answer 45 = .ok (.getfield 77, 3) := by decide +kernel
set_option maxRecDepth 100000 in
theorem dA_answer_48 : decode bA_answer 48 = .ok (.iconst 4, 1) := by decide +kernel
set_option maxRecDepth 100000 in
theorem dA_answer_49 : decode bA_answer 49 = .ok (.if_icmp .ne 33, 3) := by decide +kernel
set_option maxRecDepth 100000 in
theorem dA_answer_52 : decode bA_answer 52 = .ok (.aload_n 0, 1) := by decide +kernel
set_option maxRecDepth 100000 in
theorem dA_answer_53 : decode bA_answer 53 = .ok (.aload_n 0, 1) := by decide +kernel
set_option maxRecDepth 100000 in
theorem dA_answer_54 : decode bA_answer 54 = .ok (.getfield 73, 3) := by decide +kernel
set_option maxRecDepth 100000 in
theorem dA_answer_57 : decode bA_answer 57 = .ok (.getfield 170, 3) := by decide +kernel
set_option maxRecDepth 100000 in
theorem dA_answer_60 : decode bA_answer 60 = .ok (.aload_n 0, 1) := by decide +kernel
set_option maxRecDepth 100000 in
theorem dA_answer_61 : decode bA_answer 61 = .ok (.getfield 73, 3) := by decide +kernel
set_option maxRecDepth 100000 in
theorem dA_answer_64 : decode bA_answer 64 = .ok (.getfield 173, 3) := by decide +kernel
set_option maxRecDepth 100000 in
theorem dA_answer_67 : decode bA_answer 67 = .ok (.invokevirtual 160, 3) := by decide +kernel
set_option maxRecDepth 100000 in
theorem dA_answer_70 : decode bA_answer 70 = .ok (.iload_n 1, 1) := by decide +kernel
set_option maxRecDepth 100000 in
theorem dA_answer_71 : decode bA_answer 71 = .ok (.iload_n 2, 1) := by decide +kernel
set_option maxRecDepth 100000 in
theorem dA_answer_72 : decode bA_answer 72 = .ok (.invokevirtual 215, 3) := by decide +kernel
set_option maxRecDepth 100000 in
theorem dA_answer_75 : decode bA_answer 75 = .ok (.ifCond .ne 7, 3) := by decide +kernel
set_option maxRecDepth 100000 in
theorem dA_answer_78 : decode bA_answer 78 = .ok (.iconst 1, 1) := by decide +kernel
set_option maxRecDepth 100000 in
theorem dA_answer_79 : decode bA_answer 79 = .ok (.goto 4, 3) := by decide +kernel
set_option maxRecDepth 100000 in
theorem dA_answer_82 : decode bA_answer 82 = .ok (.iconst 0, 1) := by decide +kernel
set_option maxRecDepth 100000 in
theorem dA_answer_83 : decode bA_answer 83 = .ok (.istore 4, 2) := by decide +kernel
set_option maxRecDepth 100000 in
theorem dA_answer_85 : decode bA_answer 85 = .ok (.aload_n 0, 1) := by decide +kernel
set_option maxRecDepth 100000 in
theorem dA_answer_86 : decode bA_answer 86 = .ok (.aload_n 0, 1) := by decide +kernel
set_option maxRecDepth 100000 in
theorem dA_answer_87 : decode bA_answer 87 = .ok (.invokevirtual 147, 3) := by decide +kernel
set_option maxRecDepth 100000 in
theorem dA_answer_90 : decode bA_answer 90 = .ok (.aload_n 0, 1) := by decide +kernel
set_option maxRecDepth 100000 in
theorem dA_answer_91 : decode bA_answer 91 = .ok (.getfield 29, 3) := by decide +kernel
set_option maxRecDepth 100000 in
theorem dA_answer_94 : decode bA_answer 94 = .ok (.getfield 121, 3) := by decide +kernel
set_option maxRecDepth 100000 in
theorem dA_answer_97 : decode bA_answer 97 = .ok (.ifCond .le 7, 3) := by decide +kernel
set_option maxRecDepth 100000 in
theorem dA_answer_100 : decode bA_answer 100 = .ok (.iconst 1, 1) := by decide +kernel
set_option maxRecDepth 100000 in
theorem dA_answer_101 : decode bA_answer 101 = .ok (.goto 4, 3) := by decide +kernel
set_option maxRecDepth 100000 in
theorem dA_answer_104 : decode bA_answer 104 = .ok (.iconst 0, 1) := by decide +kernel
set_option maxRecDepth 100000 in
theorem dA_answer_105 : decode bA_answer 105 = .ok (.iload 4, 2) := by decide +kernel
set_option maxRecDepth 100000 in
theorem dA_answer_107 : decode bA_answer 107 = .ok (.invokevirtual 132, 3) := by decide +kernel
set_option maxRecDepth 100000 in
theorem dA_answer_110 : decode bA_answer 110 = .ok (.istore 5, 2) := by decide +kernel
set_option maxRecDepth 100000 in
theorem dA_answer_112 : decode bA_answer 112 = .ok (.iload 5, 2) := by decide +kernel
set_option maxRecDepth 100000 in
theorem dA_answer_114 : decode bA_answer 114 = .ok (.ifCond .eq 6, 3) := by decide +kernel
set_option maxRecDepth 100000 in
theorem dA_answer_117 : decode bA_answer 117 = .ok (.iload 5, 2) := by decide +kernel
set_option maxRecDepth 100000 in
theorem dA_answer_119 : decode bA_answer 119 = .ok (.ireturn, 1) := by decide +kernel
set_option maxRecDepth 100000 in
theorem dA_answer_120 : decode bA_answer 120 = .ok (.aload_n 3, 1) := by decide +kernel
set_option maxRecDepth 100000 in
theorem dA_answer_121 : decode bA_answer 121 = .ok (.iload_n 1, 1) := by decide +kernel
set_option maxRecDepth 100000 in
theorem dA_answer_122 : decode bA_answer 122 = .ok (.iload_n 2, 1) := by decide +kernel
set_option maxRecDepth 100000 in
theorem dA_answer_123 : decode bA_answer 123 = .ok (.invokevirtual 218, 3) := by decide +kernel
set_option maxRecDepth 100000 in
theorem dA_answer_126 : decode bA_answer 126 = .ok (.aload_n 0, 1) := by decide +kernel
set_option maxRecDepth 100000 in
theorem dA_answer_127 : decode bA_answer 127 = .ok (.getfield 77, 3) := by decide +kernel
set_option maxRecDepth 100000 in
theorem dA_answer_130 : decode bA_answer 130 = .ok (.iconst 4, 1) := by decide +kernel
set_option maxRecDepth 100000 in
theorem dA_answer_131 : decode bA_answer 131 = .ok (.if_icmp .ne 10, 3) := by decide +kernel
set_option maxRecDepth 100000 in
theorem dA_answer_134 : decode bA_answer 134 = .ok (.aload_n 3, 1) := by decide +kernel
set_option maxRecDepth 100000 in
theorem dA_answer_135 : decode bA_answer 135 = .ok (.getfield 214, 3) := by decide +kernel
set_option maxRecDepth 100000 in
theorem dA_answer_138 : decode bA_answer 138 = .ok (.goto 11, 3) := by decide +kernel
set_option maxRecDepth 100000 in
theorem dA_answer_141 : decode bA_answer 141 = .ok (.aload_n 0, 1) := by decide +kernel
set_option maxRecDepth 100000 in
theorem dA_answer_142 : decode bA_answer 142 = .ok (.aload_n 3, 1) := by decide +kernel
set_option maxRecDepth 100000 in
theorem dA_answer_143 : decode bA_answer 143 = .ok (.getfield 214, 3) := by decide +kernel
set_option maxRecDepth 100000 in
theorem dA_answer_146 : decode bA_answer 146 = .ok (.invokevirtual 112, 3) := by decide +kernel
set_option maxRecDepth 100000 in
theorem dA_answer_149 : decode bA_answer 149 = .ok (.ireturn, 1) := by decide +kernel
def fA_answer_105 (σ : xS) (a1 : Int32) (a2 : Int32) (k3 : Nat) (a4 : Int32) (t0 : Int32) (t1 : Int32) : Option (Int32 × xS) :=
  xb (fA_misuseIf σ t1 t0 a4) fun r23 s24 =>
  if r23 = 0 then
  (xp (fQ_add s24 k3 a1 a2) fun s27 =>
  if k3 < 17 then
  if (s27.1 0 0 12) = 4 then
  (some (s27.1 18 k3 2, s27))
  else
  (xl (fA_idleWith s27 (s27.1 18 k3 2)) fun s31 =>
  some (s31.1, s31.2))
  else none)
  else
  (some (r23, s24))
def fA_answer_83 (σ : xS) (a1 : Int32) (a2 : Int32) (k3 : Nat) (t0 : Int32) : Option (Int32 × xS) :=
  if (σ.1 4 0 1) ≤ 0 then
  (fA_answer_105 σ a1 a2 k3 t0 0 (fA_awaitsCall σ))
  else
  (fA_answer_105 σ a1 a2 k3 t0 1 (fA_awaitsCall σ))
def fA_answer_82 (σ : xS) (a1 : Int32) (a2 : Int32) (k3 : Nat) : Option (Int32 × xS) :=
  fA_answer_83 σ a1 a2 k3 0
def fA_answer_32 (σ : xS) (a1 : Int32) (a2 : Int32) (t0 : Nat) : Option (Int32 × xS) :=
  if t0 < 17 then
  if (σ.1 18 t0 2) < 4 then
  (if (σ.1 0 0 12) = 4 then
  (xp (fA_methodOf σ (σ.1 17 16 0) (σ.1 17 16 1)) fun r38 =>
  xp (fD_canDo σ r38 a1 a2) fun r40 =>
  if r38 < 12 then
  if r40 = 0 then
  (fA_answer_83 σ a1 a2 t0 1)
  else
  (fA_answer_82 σ a1 a2 t0)
  else none)
  else
  (fA_answer_82 σ a1 a2 t0))
  else
  (some ((-2), σ))
  else none
def fA_answer (σ : xS) (a1 : Int32) (a2 : Int32) : Option (Int32 × xS) :=
  if (fA_isAnswer a1 a2) = 0 then
  (some ((-1), σ))
  else
  (if (σ.1 0 0 12) = 4 then
  (xp (fA_latestTelling σ) fun r47 =>
  if r47 < 16 then
  fA_answer_32 σ a1 a2 r47
  else none)
  else
  (fA_answer_32 σ a1 a2 16))
set_option maxHeartbeats 4000000 in
set_option maxRecDepth 100000 in
theorem wA_answer_105 {p : Program} {l : Launch} {e : Env} {R : Room} {s : State} {m : MethodId} {args : Array Value} {below : List Frame} {meth : Method} {c : Code} {E : xE} {A : Nat → Prop} {τ : yS} (C : xC p s m args meth c R E A bA_answer 6 yA_answer (some .int) 4 0 0) (σ : xS) (a1 : Int32) (a2 : Int32) (k3 : Nat) (a4 : Int32) (t0 : Int32) (t1 : Int32) (res : Int32 × xS) (hf : fA_answer_105 σ a1 a2 k3 a4 t0 t1 = some res) (H : Heap) (locs : List Loc) (ls : Array Slot) (hw : xW E A s σ τ H locs) (hl : lv_has ls 6 [(0, .ref (E.2.2.1 0 0)), (1, .int a1), (2, .int a2), (3, .ref (E.2.2.1 18 k3)), (4, .int a4)]) : W p l e R s m args below meth c H locs 0 0 (MQ below (xQ E A (some (.int res.1)) res.2 τ) args s 0 0 A) (F0 m 105 ls [.int t0, .int t1, .ref (E.2.2.1 0 0)]) := by
  have hx := C.1
  have hb := C.2.1
  unfold fA_answer_105 at hf
  refine lv_iload hx hb dA_answer_105 (lv_at hl 4 rfl) ?_
  obtain ⟨r23, s24, h22, hf⟩ := x_b hf
  refine x_callV (As := [.int t1, .int t0, .int a4]) (rest := []) (st1 := [.int r23]) C hw (cA_misuseIf l E σ τ t1 t0 a4 (r23, s24) h22) kA_132 (x_recv C hw 0 0 at_0 rfl rfl) (by decide) rfl rfl hl.1 (lv_room (Nat.le_of_ble_eq_true rfl)) dA_answer_107 ⟨by decide, by decide⟩ rfl (fun H locs hw => ?_)
  refine lv_istore (lv' := [(5, .int r23), (0, .ref (E.2.2.1 0 0)), (1, .int a1), (2, .int a2), (3, .ref (E.2.2.1 18 k3)), (4, .int a4)]) hx hb dA_answer_110 hl (by decide) rfl (fun ls hl => ?_)
  refine lv_iload hx hb dA_answer_112 (lv_at hl 0 rfl) ?_
  refine lv_if_eq (tgt := 120) hx hb dA_answer_114 (by decide) (fun c25 => ?_) (fun c25 => ?_)
  · replace hf := x_ip c25 hf
    refine lv_aload_n hx hb dA_answer_120 rfl (lv_at hl 4 rfl) ?_
    refine lv_iload_n hx hb dA_answer_121 rfl (lv_at hl 2 rfl) ?_
    refine lv_iload_n hx hb dA_answer_122 rfl (lv_at hl 3 rfl) ?_
    obtain ⟨s27, h26, hf⟩ := x_p hf
    obtain ⟨g28, hf⟩ := x_g hf
    refine x_callVN (As := [.int a1, .int a2]) (rest := []) (st1 := []) C hw (cQ_add l E s24 τ k3 a1 a2 s27 h26) kA_218 (x_recv C hw 18 k3 (at_18 g28) rfl rfl) (by decide) rfl rfl hl.1 (lv_room (Nat.le_of_ble_eq_true rfl)) dA_answer_123 ⟨by decide, by decide⟩ rfl (fun H locs hw => ?_)
    refine lv_aload_n hx hb dA_answer_126 rfl (lv_at hl 1 rfl) ?_
    refine x_get C hw 0 0 12 (v := .int (s27.1 0 0 12)) at_0 rfl rfl ⟨by decide, by decide⟩ wA_77 rfl dA_answer_127 ?_
    refine lv_iconst (v := 4) hx hb dA_answer_130 (by decide) ?_
    refine lv_icmp_ne (tgt := 141) hx hb dA_answer_131 (by decide) (fun c29 => ?_) (fun c29 => ?_)
    · replace hf := x_in c29 hf
      refine lv_aload_n hx hb dA_answer_141 rfl (lv_at hl 1 rfl) ?_
      refine lv_aload_n hx hb dA_answer_142 rfl (lv_at hl 4 rfl) ?_
      refine x_getN C hw 18 k3 2 (v := .int (s27.1 18 k3 2)) (at_18 g28) rfl rfl ⟨by decide, by decide⟩ wA_214 rfl dA_answer_143 ?_
      obtain ⟨s31, h30, hf⟩ := x_l hf
      refine x_callV (As := [.int (s27.1 18 k3 2)]) (rest := []) (st1 := [.int s31.1]) C hw (cA_idleWith l E s27 τ (s27.1 18 k3 2) s31 h30.symm) kA_112 (x_recv C hw 0 0 at_0 rfl rfl) (by decide) rfl rfl hl.1 (lv_room (Nat.le_of_ble_eq_true rfl)) dA_answer_146 ⟨by decide, by decide⟩ rfl (fun H locs hw => ?_)
      obtain rfl := Option.some.inj hf
      exact x_iret C hw dA_answer_149
    · replace hf := x_ip c29 hf
      refine lv_aload_n hx hb dA_answer_134 rfl (lv_at hl 4 rfl) ?_
      refine x_getN C hw 18 k3 2 (v := .int (s27.1 18 k3 2)) (at_18 g28) rfl rfl ⟨by decide, by decide⟩ wA_214 rfl dA_answer_135 ?_
      refine lv_goto (tgt := 149) hx hb dA_answer_138 (by decide) ?_
      obtain rfl := Option.some.inj hf
      exact x_iret C hw dA_answer_149
  · replace hf := x_in c25 hf
    refine lv_iload hx hb dA_answer_117 (lv_at hl 0 rfl) ?_
    obtain rfl := Option.some.inj hf
    exact x_iret C hw dA_answer_119
set_option maxHeartbeats 4000000 in
set_option maxRecDepth 100000 in
theorem wA_answer_83 {p : Program} {l : Launch} {e : Env} {R : Room} {s : State} {m : MethodId} {args : Array Value} {below : List Frame} {meth : Method} {c : Code} {E : xE} {A : Nat → Prop} {τ : yS} (C : xC p s m args meth c R E A bA_answer 6 yA_answer (some .int) 4 0 0) (σ : xS) (a1 : Int32) (a2 : Int32) (k3 : Nat) (t0 : Int32) (res : Int32 × xS) (hf : fA_answer_83 σ a1 a2 k3 t0 = some res) (H : Heap) (locs : List Loc) (ls : Array Slot) (hw : xW E A s σ τ H locs) (hl : lv_has ls 6 [(0, .ref (E.2.2.1 0 0)), (1, .int a1), (2, .int a2), (3, .ref (E.2.2.1 18 k3))]) : W p l e R s m args below meth c H locs 0 0 (MQ below (xQ E A (some (.int res.1)) res.2 τ) args s 0 0 A) (F0 m 83 ls [.int t0]) := by
  have hx := C.1
  have hb := C.2.1
  unfold fA_answer_83 at hf
  refine lv_istore (lv' := [(4, .int t0), (0, .ref (E.2.2.1 0 0)), (1, .int a1), (2, .int a2), (3, .ref (E.2.2.1 18 k3))]) hx hb dA_answer_83 hl (by decide) rfl (fun ls hl => ?_)
  refine lv_aload_n hx hb dA_answer_85 rfl (lv_at hl 1 rfl) ?_
  refine lv_aload_n hx hb dA_answer_86 rfl (lv_at hl 1 rfl) ?_
  refine x_callV (As := []) (rest := [.ref (E.2.2.1 0 0)]) (st1 := [.int (fA_awaitsCall σ), .ref (E.2.2.1 0 0)]) C hw (cA_awaitsCall l E σ τ) kA_147 (x_recv C hw 0 0 at_0 rfl rfl) (by decide) rfl rfl hl.1 (lv_room (Nat.le_of_ble_eq_true rfl)) dA_answer_87 ⟨by decide, by decide⟩ rfl (fun H locs hw => ?_)
  refine lv_aload_n hx hb dA_answer_90 rfl (lv_at hl 1 rfl) ?_
  refine x_get C hw 0 0 4 (v := .ref (E.2.2.1 4 0)) at_0 rfl rfl ⟨by decide, by decide⟩ wA_29 rfl dA_answer_91 ?_
  refine x_getN C hw 4 0 1 (v := .int (σ.1 4 0 1)) at_4 rfl rfl ⟨by decide, by decide⟩ wA_121 rfl dA_answer_94 ?_
  refine lv_if_le (tgt := 104) hx hb dA_answer_97 (by decide) (fun c33 => ?_) (fun c33 => ?_)
  · replace hf := x_ip c33 hf
    refine lv_iconst (v := 0) hx hb dA_answer_104 (by decide) ?_
    exact wA_answer_105 C σ a1 a2 k3 t0 0 (fA_awaitsCall σ) res hf H locs ls hw (lv_sub hl [1, 2, 3, 4, 0] rfl)
  · replace hf := x_in c33 hf
    refine lv_iconst (v := 1) hx hb dA_answer_100 (by decide) ?_
    refine lv_goto (tgt := 105) hx hb dA_answer_101 (by decide) ?_
    exact wA_answer_105 C σ a1 a2 k3 t0 1 (fA_awaitsCall σ) res hf H locs ls hw (lv_sub hl [1, 2, 3, 4, 0] rfl)
set_option maxHeartbeats 4000000 in
set_option maxRecDepth 100000 in
theorem wA_answer_82 {p : Program} {l : Launch} {e : Env} {R : Room} {s : State} {m : MethodId} {args : Array Value} {below : List Frame} {meth : Method} {c : Code} {E : xE} {A : Nat → Prop} {τ : yS} (C : xC p s m args meth c R E A bA_answer 6 yA_answer (some .int) 4 0 0) (σ : xS) (a1 : Int32) (a2 : Int32) (k3 : Nat) (res : Int32 × xS) (hf : fA_answer_82 σ a1 a2 k3 = some res) (H : Heap) (locs : List Loc) (ls : Array Slot) (hw : xW E A s σ τ H locs) (hl : lv_has ls 6 [(0, .ref (E.2.2.1 0 0)), (1, .int a1), (2, .int a2), (3, .ref (E.2.2.1 18 k3))]) : W p l e R s m args below meth c H locs 0 0 (MQ below (xQ E A (some (.int res.1)) res.2 τ) args s 0 0 A) (F0 m 82 ls []) := by
  have hx := C.1
  have hb := C.2.1
  unfold fA_answer_82 at hf
  refine lv_iconst (v := 0) hx hb dA_answer_82 (by decide) ?_
  exact wA_answer_83 C σ a1 a2 k3 0 res hf H locs ls hw (lv_sub hl [0, 1, 2, 3] rfl)
set_option maxHeartbeats 4000000 in
set_option maxRecDepth 100000 in
theorem wA_answer_32 {p : Program} {l : Launch} {e : Env} {R : Room} {s : State} {m : MethodId} {args : Array Value} {below : List Frame} {meth : Method} {c : Code} {E : xE} {A : Nat → Prop} {τ : yS} (C : xC p s m args meth c R E A bA_answer 6 yA_answer (some .int) 4 0 0) (σ : xS) (a1 : Int32) (a2 : Int32) (t0 : Nat) (res : Int32 × xS) (hf : fA_answer_32 σ a1 a2 t0 = some res) (H : Heap) (locs : List Loc) (ls : Array Slot) (hw : xW E A s σ τ H locs) (hl : lv_has ls 6 [(0, .ref (E.2.2.1 0 0)), (1, .int a1), (2, .int a2)]) : W p l e R s m args below meth c H locs 0 0 (MQ below (xQ E A (some (.int res.1)) res.2 τ) args s 0 0 A) (F0 m 32 ls [.ref (E.2.2.1 18 t0)]) := by
  have hx := C.1
  have hb := C.2.1
  unfold fA_answer_32 at hf
  refine lv_astore_n (lv' := [(3, .ref (E.2.2.1 18 t0)), (0, .ref (E.2.2.1 0 0)), (1, .int a1), (2, .int a2)]) hx hb dA_answer_32 rfl hl (by decide) rfl (fun ls hl => ?_)
  refine lv_aload_n hx hb dA_answer_33 rfl (lv_at hl 0 rfl) ?_
  obtain ⟨g34, hf⟩ := x_g hf
  refine x_getN C hw 18 t0 2 (v := .int (σ.1 18 t0 2)) (at_18 g34) rfl rfl ⟨by decide, by decide⟩ wA_214 rfl dA_answer_34 ?_
  refine lv_iconst (v := 4) hx hb dA_answer_37 (by decide) ?_
  refine lv_icmp_lt (tgt := 44) hx hb dA_answer_38 (by decide) (fun c35 => ?_) (fun c35 => ?_)
  · replace hf := x_ip c35 hf
    refine lv_aload_n hx hb dA_answer_44 rfl (lv_at hl 1 rfl) ?_
    refine x_get C hw 0 0 12 (v := .int (σ.1 0 0 12)) at_0 rfl rfl ⟨by decide, by decide⟩ wA_77 rfl dA_answer_45 ?_
    refine lv_iconst (v := 4) hx hb dA_answer_48 (by decide) ?_
    refine lv_icmp_ne (tgt := 82) hx hb dA_answer_49 (by decide) (fun c36 => ?_) (fun c36 => ?_)
    · replace hf := x_in c36 hf
      exact wA_answer_82 C σ a1 a2 t0 res hf H locs ls hw (lv_sub hl [1, 2, 3, 0] rfl)
    · replace hf := x_ip c36 hf
      refine lv_aload_n hx hb dA_answer_52 rfl (lv_at hl 1 rfl) ?_
      refine lv_aload_n hx hb dA_answer_53 rfl (lv_at hl 1 rfl) ?_
      refine x_get C hw 0 0 11 (v := .ref (E.2.2.1 17 16)) at_0 rfl rfl ⟨by decide, by decide⟩ wA_73 rfl dA_answer_54 ?_
      refine x_getN C hw 17 16 0 (v := .int (σ.1 17 16 0)) (at_17 (by decide)) rfl rfl ⟨by decide, by decide⟩ wA_170 rfl dA_answer_57 ?_
      refine lv_aload_n hx hb dA_answer_60 rfl (lv_at hl 1 rfl) ?_
      refine x_get C hw 0 0 11 (v := .ref (E.2.2.1 17 16)) at_0 rfl rfl ⟨by decide, by decide⟩ wA_73 rfl dA_answer_61 ?_
      refine x_getN C hw 17 16 1 (v := .int (σ.1 17 16 1)) (at_17 (by decide)) rfl rfl ⟨by decide, by decide⟩ wA_173 rfl dA_answer_64 ?_
      obtain ⟨r38, h37, hf⟩ := x_p hf
      refine x_callV (As := [.int (σ.1 17 16 0), .int (σ.1 17 16 1)]) (rest := []) (st1 := [.ref (E.2.2.1 14 r38)]) C hw (cA_methodOf l E σ τ (σ.1 17 16 0) (σ.1 17 16 1) r38 h37) kA_160 (x_recv C hw 0 0 at_0 rfl rfl) (by decide) rfl rfl hl.1 (lv_room (Nat.le_of_ble_eq_true rfl)) dA_answer_67 ⟨by decide, by decide⟩ rfl (fun H locs hw => ?_)
      refine lv_iload_n hx hb dA_answer_70 rfl (lv_at hl 2 rfl) ?_
      refine lv_iload_n hx hb dA_answer_71 rfl (lv_at hl 3 rfl) ?_
      obtain ⟨r40, h39, hf⟩ := x_p hf
      obtain ⟨g41, hf⟩ := x_g hf
      refine x_callVN (As := [.int a1, .int a2]) (rest := []) (st1 := [.int r40]) C hw (cD_canDo l E σ τ r38 a1 a2 r40 h39) kA_215 (x_recv C hw 14 r38 (at_14 g41) rfl rfl) (by decide) rfl rfl hl.1 (lv_room (Nat.le_of_ble_eq_true rfl)) dA_answer_72 ⟨by decide, by decide⟩ rfl (fun H locs hw => ?_)
      refine lv_if_ne (tgt := 82) hx hb dA_answer_75 (by decide) (fun c42 => ?_) (fun c42 => ?_)
      · replace hf := x_in c42 hf
        exact wA_answer_82 C σ a1 a2 t0 res hf H locs ls hw (lv_sub hl [1, 2, 3, 0] rfl)
      · replace hf := x_ip c42 hf
        refine lv_iconst (v := 1) hx hb dA_answer_78 (by decide) ?_
        refine lv_goto (tgt := 83) hx hb dA_answer_79 (by decide) ?_
        exact wA_answer_83 C σ a1 a2 t0 1 res hf H locs ls hw (lv_sub hl [1, 2, 3, 0] rfl)
  · replace hf := x_in c35 hf
    refine lv_bipush (v := (-2)) hx hb dA_answer_41 (by decide) ?_
    obtain rfl := Option.some.inj hf
    exact x_iret C hw dA_answer_43
set_option maxHeartbeats 4000000 in
set_option maxRecDepth 100000 in
theorem cA_answer (l : Launch) (E : xE) (σ : xS) (τ : yS) (a1 : Int32) (a2 : Int32) (res : Int32 × xS) (hf : fA_answer σ a1 a2 = some res) : xM l E yA_answer bA_answer 6 (some .int) 4 0 0 [.ref (E.2.2.1 0 0), .int a1, .int a2] σ τ (some (.int res.1)) res.2 τ := by
  refine x_met (by decide) (Nat.le_of_ble_eq_true rfl) (fun p e R s m args below meth c A ls H locs C hw hl => ?_)
  have hl : lv_has ls 6 [(0, .ref (E.2.2.1 0 0)), (1, .int a1), (2, .int a2)] := hl
  have hx := C.1
  have hb := C.2.1
  unfold fA_answer at hf
  refine lv_iload_n hx hb dA_answer_0 rfl (lv_at hl 1 rfl) ?_
  refine lv_iload_n hx hb dA_answer_1 rfl (lv_at hl 2 rfl) ?_
  refine x_callS (As := [.int a1, .int a2]) (rest := []) (st1 := [.int (fA_isAnswer a1 a2)]) C hw (cA_isAnswer l E σ τ a1 a2) kA_204 (by decide) rfl rfl hl.1 (lv_room (Nat.le_of_ble_eq_true rfl)) dA_answer_2 ⟨by decide, by decide⟩ rfl (fun H locs hw => ?_)
  refine lv_if_ne (tgt := 10) hx hb dA_answer_5 (by decide) (fun c44 => ?_) (fun c44 => ?_)
  · replace hf := x_in c44 hf
    refine lv_aload_n hx hb dA_answer_10 rfl (lv_at hl 0 rfl) ?_
    refine x_get C hw 0 0 12 (v := .int (σ.1 0 0 12)) at_0 rfl rfl ⟨by decide, by decide⟩ wA_77 rfl dA_answer_11 ?_
    refine lv_iconst (v := 4) hx hb dA_answer_14 (by decide) ?_
    refine lv_icmp_ne (tgt := 28) hx hb dA_answer_15 (by decide) (fun c45 => ?_) (fun c45 => ?_)
    · replace hf := x_in c45 hf
      refine lv_aload_n hx hb dA_answer_28 rfl (lv_at hl 0 rfl) ?_
      refine x_get C hw 0 0 5 (v := .ref (E.2.2.1 18 16)) at_0 rfl rfl ⟨by decide, by decide⟩ wA_36 rfl dA_answer_29 ?_
      exact wA_answer_32 C σ a1 a2 16 res hf H locs ls hw (lv_sub hl [0, 1, 2] rfl)
    · replace hf := x_ip c45 hf
      refine lv_aload_n hx hb dA_answer_18 rfl (lv_at hl 0 rfl) ?_
      obtain ⟨r47, h46, hf⟩ := x_p hf
      refine x_callV (As := []) (rest := []) (st1 := [.ref (E.2.2.1 16 r47)]) C hw (cA_latestTelling l E σ τ r47 h46) kA_207 (x_recv C hw 0 0 at_0 rfl rfl) (by decide) rfl rfl hl.1 (lv_room (Nat.le_of_ble_eq_true rfl)) dA_answer_19 ⟨by decide, by decide⟩ rfl (fun H locs hw => ?_)
      obtain ⟨g48, hf⟩ := x_g hf
      refine x_getN C hw 16 r47 1 (v := .ref (E.2.2.1 18 r47)) (at_16 g48) rfl rfl ⟨by decide, by decide⟩ wA_211 rfl dA_answer_22 ?_
      refine lv_goto (tgt := 32) hx hb dA_answer_25 (by decide) ?_
      exact wA_answer_32 C σ a1 a2 r47 res hf H locs ls hw (lv_sub hl [0, 1, 2] rfl)
  · replace hf := x_ip c44 hf
    refine lv_iconst (v := (-1)) hx hb dA_answer_8 (by decide) ?_
    obtain rfl := Option.some.inj hf
    exact x_iret C hw dA_answer_9
-- StandIns told (I)I
set_option maxRecDepth 100000 in
theorem dA_told_0 : decode bA_told 0 = .ok (.aload_n 0, 1) := by decide +kernel
set_option maxRecDepth 100000 in
theorem dA_told_1 : decode bA_told 1 = .ok (.iload_n 1, 1) := by decide +kernel
set_option maxRecDepth 100000 in
theorem dA_told_2 : decode bA_told 2 = .ok (.invokevirtual 150, 3) := by decide +kernel
set_option maxRecDepth 100000 in
theorem dA_told_5 : decode bA_told 5 = .ok (.ifCond .ne 5, 3) := by decide +kernel
set_option maxRecDepth 100000 in
theorem dA_told_8 : decode bA_told 8 = .ok (.iconst (-1), 1) := by decide +kernel
set_option maxRecDepth 100000 in
theorem dA_told_9 : decode bA_told 9 = .ok (.ireturn, 1) := by decide +kernel
set_option maxRecDepth 100000 in
theorem dA_told_10 : decode bA_told 10 = .ok (.aload_n 0, 1) := by decide +kernel
set_option maxRecDepth 100000 in
theorem dA_told_11 : decode bA_told 11 = .ok (.aload_n 0, 1) := by decide +kernel
set_option maxRecDepth 100000 in
theorem dA_told_12 : decode bA_told 12 = .ok (.getfield 36, 3) := by decide +kernel
set_option maxRecDepth 100000 in
theorem dA_told_15 : decode bA_told 15 = .ok (.getfield 214, 3) := by decide +kernel
set_option maxRecDepth 100000 in
theorem dA_told_18 : decode bA_told 18 = .ok (.ifCond .ne 7, 3) := by decide +kernel
set_option maxRecDepth 100000 in
theorem dA_told_21 : decode bA_told 21 = .ok (.iconst 1, 1) := by decide +kernel
set_option maxRecDepth 100000 in
theorem dA_told_22 : decode bA_told 22 = .ok (.goto 4, 3) := by decide +kernel
set_option maxRecDepth 100000 in
theorem dA_told_25 : decode bA_told 25 = .ok (.iconst 0, 1) := by decide +kernel
set_option maxRecDepth 100000 in
theorem dA_told_26 : decode bA_told 26 = .ok (.invokevirtual 101, 3) := by decide +kernel
set_option maxRecDepth 100000 in
theorem dA_told_29 : decode bA_told 29 = .ok (.istore_n 2, 1) := by decide +kernel
set_option maxRecDepth 100000 in
theorem dA_told_30 : decode bA_told 30 = .ok (.iload_n 2, 1) := by decide +kernel
set_option maxRecDepth 100000 in
theorem dA_told_31 : decode bA_told 31 = .ok (.ifCond .eq 5, 3) := by decide +kernel
set_option maxRecDepth 100000 in
theorem dA_told_34 : decode bA_told 34 = .ok (.iload_n 2, 1) := by decide +kernel
set_option maxRecDepth 100000 in
theorem dA_told_35 : decode bA_told 35 = .ok (.ireturn, 1) := by decide +kernel
set_option maxRecDepth 100000 in
theorem dA_told_36 : decode bA_told 36 = .ok (.aload_n 0, 1) := by decide +kernel
set_option maxRecDepth 100000 in
theorem dA_told_37 : decode bA_told 37 = .ok (.iconst 2, 1) := by decide +kernel
set_option maxRecDepth 100000 in
theorem dA_told_38 : decode bA_told 38 = .ok (.putfield 77, 3) := by decide +kernel
set_option maxRecDepth 100000 in
theorem dA_told_41 : decode bA_told 41 = .ok (.aload_n 0, 1) := by decide +kernel
set_option maxRecDepth 100000 in
theorem dA_told_42 : decode bA_told 42 = .ok (.iload_n 1, 1) := by decide +kernel
set_option maxRecDepth 100000 in
theorem dA_told_43 : decode bA_told 43 = .ok (.putfield 80, 3) := by decide +kernel
set_option maxRecDepth 100000 in
theorem dA_told_46 : decode bA_told 46 = .ok (.aload_n 0, 1) := by decide +kernel
set_option maxRecDepth 100000 in
theorem dA_told_47 : decode bA_told 47 = .ok (.getfield 36, 3) := by decide +kernel
set_option maxRecDepth 100000 in
theorem dA_told_50 : decode bA_told 50 = .ok (.getfield 214, 3) := by decide +kernel
set_option maxRecDepth 100000 in
theorem dA_told_53 : decode bA_told 53 = .ok (.ireturn, 1) := by decide +kernel
def fA_told_26 (σ : xS) (a1 : Int32) (t0 : Int32) : Option (Int32 × xS) :=
  xb (fA_misuseOfPlainStep σ t0) fun r8 s9 =>
  if r8 = 0 then
  (xl (x_si s9 0 0 12 2) fun s11 =>
  xl (x_si s11 0 0 13 a1) fun s12 =>
  some (s12.1 18 16 2, s12))
  else
  (some (r8, s9))
def fA_told (σ : xS) (a1 : Int32) : Option (Int32 × xS) :=
  if (fA_isStandIn σ a1) = 0 then
  (some ((-1), σ))
  else
  (if (σ.1 18 16 2) = 0 then
  (fA_told_26 σ a1 1)
  else
  (fA_told_26 σ a1 0))
set_option maxHeartbeats 4000000 in
set_option maxRecDepth 100000 in
theorem wA_told_26 {p : Program} {l : Launch} {e : Env} {R : Room} {s : State} {m : MethodId} {args : Array Value} {below : List Frame} {meth : Method} {c : Code} {E : xE} {A : Nat → Prop} {τ : yS} (C : xC p s m args meth c R E A bA_told 3 yA_told (some .int) 5 0 0) (σ : xS) (a1 : Int32) (t0 : Int32) (res : Int32 × xS) (hf : fA_told_26 σ a1 t0 = some res) (H : Heap) (locs : List Loc) (ls : Array Slot) (hw : xW E A s σ τ H locs) (hl : lv_has ls 3 [(0, .ref (E.2.2.1 0 0)), (1, .int a1)]) : W p l e R s m args below meth c H locs 0 0 (MQ below (xQ E A (some (.int res.1)) res.2 τ) args s 0 0 A) (F0 m 26 ls [.int t0, .ref (E.2.2.1 0 0)]) := by
  have hx := C.1
  have hb := C.2.1
  unfold fA_told_26 at hf
  obtain ⟨r8, s9, h7, hf⟩ := x_b hf
  refine x_callV (As := [.int t0]) (rest := []) (st1 := [.int r8]) C hw (cA_misuseOfPlainStep l E σ τ t0 (r8, s9) h7) kA_101 (x_recv C hw 0 0 at_0 rfl rfl) (by decide) rfl rfl hl.1 (lv_room (Nat.le_of_ble_eq_true rfl)) dA_told_26 ⟨by decide, by decide⟩ rfl (fun H locs hw => ?_)
  refine lv_istore_n (lv' := [(2, .int r8), (0, .ref (E.2.2.1 0 0)), (1, .int a1)]) hx hb dA_told_29 rfl hl (by decide) rfl (fun ls hl => ?_)
  refine lv_iload_n hx hb dA_told_30 rfl (lv_at hl 0 rfl) ?_
  refine lv_if_eq (tgt := 36) hx hb dA_told_31 (by decide) (fun c10 => ?_) (fun c10 => ?_)
  · replace hf := x_ip c10 hf
    refine lv_aload_n hx hb dA_told_36 rfl (lv_at hl 1 rfl) ?_
    refine lv_iconst (v := 2) hx hb dA_told_37 (by decide) ?_
    refine x_puti C hw 0 0 12 at_0 rfl rfl rfl ⟨rfl, rfl⟩ ⟨by decide, by decide⟩ (Nat.le_of_ble_eq_true rfl) wA_77 dA_told_38 (fun H locs hw => ?_)
    obtain ⟨s11, es11, hf⟩ := x_l hf
    rw [← es11] at hw
    refine lv_aload_n hx hb dA_told_41 rfl (lv_at hl 1 rfl) ?_
    refine lv_iload_n hx hb dA_told_42 rfl (lv_at hl 2 rfl) ?_
    refine x_puti C hw 0 0 13 at_0 rfl rfl rfl ⟨rfl, rfl⟩ ⟨by decide, by decide⟩ (Nat.le_of_ble_eq_true rfl) wA_80 dA_told_43 (fun H locs hw => ?_)
    obtain ⟨s12, es12, hf⟩ := x_l hf
    rw [← es12] at hw
    refine lv_aload_n hx hb dA_told_46 rfl (lv_at hl 1 rfl) ?_
    refine x_get C hw 0 0 5 (v := .ref (E.2.2.1 18 16)) at_0 rfl rfl ⟨by decide, by decide⟩ wA_36 rfl dA_told_47 ?_
    refine x_getN C hw 18 16 2 (v := .int (s12.1 18 16 2)) (at_18 (by decide)) rfl rfl ⟨by decide, by decide⟩ wA_214 rfl dA_told_50 ?_
    obtain rfl := Option.some.inj hf
    exact x_iret C hw dA_told_53
  · replace hf := x_in c10 hf
    refine lv_iload_n hx hb dA_told_34 rfl (lv_at hl 0 rfl) ?_
    obtain rfl := Option.some.inj hf
    exact x_iret C hw dA_told_35
set_option maxHeartbeats 4000000 in
set_option maxRecDepth 100000 in
theorem cA_told (l : Launch) (E : xE) (σ : xS) (τ : yS) (a1 : Int32) (res : Int32 × xS) (hf : fA_told σ a1 = some res) : xM l E yA_told bA_told 3 (some .int) 5 0 0 [.ref (E.2.2.1 0 0), .int a1] σ τ (some (.int res.1)) res.2 τ := by
  refine x_met (by decide) (Nat.le_of_ble_eq_true rfl) (fun p e R s m args below meth c A ls H locs C hw hl => ?_)
  have hl : lv_has ls 3 [(0, .ref (E.2.2.1 0 0)), (1, .int a1)] := hl
  have hx := C.1
  have hb := C.2.1
  unfold fA_told at hf
  refine lv_aload_n hx hb dA_told_0 rfl (lv_at hl 0 rfl) ?_
  refine lv_iload_n hx hb dA_told_1 rfl (lv_at hl 1 rfl) ?_
  refine x_callV (As := [.int a1]) (rest := []) (st1 := [.int (fA_isStandIn σ a1)]) C hw (cA_isStandIn l E σ τ a1) kA_150 (x_recv C hw 0 0 at_0 rfl rfl) (by decide) rfl rfl hl.1 (lv_room (Nat.le_of_ble_eq_true rfl)) dA_told_2 ⟨by decide, by decide⟩ rfl (fun H locs hw => ?_)
  refine lv_if_ne (tgt := 10) hx hb dA_told_5 (by decide) (fun c14 => ?_) (fun c14 => ?_)
  · replace hf := x_in c14 hf
    refine lv_aload_n hx hb dA_told_10 rfl (lv_at hl 0 rfl) ?_
    refine lv_aload_n hx hb dA_told_11 rfl (lv_at hl 0 rfl) ?_
    refine x_get C hw 0 0 5 (v := .ref (E.2.2.1 18 16)) at_0 rfl rfl ⟨by decide, by decide⟩ wA_36 rfl dA_told_12 ?_
    refine x_getN C hw 18 16 2 (v := .int (σ.1 18 16 2)) (at_18 (by decide)) rfl rfl ⟨by decide, by decide⟩ wA_214 rfl dA_told_15 ?_
    refine lv_if_ne (tgt := 25) hx hb dA_told_18 (by decide) (fun c15 => ?_) (fun c15 => ?_)
    · replace hf := x_in c15 hf
      refine lv_iconst (v := 0) hx hb dA_told_25 (by decide) ?_
      exact wA_told_26 C σ a1 0 res hf H locs ls hw (lv_sub hl [0, 1] rfl)
    · replace hf := x_ip c15 hf
      refine lv_iconst (v := 1) hx hb dA_told_21 (by decide) ?_
      refine lv_goto (tgt := 26) hx hb dA_told_22 (by decide) ?_
      exact wA_told_26 C σ a1 1 res hf H locs ls hw (lv_sub hl [0, 1] rfl)
  · replace hf := x_ip c14 hf
    refine lv_iconst (v := (-1)) hx hb dA_told_8 (by decide) ?_
    obtain rfl := Option.some.inj hf
    exact x_iret C hw dA_told_9
-- StandIns check (III)I
set_option maxRecDepth 100000 in
theorem dA_check_0 : decode bA_check 0 = .ok (.iload_n 2, 1) := by decide +kernel
set_option maxRecDepth 100000 in
theorem dA_check_1 : decode bA_check 1 = .ok (.iconst 4, 1) := by decide +kernel
set_option maxRecDepth 100000 in
theorem dA_check_2 : decode bA_check 2 = .ok (.if_icmp .ne 7, 3) := by decide +kernel
set_option maxRecDepth 100000 in
theorem dA_check_5 : decode bA_check 5 = .ok (.iconst 1, 1) := by decide +kernel
set_option maxRecDepth 100000 in
theorem dA_check_6 : decode bA_check 6 = .ok (.goto 4, 3) := by decide +kernel
set_option maxRecDepth 100000 in
theorem dA_check_9 : decode bA_check 9 = .ok (.iconst 0, 1) := by decide +kernel
set_option maxRecDepth 100000 in
theorem dA_check_10 : decode bA_check 10 = .ok (.istore 4, 2) := by decide +kernel
set_option maxRecDepth 100000 in
theorem dA_check_12 : decode bA_check 12 = .ok (.aload_n 0, 1) := by decide +kernel
set_option maxRecDepth 100000 in
theorem dA_check_13 : decode bA_check 13 = .ok (.iload_n 1, 1) := by decide +kernel
set_option maxRecDepth 100000 in
theorem dA_check_14 : decode bA_check 14 = .ok (.invokevirtual 150, 3) := by decide +kernel
set_option maxRecDepth 100000 in
theorem dA_check_17 : decode bA_check 17 = .ok (.ifCond .eq 24, 3) := by decide +kernel
set_option maxRecDepth 100000 in
theorem dA_check_20 : decode bA_check 20 = .ok (.iload_n 2, 1) := by decide +kernel
set_option maxRecDepth 100000 in
theorem dA_check_21 : decode bA_check 21 = .ok (.ifCond .lt 20, 3) := by decide +kernel
set_option maxRecDepth 100000 in
theorem dA_check_24 : decode bA_check 24 = .ok (.iload_n 2, 1) := by decide +kernel
set_option maxRecDepth 100000 in
theorem dA_check_25 : decode bA_check 25 = .ok (.iconst 4, 1) := by decide +kernel
set_option maxRecDepth 100000 in
theorem dA_check_26 : decode bA_check 26 = .ok (.if_icmp .gt 15, 3) := by decide +kernel
set_option maxRecDepth 100000 in
theorem dA_check_29 : decode bA_check 29 = .ok (.iload_n 3, 1) := by decide +kernel
set_option maxRecDepth 100000 in
theorem dA_check_30 : decode bA_check 30 = .ok (.iload 4, 2) := by decide +kernel
set_option maxRecDepth 100000 in
theorem dA_check_32 : decode bA_check 32 = .ok (.if_icmp .lt 9, 3) := by decide +kernel
set_option maxRecDepth 100000 in
theorem dA_check_35 : decode bA_check 35 = .ok (.iload_n 3, 1) := by decide +kernel
set_option maxRecDepth 100000 in
theorem dA_check_36 : decode bA_check 36 = .ok (.bipush 40, 2) := by decide +kernel
set_option maxRecDepth 100000 in
theorem dA_check_38 : decode bA_check 38 = .ok (.if_icmp .le 5, 3) := by decide +kernel
set_option maxRecDepth 100000 in
theorem dA_check_41 : decode bA_check 41 = .ok (.iconst (-1), 1) := by decide +kernel
set_option maxRecDepth 100000 in
theorem dA_check_42 : decode bA_check 42 = .ok (.ireturn, 1) := by decide +kernel
set_option maxRecDepth 100000 in
theorem dA_check_43 : decode bA_check 43 = .ok (.aload_n 0, 1) := by decide +kernel
set_option maxRecDepth 100000 in
theorem dA_check_44 : decode bA_check 44 = .ok (.iconst 0, 1) := by decide +kernel
set_option maxRecDepth 100000 in
theorem dA_check_45 : decode bA_check 45 = .ok (.invokevirtual 101, 3) := by decide +kernel
set_option maxRecDepth 100000 in
theorem dA_check_48 : decode bA_check 48 = .ok (.istore 5, 2) := by decide +kernel
set_option maxRecDepth 100000 in
theorem dA_check_50 : decode bA_check 50 = .ok (.iload 5, 2) := by decide +kernel
set_option maxRecDepth 100000 in
theorem dA_check_52 : decode bA_check 52 = .ok (.ifCond .eq 6, 3) := by decide +kernel
set_option maxRecDepth 100000 in
theorem dA_check_55 : decode bA_check 55 = .ok (.iload 5, 2) := by decide +kernel
set_option maxRecDepth 100000 in
theorem dA_check_57 : decode bA_check 57 = .ok (.ireturn, 1) := by decide +kernel
set_option maxRecDepth 100000 in
theorem dA_check_58 : decode bA_check 58 = .ok (.aload_n 0, 1) := by decide +kernel
set_option maxRecDepth 100000 in
theorem dA_check_59 : decode bA_check 59 = .ok (.iconst 3, 1) := by decide +kernel
set_option maxRecDepth 100000 in
theorem dA_check_60 : decode bA_check 60 = .ok (.putfield 77, 3) := by decide +kernel
set_option maxRecDepth 100000 in
theorem dA_check_63 : decode bA_check 63 = .ok (.aload_n 0, 1) := by decide +kernel
set_option maxRecDepth 100000 in
theorem dA_check_64 : decode bA_check 64 = .ok (.iload_n 1, 1) := by decide +kernel
set_option maxRecDepth 100000 in
theorem dA_check_65 : decode bA_check 65 = .ok (.putfield 80, 3) := by decide +kernel
set_option maxRecDepth 100000 in
theorem dA_check_68 : decode bA_check 68 = .ok (.aload_n 0, 1) := by decide +kernel
set_option maxRecDepth 100000 in
theorem dA_check_69 : decode bA_check 69 = .ok (.iload_n 2, 1) := by decide +kernel
set_option maxRecDepth 100000 in
theorem dA_check_70 : decode bA_check 70 = .ok (.putfield 83, 3) := by decide +kernel
set_option maxRecDepth 100000 in
theorem dA_check_73 : decode bA_check 73 = .ok (.aload_n 0, 1) := by decide +kernel
set_option maxRecDepth 100000 in
theorem dA_check_74 : decode bA_check 74 = .ok (.iload_n 3, 1) := by decide +kernel
set_option maxRecDepth 100000 in
theorem dA_check_75 : decode bA_check 75 = .ok (.putfield 86, 3) := by decide +kernel
set_option maxRecDepth 100000 in
theorem dA_check_78 : decode bA_check 78 = .ok (.iconst 1, 1) := by decide +kernel
set_option maxRecDepth 100000 in
theorem dA_check_79 : decode bA_check 79 = .ok (.ireturn, 1) := by decide +kernel
def fA_check_10 (σ : xS) (a1 : Int32) (a2 : Int32) (a3 : Int32) (t0 : Int32) : Option (Int32 × xS) :=
  if (fA_isStandIn σ a1) = 0 then
  (some ((-1), σ))
  else
  (if a2 < 0 then
  (some ((-1), σ))
  else
  (if 4 < a2 then
  (some ((-1), σ))
  else
  (if a3 < t0 then
  (some ((-1), σ))
  else
  (if a3 ≤ 40 then
  (xb (fA_misuseOfPlainStep σ 0) fun r22 s23 =>
  if r22 = 0 then
  (xl (x_si s23 0 0 12 3) fun s25 =>
  xl (x_si s25 0 0 13 a1) fun s26 =>
  xl (x_si s26 0 0 14 a2) fun s27 =>
  xl (x_si s27 0 0 15 a3) fun s28 =>
  some (1, s28))
  else
  (some (r22, s23)))
  else
  (some ((-1), σ))))))
def fA_check (σ : xS) (a1 : Int32) (a2 : Int32) (a3 : Int32) : Option (Int32 × xS) :=
  if a2 = 4 then
  (fA_check_10 σ a1 a2 a3 1)
  else
  (fA_check_10 σ a1 a2 a3 0)
set_option maxHeartbeats 4000000 in
set_option maxRecDepth 100000 in
theorem wA_check_10 {p : Program} {l : Launch} {e : Env} {R : Room} {s : State} {m : MethodId} {args : Array Value} {below : List Frame} {meth : Method} {c : Code} {E : xE} {A : Nat → Prop} {τ : yS} (C : xC p s m args meth c R E A bA_check 6 yA_check (some .int) 5 0 0) (σ : xS) (a1 : Int32) (a2 : Int32) (a3 : Int32) (t0 : Int32) (res : Int32 × xS) (hf : fA_check_10 σ a1 a2 a3 t0 = some res) (H : Heap) (locs : List Loc) (ls : Array Slot) (hw : xW E A s σ τ H locs) (hl : lv_has ls 6 [(0, .ref (E.2.2.1 0 0)), (1, .int a1), (2, .int a2), (3, .int a3)]) : W p l e R s m args below meth c H locs 0 0 (MQ below (xQ E A (some (.int res.1)) res.2 τ) args s 0 0 A) (F0 m 10 ls [.int t0]) := by
  have hx := C.1
  have hb := C.2.1
  unfold fA_check_10 at hf
  refine lv_istore (lv' := [(4, .int t0), (0, .ref (E.2.2.1 0 0)), (1, .int a1), (2, .int a2), (3, .int a3)]) hx hb dA_check_10 hl (by decide) rfl (fun ls hl => ?_)
  refine lv_aload_n hx hb dA_check_12 rfl (lv_at hl 1 rfl) ?_
  refine lv_iload_n hx hb dA_check_13 rfl (lv_at hl 2 rfl) ?_
  refine x_callV (As := [.int a1]) (rest := []) (st1 := [.int (fA_isStandIn σ a1)]) C hw (cA_isStandIn l E σ τ a1) kA_150 (x_recv C hw 0 0 at_0 rfl rfl) (by decide) rfl rfl hl.1 (lv_room (Nat.le_of_ble_eq_true rfl)) dA_check_14 ⟨by decide, by decide⟩ rfl (fun H locs hw => ?_)
  refine lv_if_eq (tgt := 41) hx hb dA_check_17 (by decide) (fun c16 => ?_) (fun c16 => ?_)
  · replace hf := x_ip c16 hf
    refine lv_iconst (v := (-1)) hx hb dA_check_41 (by decide) ?_
    obtain rfl := Option.some.inj hf
    exact x_iret C hw dA_check_42
  · replace hf := x_in c16 hf
    refine lv_iload_n hx hb dA_check_20 rfl (lv_at hl 3 rfl) ?_
    refine lv_if_lt (tgt := 41) hx hb dA_check_21 (by decide) (fun c17 => ?_) (fun c17 => ?_)
    · replace hf := x_ip c17 hf
      refine lv_iconst (v := (-1)) hx hb dA_check_41 (by decide) ?_
      obtain rfl := Option.some.inj hf
      exact x_iret C hw dA_check_42
    · replace hf := x_in c17 hf
      refine lv_iload_n hx hb dA_check_24 rfl (lv_at hl 3 rfl) ?_
      refine lv_iconst (v := 4) hx hb dA_check_25 (by decide) ?_
      refine lv_icmp_gt (tgt := 41) hx hb dA_check_26 (by decide) (fun c18 => ?_) (fun c18 => ?_)
      · replace hf := x_ip c18 hf
        refine lv_iconst (v := (-1)) hx hb dA_check_41 (by decide) ?_
        obtain rfl := Option.some.inj hf
        exact x_iret C hw dA_check_42
      · replace hf := x_in c18 hf
        refine lv_iload_n hx hb dA_check_29 rfl (lv_at hl 4 rfl) ?_
        refine lv_iload hx hb dA_check_30 (lv_at hl 0 rfl) ?_
        refine lv_icmp_lt (tgt := 41) hx hb dA_check_32 (by decide) (fun c19 => ?_) (fun c19 => ?_)
        · replace hf := x_ip c19 hf
          refine lv_iconst (v := (-1)) hx hb dA_check_41 (by decide) ?_
          obtain rfl := Option.some.inj hf
          exact x_iret C hw dA_check_42
        · replace hf := x_in c19 hf
          refine lv_iload_n hx hb dA_check_35 rfl (lv_at hl 4 rfl) ?_
          refine lv_bipush (v := 40) hx hb dA_check_36 (by decide) ?_
          refine lv_icmp_le (tgt := 43) hx hb dA_check_38 (by decide) (fun c20 => ?_) (fun c20 => ?_)
          · replace hf := x_ip c20 hf
            refine lv_aload_n hx hb dA_check_43 rfl (lv_at hl 1 rfl) ?_
            refine lv_iconst (v := 0) hx hb dA_check_44 (by decide) ?_
            obtain ⟨r22, s23, h21, hf⟩ := x_b hf
            refine x_callV (As := [.int 0]) (rest := []) (st1 := [.int r22]) C hw (cA_misuseOfPlainStep l E σ τ 0 (r22, s23) h21) kA_101 (x_recv C hw 0 0 at_0 rfl rfl) (by decide) rfl rfl hl.1 (lv_room (Nat.le_of_ble_eq_true rfl)) dA_check_45 ⟨by decide, by decide⟩ rfl (fun H locs hw => ?_)
            refine lv_istore (lv' := [(5, .int r22), (4, .int t0), (0, .ref (E.2.2.1 0 0)), (1, .int a1), (2, .int a2), (3, .int a3)]) hx hb dA_check_48 hl (by decide) rfl (fun ls hl => ?_)
            refine lv_iload hx hb dA_check_50 (lv_at hl 0 rfl) ?_
            refine lv_if_eq (tgt := 58) hx hb dA_check_52 (by decide) (fun c24 => ?_) (fun c24 => ?_)
            · replace hf := x_ip c24 hf
              refine lv_aload_n hx hb dA_check_58 rfl (lv_at hl 2 rfl) ?_
              refine lv_iconst (v := 3) hx hb dA_check_59 (by decide) ?_
              refine x_puti C hw 0 0 12 at_0 rfl rfl rfl ⟨rfl, rfl⟩ ⟨by decide, by decide⟩ (Nat.le_of_ble_eq_true rfl) wA_77 dA_check_60 (fun H locs hw => ?_)
              obtain ⟨s25, es25, hf⟩ := x_l hf
              rw [← es25] at hw
              refine lv_aload_n hx hb dA_check_63 rfl (lv_at hl 2 rfl) ?_
              refine lv_iload_n hx hb dA_check_64 rfl (lv_at hl 3 rfl) ?_
              refine x_puti C hw 0 0 13 at_0 rfl rfl rfl ⟨rfl, rfl⟩ ⟨by decide, by decide⟩ (Nat.le_of_ble_eq_true rfl) wA_80 dA_check_65 (fun H locs hw => ?_)
              obtain ⟨s26, es26, hf⟩ := x_l hf
              rw [← es26] at hw
              refine lv_aload_n hx hb dA_check_68 rfl (lv_at hl 2 rfl) ?_
              refine lv_iload_n hx hb dA_check_69 rfl (lv_at hl 4 rfl) ?_
              refine x_puti C hw 0 0 14 at_0 rfl rfl rfl ⟨rfl, rfl⟩ ⟨by decide, by decide⟩ (Nat.le_of_ble_eq_true rfl) wA_83 dA_check_70 (fun H locs hw => ?_)
              obtain ⟨s27, es27, hf⟩ := x_l hf
              rw [← es27] at hw
              refine lv_aload_n hx hb dA_check_73 rfl (lv_at hl 2 rfl) ?_
              refine lv_iload_n hx hb dA_check_74 rfl (lv_at hl 5 rfl) ?_
              refine x_puti C hw 0 0 15 at_0 rfl rfl rfl ⟨rfl, rfl⟩ ⟨by decide, by decide⟩ (Nat.le_of_ble_eq_true rfl) wA_86 dA_check_75 (fun H locs hw => ?_)
              obtain ⟨s28, es28, hf⟩ := x_l hf
              rw [← es28] at hw
              refine lv_iconst (v := 1) hx hb dA_check_78 (by decide) ?_
              obtain rfl := Option.some.inj hf
              exact x_iret C hw dA_check_79
            · replace hf := x_in c24 hf
              refine lv_iload hx hb dA_check_55 (lv_at hl 0 rfl) ?_
              obtain rfl := Option.some.inj hf
              exact x_iret C hw dA_check_57
          · replace hf := x_in c20 hf
            refine lv_iconst (v := (-1)) hx hb dA_check_41 (by decide) ?_
            obtain rfl := Option.some.inj hf
            exact x_iret C hw dA_check_42
set_option maxHeartbeats 4000000 in
set_option maxRecDepth 100000 in
theorem cA_check (l : Launch) (E : xE) (σ : xS) (τ : yS) (a1 : Int32) (a2 : Int32) (a3 : Int32) (res : Int32 × xS) (hf : fA_check σ a1 a2 a3 = some res) : xM l E yA_check bA_check 6 (some .int) 5 0 0 [.ref (E.2.2.1 0 0), .int a1, .int a2, .int a3] σ τ (some (.int res.1)) res.2 τ := by
  refine x_met (by decide) (Nat.le_of_ble_eq_true rfl) (fun p e R s m args below meth c A ls H locs C hw hl => ?_)
  have hl : lv_has ls 6 [(0, .ref (E.2.2.1 0 0)), (1, .int a1), (2, .int a2), (3, .int a3)] := hl
  have hx := C.1
  have hb := C.2.1
  unfold fA_check at hf
  refine lv_iload_n hx hb dA_check_0 rfl (lv_at hl 2 rfl) ?_
  refine lv_iconst (v := 4) hx hb dA_check_1 (by decide) ?_
  refine lv_icmp_ne (tgt := 9) hx hb dA_check_2 (by decide) (fun c29 => ?_) (fun c29 => ?_)
  · replace hf := x_in c29 hf
    refine lv_iconst (v := 0) hx hb dA_check_9 (by decide) ?_
    exact wA_check_10 C σ a1 a2 a3 0 res hf H locs ls hw (lv_sub hl [0, 1, 2, 3] rfl)
  · replace hf := x_ip c29 hf
    refine lv_iconst (v := 1) hx hb dA_check_5 (by decide) ?_
    refine lv_goto (tgt := 10) hx hb dA_check_6 (by decide) ?_
    exact wA_check_10 C σ a1 a2 a3 1 res hf H locs ls hw (lv_sub hl [0, 1, 2, 3] rfl)
