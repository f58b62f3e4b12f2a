-- StandIns matcher (II)I
set_option maxRecDepth 100000 in
theorem dA_matcher_0 : decode bA_matcher 0 = .ok (.iload_n 1, 1) := by decide +kernel
set_option maxRecDepth 100000 in
theorem dA_matcher_1 : decode bA_matcher 1 = .ok (.ifCond .lt 9, 3) := by decide +kernel
set_option maxRecDepth 100000 in
theorem dA_matcher_4 : decode bA_matcher 4 = .ok (.iload_n 1, 1) := by decide +kernel
set_option maxRecDepth 100000 in
theorem dA_matcher_5 : decode bA_matcher 5 = .ok (.bipush 7, 2) := by decide +kernel
set_option maxRecDepth 100000 in
theorem dA_matcher_7 : decode bA_matcher 7 = .ok (.if_icmp .le 5, 3) := by decide +kernel
set_option maxRecDepth 100000 in
theorem dA_matcher_10 : decode bA_matcher 10 = .ok (.iconst (-1), 1) := by decide +kernel
set_option maxRecDepth 100000 in
theorem dA_matcher_11 : decode bA_matcher 11 = .ok (.ireturn, 1) := by decide +kernel
set_option maxRecDepth 100000 in
theorem dA_matcher_12 : decode bA_matcher 12 = .ok (.iload_n 1, 1) := by decide +kernel
set_option maxRecDepth 100000 in
theorem dA_matcher_13 : decode bA_matcher 13 = .ok (.invokestatic 116, 3) := by decide +kernel
set_option maxRecDepth 100000 in
theorem dA_matcher_16 : decode bA_matcher 16 = .ok (.istore_n 3, 1) := by decide +kernel
set_option maxRecDepth 100000 in
theorem dA_matcher_17 : decode bA_matcher 17 = .ok (.aload_n 0, 1) := by decide +kernel
set_option maxRecDepth 100000 in
theorem dA_matcher_18 : decode bA_matcher 18 = .ok (.getfield 29, 3) := by decide +kernel
set_option maxRecDepth 100000 in
theorem dA_matcher_21 : decode bA_matcher 21 = .ok (.getfield 121, 3) := by decide +kernel
set_option maxRecDepth 100000 in
theorem dA_matcher_24 : decode bA_matcher 24 = .ok (.iload_n 3, 1) := by decide +kernel
set_option maxRecDepth 100000 in
theorem dA_matcher_25 : decode bA_matcher 25 = .ok (.if_icmp .lt 7, 3) := by decide +kernel
set_option maxRecDepth 100000 in
theorem dA_matcher_28 : decode bA_matcher 28 = .ok (.iconst 1, 1) := by decide +kernel
set_option maxRecDepth 100000 in
theorem dA_matcher_29 : decode bA_matcher 29 = .ok (.goto 4, 3) := by decide +kernel
set_option maxRecDepth 100000 in
theorem dA_matcher_32 : decode bA_matcher 32 = .ok (.iconst 0, 1) := by decide +kernel
set_option maxRecDepth 100000 in
theorem dA_matcher_33 : decode bA_matcher 33 = .ok (.istore 4, 2) := by decide +kernel
set_option maxRecDepth 100000 in
theorem dA_matcher_35 : decode bA_matcher 35 = .ok (.iload 4, 2) := by decide +kernel
set_option maxRecDepth 100000 in
theorem dA_matcher_37 : decode bA_matcher 37 = .ok (.ifCond .eq 17, 3) := by decide +kernel
set_option maxRecDepth 100000 in
theorem dA_matcher_40 : decode bA_matcher 40 = .ok (.aload_n 0, 1) := by decide +kernel
set_option maxRecDepth 100000 in
theorem dA_matcher_41 : decode bA_matcher 41 = .ok (.getfield 29, 3) := by decide +kernel
set_option maxRecDepth 100000 in
theorem dA_matcher_44 : decode bA_matcher 44 = .ok (.iload_n 3, 1) := by decide +kernel
set_option maxRecDepth 100000 in
theorem dA_matcher_45 : decode bA_matcher 45 = .ok (.invokevirtual 124, 3) := by decide +kernel
set_option maxRecDepth 100000 in
theorem dA_matcher_48 : decode bA_matcher 48 = .ok (.ifCond .ne 6, 3) := by decide +kernel
set_option maxRecDepth 100000 in
theorem dA_matcher_51 : decode bA_matcher 51 = .ok (.bipush (-2), 2) := by decide +kernel
set_option maxRecDepth 100000 in
theorem dA_matcher_53 : decode bA_matcher 53 = .ok (.ireturn, 1) := by decide +kernel
set_option maxRecDepth 100000 in
theorem dA_matcher_54 : decode bA_matcher 54 = .ok (.aload_n 0, 1) := by decide +kernel
set_option maxRecDepth 100000 in
theorem dA_matcher_55 : decode bA_matcher 55 = .ok (.aload_n 0, 1) := by decide +kernel
set_option maxRecDepth 100000 in
theorem dA_matcher_56 : decode bA_matcher 56 = .ok (.invokevirtual 128, 3) := by decide +kernel
set_option maxRecDepth 100000 in
theorem dA_matcher_59 : decode bA_matcher 59 = .ok (.iconst 0, 1) := by decide +kernel
set_option maxRecDepth 100000 in
theorem dA_matcher_60 : decode bA_matcher 60 = .ok (.iload 4, 2) := by decide +kernel
set_option maxRecDepth 100000 in
theorem dA_matcher_62 : decode bA_matcher 62 = .ok (.ifCond .ne 7, 3) := by decide +kernel
set_option maxRecDepth 100000 in
theorem dA_matcher_65 : decode bA_matcher 65 = .ok (.iconst 1, 1) := by decide +kernel
set_option maxRecDepth 100000 in
theorem dA_matcher_66 : decode bA_matcher 66 = .ok (.goto 4, 3) := by decide +kernel
set_option maxRecDepth 100000 in
theorem dA_matcher_69 : decode bA_matcher 69 = .ok (.iconst 0, 1) := by decide +kernel
set_option maxRecDepth 100000 in
theorem dA_matcher_70 : decode bA_matcher 70 = .ok (.invokevirtual 132, 3) := by decide +kernel
set_option maxRecDepth 100000 in
theorem dA_matcher_73 : decode bA_matcher 73 = .ok (.istore 5, 2) := by decide +kernel
set_option maxRecDepth 100000 in
theorem dA_matcher_75 : decode bA_matcher 75 = .ok (.iload 5, 2) := by decide +kernel
set_option maxRecDepth 100000 in
theorem dA_matcher_77 : decode bA_matcher 77 = .ok (.ifCond .eq 6, 3) := by decide +kernel
set_option maxRecDepth 100000 in
theorem dA_matcher_80 : decode bA_matcher 80 = .ok (.iload 5, 2) := by decide +kernel
set_option maxRecDepth 100000 in
theorem dA_matcher_82 : decode bA_matcher 82 = .ok (.ireturn, 1) := by decide +kernel
set_option maxRecDepth 100000 in
theorem dA_matcher_83 : decode bA_matcher 83 = .ok (.iload_n 3, 1) := by decide +kernel
set_option maxRecDepth 100000 in
theorem dA_matcher_84 : decode bA_matcher 84 = .ok (.iconst 1, 1) := by decide +kernel
set_option maxRecDepth 100000 in
theorem dA_matcher_85 : decode bA_matcher 85 = .ok (.if_icmp .le 13, 3) := by decide +kernel
set_option maxRecDepth 100000 in
theorem dA_matcher_88 : decode bA_matcher 88 = .ok (.aload_n 0, 1) := by decide +kernel
set_option maxRecDepth 100000 in
theorem dA_matcher_89 : decode bA_matcher 89 = .ok (.getfield 29, 3) := by decide +kernel
set_option maxRecDepth 100000 in
theorem dA_matcher_92 : decode bA_matcher 92 = .ok (.invokevirtual 136, 3) := by decide +kernel
set_option maxRecDepth 100000 in
theorem dA_matcher_95 : decode bA_matcher 95 = .ok (.goto 4, 3) := by decide +kernel
set_option maxRecDepth 100000 in
theorem dA_matcher_98 : decode bA_matcher 98 = .ok (.aconst_null, 1) := by decide +kernel
set_option maxRecDepth 100000 in
theorem dA_matcher_99 : decode bA_matcher 99 = .ok (.astore 6, 2) := by decide +kernel
set_option maxRecDepth 100000 in
theorem dA_matcher_101 : decode bA_matcher 101 = .ok (.iload_n 3, 1) := by decide +kernel
set_option maxRecDepth 100000 in
theorem dA_matcher_102 : decode bA_matcher 102 = .ok (.ifCond .le 13, 3) := by decide +kernel
set_option maxRecDepth 100000 in
theorem dA_matcher_105 : decode bA_matcher 105 = .ok (.aload_n 0, 1) := by decide +kernel
set_option maxRecDepth 100000 in
theorem dA_matcher_106 : decode bA_matcher 106 = .ok (.getfield 29, 3) := by decide +kernel
set_option maxRecDepth 100000 in
theorem dA_matcher_109 : decode bA_matcher 109 = .ok (.invokevirtual 136, 3) := by decide +kernel
set_option maxRecDepth 100000 in
theorem dA_matcher_112 : decode bA_matcher 112 = .ok (.goto 4, 3) := by decide +kernel
set_option maxRecDepth 100000 in
theorem dA_matcher_115 : decode bA_matcher 115 = .ok (.aconst_null, 1) := by decide +kernel
set_option maxRecDepth 100000 in
theorem dA_matcher_116 : decode bA_matcher 116 = .ok (.astore 7, 2) := by decide +kernel
set_option maxRecDepth 100000 in
theorem dA_matcher_118 : decode bA_matcher 118 = .ok (.aload_n 0, 1) := by decide +kernel
set_option maxRecDepth 100000 in
theorem dA_matcher_119 : decode bA_matcher 119 = .ok (.getfield 29, 3) := by decide +kernel
set_option maxRecDepth 100000 in
theorem dA_matcher_122 : decode bA_matcher 122 = .ok (.new 117, 3) := by decide +kernel
set_option maxRecDepth 100000 in
theorem dA_matcher_125 : decode bA_matcher 125 = .ok (.dup, 1) := by decide +kernel
set_option maxRecDepth 100000 in
theorem dA_matcher_126 : decode bA_matcher 126 = .ok (.iload_n 1, 1) := by decide +kernel
set_option maxRecDepth 100000 in
theorem dA_matcher_127 : decode bA_matcher 127 = .ok (.iload_n 2, 1) := by decide +kernel
set_option maxRecDepth 100000 in
theorem dA_matcher_128 : decode bA_matcher 128 = .ok (.aload 7, 2) := by decide +kernel
set_option maxRecDepth 100000 in
theorem dA_matcher_130 : decode bA_matcher 130 = .ok (.aload 6, 2) := by decide +kernel
set_option maxRecDepth 100000 in
theorem dA_matcher_132 : decode bA_matcher 132 = .ok (.invokespecial 140, 3) := by decide +kernel
set_option maxRecDepth 100000 in
theorem dA_matcher_135 : decode bA_matcher 135 = .ok (.invokevirtual 143, 3) := by decide +kernel
set_option maxRecDepth 100000 in
theorem dA_matcher_138 : decode bA_matcher 138 = .ok (.aload_n 0, 1) := by decide +kernel
set_option maxRecDepth 100000 in
theorem dA_matcher_139 : decode bA_matcher 139 = .ok (.invokevirtual 147, 3) := by decide +kernel
set_option maxRecDepth 100000 in
theorem dA_matcher_142 : decode bA_matcher 142 = .ok (.ifCond .eq 13, 3) := by decide +kernel
set_option maxRecDepth 100000 in
theorem dA_matcher_145 : decode bA_matcher 145 = .ok (.aload_n 0, 1) := by decide +kernel
set_option maxRecDepth 100000 in
theorem dA_matcher_146 : decode bA_matcher 146 = .ok (.getfield 29, 3) := by decide +kernel
set_option maxRecDepth 100000 in
theorem dA_matcher_149 : decode bA_matcher 149 = .ok (.getfield 121, 3) := by decide +kernel
set_option maxRecDepth 100000 in
theorem dA_matcher_152 : decode bA_matcher 152 = .ok (.goto 14, 3) := by decide +kernel
set_option maxRecDepth 100000 in
theorem dA_matcher_155 : decode bA_matcher 155 = .ok (.aload_n 0, 1) := by decide +kernel
set_option maxRecDepth 100000 in
theorem dA_matcher_156 : decode bA_matcher 156 = .ok (.aload_n 0, 1) := by decide +kernel
set_option maxRecDepth 100000 in
theorem dA_matcher_157 : decode bA_matcher 157 = .ok (.getfield 29, 3) := by decide +kernel
set_option maxRecDepth 100000 in
theorem dA_matcher_160 : decode bA_matcher 160 = .ok (.getfield 121, 3) := by decide +kernel
set_option maxRecDepth 100000 in
theorem dA_matcher_163 : decode bA_matcher 163 = .ok (.invokevirtual 112, 3) := by decide +kernel
set_option maxRecDepth 100000 in
theorem dA_matcher_166 : decode bA_matcher 166 = .ok (.ireturn, 1) := by decide +kernel
def fA_matcher_116 (N : Nat) (σ : xS) (a1 : Int32) (a2 : Int32) (o6 : Option Nat) (t0 : Option Nat) : Option (Int32 × xS) :=
  xl (x_nw σ) fun s29 =>
  xp (fH_init s29 σ.2.2.2 a1 a2 t0 o6) fun s31 =>
  xp (fK_push s31 (some σ.2.2.2)) fun s33 =>
  if (fA_awaitsCall s33) = 0 then
  (xl (fA_idleWith s33 (s33.1 4 0 1)) fun s37 =>
  some (s37.1, s37.2))
  else
  (some (s33.1 4 0 1, s33))
def fA_matcher_99 (N : Nat) (σ : xS) (a1 : Int32) (a2 : Int32) (a3 : Int32) (t0 : Option Nat) : Option (Int32 × xS) :=
  if a3 ≤ 0 then
  (fA_matcher_116 N σ a1 a2 t0 none)
  else
  (xb (fK_pop σ) fun r40 s41 =>
  fA_matcher_116 N s41 a1 a2 t0 r40)
def fA_matcher_70 (N : Nat) (σ : xS) (a1 : Int32) (a2 : Int32) (a3 : Int32) (t0 : Int32) (t1 : Int32) (t2 : Int32) : Option (Int32 × xS) :=
  xb (fA_misuseIf σ t2 t1 t0) fun r43 s44 =>
  if r43 = 0 then
  (if a3 ≤ 1 then
  (fA_matcher_99 N s44 a1 a2 a3 none)
  else
  (xb (fK_pop s44) fun r48 s49 =>
  fA_matcher_99 N s49 a1 a2 a3 r48))
  else
  (some (r43, s44))
def fA_matcher_54 (N : Nat) (σ : xS) (a1 : Int32) (a2 : Int32) (a3 : Int32) (a4 : Int32) : Option (Int32 × xS) :=
  xp (fA_lacksAnswers σ) fun r51 =>
  if a4 = 0 then
  (fA_matcher_70 N σ a1 a2 a3 1 0 r51)
  else
  (fA_matcher_70 N σ a1 a2 a3 0 0 r51)
def fA_matcher_33 (N : Nat) (σ : xS) (a1 : Int32) (a2 : Int32) (a3 : Int32) (t0 : Int32) : Option (Int32 × xS) :=
  if t0 = 0 then
  (fA_matcher_54 N σ a1 a2 a3 t0)
  else
  (xp (fK_hasRoomFor N σ a3) fun r55 =>
  if r55 = 0 then
  (some ((-2), σ))
  else
  (fA_matcher_54 N σ a1 a2 a3 t0))
def fA_matcher (N : Nat) (σ : xS) (a1 : Int32) (a2 : Int32) : Option (Int32 × xS) :=
  if a1 < 0 then
  (some ((-1), σ))
  else
  (if a1 ≤ 7 then
  (if (σ.1 4 0 1) < (fH_takenBy a1) then
  (fA_matcher_33 N σ a1 a2 (fH_takenBy a1) 0)
  else
  (fA_matcher_33 N σ a1 a2 (fH_takenBy a1) 1))
  else
  (some ((-1), σ)))
set_option maxHeartbeats 4000000 in
set_option maxRecDepth 100000 in
theorem wA_matcher_116 {p : Program} {l : Launch} {e : Env} {R : Room} {s : State} {m : MethodId} {args : Array Value} {below : List Frame} {meth : Method} {c : Code} {E : xE} {A : Nat → Prop} {τ : yS} (C : xC p s m args meth c R E A bA_matcher 8 yA_matcher (some .int) 4 1 5) (N : Nat) (σ : xS) (a1 : Int32) (a2 : Int32) (o6 : Option Nat) (t0 : Option Nat) (res : Int32 × xS) (hf : fA_matcher_116 N σ a1 a2 o6 t0 = some res) (H : Heap) (locs : List Loc) (ls : Array Slot) (hw : xW E A s σ τ H locs) (hl : lv_has ls 8 [(0, .ref (E.2.2.1 0 0)), (1, .int a1), (2, .int a2), (6, va_rf o6)]) : W p l e R s m args below meth c H locs 0 0 (MQ below (xQ E A (some (.int res.1)) res.2 τ) args s 1 5 A) (F0 m 116 ls [va_rf t0]) := by
  have hx := C.1
  have hb := C.2.1
  unfold fA_matcher_116 at hf
  refine x_astore (lv' := [(7, va_rf t0), (0, .ref (E.2.2.1 0 0)), (1, .int a1), (2, .int a2), (6, va_rf o6)]) hx hb dA_matcher_116 hl (by decide) (by simp [x_cat]) (fun ls hl => ?_)
  refine lv_aload_n hx hb dA_matcher_118 rfl (lv_at hl 1 rfl) ?_
  refine x_get C hw 0 0 4 (v := .ref (E.2.2.1 4 0)) at_0 rfl rfl ⟨by decide, by decide⟩ wA_29 rfl dA_matcher_119 ?_
  refine x_new C hw wA_117 (by decide) (by decide) dA_matcher_122 (fun H hw => ?_)
  obtain ⟨s29, es29, hf⟩ := x_l hf
  rw [← es29] at hw
  refine lv_dup hx hb dA_matcher_125 rfl ?_
  refine lv_iload_n hx hb dA_matcher_126 rfl (lv_at hl 2 rfl) ?_
  refine lv_iload_n hx hb dA_matcher_127 rfl (lv_at hl 3 rfl) ?_
  refine x_aload hx hb dA_matcher_128 (lv_at hl 0 rfl) ?_
  refine x_aload hx hb dA_matcher_130 (lv_at hl 4 rfl) ?_
  obtain ⟨s31, h30, hf⟩ := x_p hf
  refine x_callIN (As := [.int a1, .int a2, va_rf t0, va_rf o6]) (rest := [.ref σ.2.2.2, .ref (E.2.2.1 4 0)]) (st1 := [.ref σ.2.2.2, .ref (E.2.2.1 4 0)]) C hw (cH_init l E s29 τ σ.2.2.2 a1 a2 t0 o6 s31 h30) kA_140 (by decide) rfl rfl hl.1 (lv_room (Nat.le_of_ble_eq_true rfl)) dA_matcher_132 ⟨by decide, by decide⟩ rfl (fun H locs hw => ?_)
  obtain ⟨s33, h32, hf⟩ := x_p hf
  refine x_callVN (As := [va_rf (some σ.2.2.2)]) (rest := []) (st1 := []) C hw (cK_push l E s31 τ (some σ.2.2.2) s33 h32) kA_143 (x_recv C hw 4 0 at_4 rfl rfl) (by decide) rfl rfl hl.1 (lv_room (Nat.le_of_ble_eq_true rfl)) dA_matcher_135 ⟨by decide, by decide⟩ rfl (fun H locs hw => ?_)
  refine lv_aload_n hx hb dA_matcher_138 rfl (lv_at hl 1 rfl) ?_
  refine x_callV (As := []) (rest := []) (st1 := [.int (fA_awaitsCall s33)]) C hw (cA_awaitsCall l E s33 τ) kA_147 (x_recv C hw 0 0 at_0 rfl rfl) (by decide) rfl rfl hl.1 (lv_room (Nat.le_of_ble_eq_true rfl)) dA_matcher_139 ⟨by decide, by decide⟩ rfl (fun H locs hw => ?_)
  refine lv_if_eq (tgt := 155) hx hb dA_matcher_142 (by decide) (fun c35 => ?_) (fun c35 => ?_)
  · replace hf := x_ip c35 hf
    refine lv_aload_n hx hb dA_matcher_155 rfl (lv_at hl 1 rfl) ?_
    refine lv_aload_n hx hb dA_matcher_156 rfl (lv_at hl 1 rfl) ?_
    refine x_get C hw 0 0 4 (v := .ref (E.2.2.1 4 0)) at_0 rfl rfl ⟨by decide, by decide⟩ wA_29 rfl dA_matcher_157 ?_
    refine x_getN C hw 4 0 1 (v := .int (s33.1 4 0 1)) at_4 rfl rfl ⟨by decide, by decide⟩ wA_121 rfl dA_matcher_160 ?_
    obtain ⟨s37, h36, hf⟩ := x_l hf
    refine x_callV (As := [.int (s33.1 4 0 1)]) (rest := []) (st1 := [.int s37.1]) C hw (cA_idleWith l E s33 τ (s33.1 4 0 1) s37 h36.symm) kA_112 (x_recv C hw 0 0 at_0 rfl rfl) (by decide) rfl rfl hl.1 (lv_room (Nat.le_of_ble_eq_true rfl)) dA_matcher_163 ⟨by decide, by decide⟩ rfl (fun H locs hw => ?_)
    obtain rfl := Option.some.inj hf
    refine W.widen (k := 1) (n := 5) (by decide) (by decide) ?_
    exact x_iret C hw dA_matcher_166
  · replace hf := x_in c35 hf
    refine lv_aload_n hx hb dA_matcher_145 rfl (lv_at hl 1 rfl) ?_
    refine x_get C hw 0 0 4 (v := .ref (E.2.2.1 4 0)) at_0 rfl rfl ⟨by decide, by decide⟩ wA_29 rfl dA_matcher_146 ?_
    refine x_getN C hw 4 0 1 (v := .int (s33.1 4 0 1)) at_4 rfl rfl ⟨by decide, by decide⟩ wA_121 rfl dA_matcher_149 ?_
    refine lv_goto (tgt := 166) hx hb dA_matcher_152 (by decide) ?_
    obtain rfl := Option.some.inj hf
    refine W.widen (k := 1) (n := 5) (by decide) (by decide) ?_
    exact x_iret C hw dA_matcher_166
set_option maxHeartbeats 4000000 in
set_option maxRecDepth 100000 in
theorem wA_matcher_99 {p : Program} {l : Launch} {e : Env} {R : Room} {s : State} {m : MethodId} {args : Array Value} {below : List Frame} {meth : Method} {c : Code} {E : xE} {A : Nat → Prop} {τ : yS} (C : xC p s m args meth c R E A bA_matcher 8 yA_matcher (some .int) 4 1 5) (N : Nat) (σ : xS) (a1 : Int32) (a2 : Int32) (a3 : Int32) (t0 : Option Nat) (res : Int32 × xS) (hf : fA_matcher_99 N σ a1 a2 a3 t0 = some res) (H : Heap) (locs : List Loc) (ls : Array Slot) (hw : xW E A s σ τ H locs) (hl : lv_has ls 8 [(0, .ref (E.2.2.1 0 0)), (1, .int a1), (2, .int a2), (3, .int a3)]) : W p l e R s m args below meth c H locs 0 0 (MQ below (xQ E A (some (.int res.1)) res.2 τ) args s 1 5 A) (F0 m 99 ls [va_rf t0]) := by
  have hx := C.1
  have hb := C.2.1
  unfold fA_matcher_99 at hf
  refine x_astore (lv' := [(6, va_rf t0), (0, .ref (E.2.2.1 0 0)), (1, .int a1), (2, .int a2), (3, .int a3)]) hx hb dA_matcher_99 hl (by decide) rfl (fun ls hl => ?_)
  refine lv_iload_n hx hb dA_matcher_101 rfl (lv_at hl 4 rfl) ?_
  refine lv_if_le (tgt := 115) hx hb dA_matcher_102 (by decide) (fun c38 => ?_) (fun c38 => ?_)
  · replace hf := x_ip c38 hf
    refine x_null hx hb dA_matcher_115 ?_
    exact wA_matcher_116 C N σ a1 a2 t0 none res hf H locs ls hw (lv_sub hl [1, 2, 3, 0] rfl)
  · replace hf := x_in c38 hf
    refine lv_aload_n hx hb dA_matcher_105 rfl (lv_at hl 1 rfl) ?_
    refine x_get C hw 0 0 4 (v := .ref (E.2.2.1 4 0)) at_0 rfl rfl ⟨by decide, by decide⟩ wA_29 rfl dA_matcher_106 ?_
    obtain ⟨r40, s41, h39, hf⟩ := x_b hf
    refine x_callVN (As := []) (rest := []) (st1 := [va_rf r40]) C hw (cK_pop l E σ τ (r40, s41) h39) kA_136 (x_recv C hw 4 0 at_4 rfl rfl) (by decide) rfl rfl hl.1 (lv_room (Nat.le_of_ble_eq_true rfl)) dA_matcher_109 ⟨by decide, by decide⟩ rfl (fun H locs hw => ?_)
    refine lv_goto (tgt := 116) hx hb dA_matcher_112 (by decide) ?_
    exact wA_matcher_116 C N s41 a1 a2 t0 r40 res hf H locs ls hw (lv_sub hl [1, 2, 3, 0] rfl)
set_option maxHeartbeats 4000000 in
set_option maxRecDepth 100000 in
theorem wA_matcher_70 {p : Program} {l : Launch} {e : Env} {R : Room} {s : State} {m : MethodId} {args : Array Value} {below : List Frame} {meth : Method} {c : Code} {E : xE} {A : Nat → Prop} {τ : yS} (C : xC p s m args meth c R E A bA_matcher 8 yA_matcher (some .int) 4 1 5) (N : Nat) (σ : xS) (a1 : Int32) (a2 : Int32) (a3 : Int32) (t0 : Int32) (t1 : Int32) (t2 : Int32) (res : Int32 × xS) (hf : fA_matcher_70 N σ a1 a2 a3 t0 t1 t2 = some res) (H : Heap) (locs : List Loc) (ls : Array Slot) (hw : xW E A s σ τ H locs) (hl : lv_has ls 8 [(0, .ref (E.2.2.1 0 0)), (1, .int a1), (2, .int a2), (3, .int a3)]) : W p l e R s m args below meth c H locs 0 0 (MQ below (xQ E A (some (.int res.1)) res.2 τ) args s 1 5 A) (F0 m 70 ls [.int t0, .int t1, .int t2, .ref (E.2.2.1 0 0)]) := by
  have hx := C.1
  have hb := C.2.1
  unfold fA_matcher_70 at hf
  obtain ⟨r43, s44, h42, hf⟩ := x_b hf
  refine x_callV (As := [.int t2, .int t1, .int t0]) (rest := []) (st1 := [.int r43]) C hw (cA_misuseIf l E σ τ t2 t1 t0 (r43, s44) h42) kA_132 (x_recv C hw 0 0 at_0 rfl rfl) (by decide) rfl rfl hl.1 (lv_room (Nat.le_of_ble_eq_true rfl)) dA_matcher_70 ⟨by decide, by decide⟩ rfl (fun H locs hw => ?_)
  refine lv_istore (lv' := [(5, .int r43), (0, .ref (E.2.2.1 0 0)), (1, .int a1), (2, .int a2), (3, .int a3)]) hx hb dA_matcher_73 hl (by decide) rfl (fun ls hl => ?_)
  refine lv_iload hx hb dA_matcher_75 (lv_at hl 0 rfl) ?_
  refine lv_if_eq (tgt := 83) hx hb dA_matcher_77 (by decide) (fun c45 => ?_) (fun c45 => ?_)
  · replace hf := x_ip c45 hf
    refine lv_iload_n hx hb dA_matcher_83 rfl (lv_at hl 4 rfl) ?_
    refine lv_iconst (v := 1) hx hb dA_matcher_84 (by decide) ?_
    refine lv_icmp_le (tgt := 98) hx hb dA_matcher_85 (by decide) (fun c46 => ?_) (fun c46 => ?_)
    · replace hf := x_ip c46 hf
      refine x_null hx hb dA_matcher_98 ?_
      exact wA_matcher_99 C N s44 a1 a2 a3 none res hf H locs ls hw (lv_sub hl [1, 2, 3, 4] rfl)
    · replace hf := x_in c46 hf
      refine lv_aload_n hx hb dA_matcher_88 rfl (lv_at hl 1 rfl) ?_
      refine x_get C hw 0 0 4 (v := .ref (E.2.2.1 4 0)) at_0 rfl rfl ⟨by decide, by decide⟩ wA_29 rfl dA_matcher_89 ?_
      obtain ⟨r48, s49, h47, hf⟩ := x_b hf
      refine x_callVN (As := []) (rest := []) (st1 := [va_rf r48]) C hw (cK_pop l E s44 τ (r48, s49) h47) kA_136 (x_recv C hw 4 0 at_4 rfl rfl) (by decide) rfl rfl hl.1 (lv_room (Nat.le_of_ble_eq_true rfl)) dA_matcher_92 ⟨by decide, by decide⟩ rfl (fun H locs hw => ?_)
      refine lv_goto (tgt := 99) hx hb dA_matcher_95 (by decide) ?_
      exact wA_matcher_99 C N s49 a1 a2 a3 r48 res hf H locs ls hw (lv_sub hl [1, 2, 3, 4] rfl)
  · replace hf := x_in c45 hf
    refine lv_iload hx hb dA_matcher_80 (lv_at hl 0 rfl) ?_
    obtain rfl := Option.some.inj hf
    refine W.widen (k := 1) (n := 5) (by decide) (by decide) ?_
    exact x_iret C hw dA_matcher_82
set_option maxHeartbeats 4000000 in
set_option maxRecDepth 100000 in
theorem wA_matcher_54 {p : Program} {l : Launch} {e : Env} {R : Room} {s : State} {m : MethodId} {args : Array Value} {below : List Frame} {meth : Method} {c : Code} {E : xE} {A : Nat → Prop} {τ : yS} (C : xC p s m args meth c R E A bA_matcher 8 yA_matcher (some .int) 4 1 5) (N : Nat) (σ : xS) (a1 : Int32) (a2 : Int32) (a3 : Int32) (a4 : Int32) (res : Int32 × xS) (hf : fA_matcher_54 N σ a1 a2 a3 a4 = some res) (H : Heap) (locs : List Loc) (ls : Array Slot) (hw : xW E A s σ τ H locs) (hl : lv_has ls 8 [(0, .ref (E.2.2.1 0 0)), (1, .int a1), (2, .int a2), (3, .int a3), (4, .int a4)]) : W p l e R s m args below meth c H locs 0 0 (MQ below (xQ E A (some (.int res.1)) res.2 τ) args s 1 5 A) (F0 m 54 ls []) := by
  have hx := C.1
  have hb := C.2.1
  unfold fA_matcher_54 at hf
  refine lv_aload_n hx hb dA_matcher_54 rfl (lv_at hl 0 rfl) ?_
  refine lv_aload_n hx hb dA_matcher_55 rfl (lv_at hl 0 rfl) ?_
  obtain ⟨r51, h50, hf⟩ := x_p hf
  refine x_callV (As := []) (rest := [.ref (E.2.2.1 0 0)]) (st1 := [.int r51, .ref (E.2.2.1 0 0)]) C hw (cA_lacksAnswers l E σ τ r51 h50) kA_128 (x_recv C hw 0 0 at_0 rfl rfl) (by decide) rfl rfl hl.1 (lv_room (Nat.le_of_ble_eq_true rfl)) dA_matcher_56 ⟨by decide, by decide⟩ rfl (fun H locs hw => ?_)
  refine lv_iconst (v := 0) hx hb dA_matcher_59 (by decide) ?_
  refine lv_iload hx hb dA_matcher_60 (lv_at hl 4 rfl) ?_
  refine lv_if_ne (tgt := 69) hx hb dA_matcher_62 (by decide) (fun c52 => ?_) (fun c52 => ?_)
  · replace hf := x_in c52 hf
    refine lv_iconst (v := 0) hx hb dA_matcher_69 (by decide) ?_
    exact wA_matcher_70 C N σ a1 a2 a3 0 0 r51 res hf H locs ls hw (lv_sub hl [0, 1, 2, 3] rfl)
  · replace hf := x_ip c52 hf
    refine lv_iconst (v := 1) hx hb dA_matcher_65 (by decide) ?_
    refine lv_goto (tgt := 70) hx hb dA_matcher_66 (by decide) ?_
    exact wA_matcher_70 C N σ a1 a2 a3 1 0 r51 res hf H locs ls hw (lv_sub hl [0, 1, 2, 3] rfl)
set_option maxHeartbeats 4000000 in
set_option maxRecDepth 100000 in
theorem wA_matcher_33 {p : Program} {l : Launch} {e : Env} {R : Room} {s : State} {m : MethodId} {args : Array Value} {below : List Frame} {meth : Method} {c : Code} {E : xE} {A : Nat → Prop} {τ : yS} (C : xC p s m args meth c R E A bA_matcher 8 yA_matcher (some .int) 4 1 5) (N : Nat) (σ : xS) (a1 : Int32) (a2 : Int32) (a3 : Int32) (t0 : Int32) (res : Int32 × xS) (hf : fA_matcher_33 N σ a1 a2 a3 t0 = some res) (H : Heap) (locs : List Loc) (ls : Array Slot) (hw : xW E A s σ τ H locs) (hl : lv_has ls 8 [(0, .ref (E.2.2.1 0 0)), (1, .int a1), (2, .int a2), (3, .int a3)]) : W p l e R s m args below meth c H locs 0 0 (MQ below (xQ E A (some (.int res.1)) res.2 τ) args s 1 5 A) (F0 m 33 ls [.int t0]) := by
  have hx := C.1
  have hb := C.2.1
  unfold fA_matcher_33 at hf
  refine lv_istore (lv' := [(4, .int t0), (0, .ref (E.2.2.1 0 0)), (1, .int a1), (2, .int a2), (3, .int a3)]) hx hb dA_matcher_33 hl (by decide) rfl (fun ls hl => ?_)
  refine lv_iload hx hb dA_matcher_35 (lv_at hl 0 rfl) ?_
  refine lv_if_eq (tgt := 54) hx hb dA_matcher_37 (by decide) (fun c53 => ?_) (fun c53 => ?_)
  · replace hf := x_ip c53 hf
    exact wA_matcher_54 C N σ a1 a2 a3 t0 res hf H locs ls hw (lv_sub hl [1, 2, 3, 4, 0] rfl)
  · replace hf := x_in c53 hf
    refine lv_aload_n hx hb dA_matcher_40 rfl (lv_at hl 1 rfl) ?_
    refine x_get C hw 0 0 4 (v := .ref (E.2.2.1 4 0)) at_0 rfl rfl ⟨by decide, by decide⟩ wA_29 rfl dA_matcher_41 ?_
    refine lv_iload_n hx hb dA_matcher_44 rfl (lv_at hl 4 rfl) ?_
    obtain ⟨r55, h54, hf⟩ := x_p hf
    refine x_callVN (As := [.int a3]) (rest := []) (st1 := [.int r55]) C hw (cK_hasRoomFor l E N σ τ a3 r55 h54) kA_124 (x_recv C hw 4 0 at_4 rfl rfl) (by decide) rfl rfl hl.1 (lv_room (Nat.le_of_ble_eq_true rfl)) dA_matcher_45 ⟨by decide, by decide⟩ rfl (fun H locs hw => ?_)
    refine lv_if_ne (tgt := 54) hx hb dA_matcher_48 (by decide) (fun c56 => ?_) (fun c56 => ?_)
    · replace hf := x_in c56 hf
      exact wA_matcher_54 C N σ a1 a2 a3 t0 res hf H locs ls hw (lv_sub hl [1, 2, 3, 4, 0] rfl)
    · replace hf := x_ip c56 hf
      refine lv_bipush (v := (-2)) hx hb dA_matcher_51 (by decide) ?_
      obtain rfl := Option.some.inj hf
      refine W.widen (k := 1) (n := 5) (by decide) (by decide) ?_
      exact x_iret C hw dA_matcher_53
set_option maxHeartbeats 4000000 in
set_option maxRecDepth 100000 in
theorem cA_matcher (l : Launch) (E : xE) (N : Nat) (σ : xS) (τ : yS) (a1 : Int32) (a2 : Int32) (res : Int32 × xS) (hf : fA_matcher N σ a1 a2 = some res) : xM l E yA_matcher bA_matcher 8 (some .int) 4 1 5 [.ref (E.2.2.1 0 0), .int a1, .int a2] σ τ (some (.int res.1)) res.2 τ := by
  refine x_met (by decide) (Nat.le_of_ble_eq_true rfl) (fun p e R s m args below meth c A ls H locs C hw hl => ?_)
  have hl : lv_has ls 8 [(0, .ref (E.2.2.1 0 0)), (1, .int a1), (2, .int a2)] := hl
  have hx := C.1
  have hb := C.2.1
  unfold fA_matcher at hf
  refine lv_iload_n hx hb dA_matcher_0 rfl (lv_at hl 1 rfl) ?_
  refine lv_if_lt (tgt := 10) hx hb dA_matcher_1 (by decide) (fun c57 => ?_) (fun c57 => ?_)
  · replace hf := x_ip c57 hf
    refine lv_iconst (v := (-1)) hx hb dA_matcher_10 (by decide) ?_
    obtain rfl := Option.some.inj hf
    refine W.widen (k := 1) (n := 5) (by decide) (by decide) ?_
    exact x_iret C hw dA_matcher_11
  · replace hf := x_in c57 hf
    refine lv_iload_n hx hb dA_matcher_4 rfl (lv_at hl 1 rfl) ?_
    refine lv_bipush (v := 7) hx hb dA_matcher_5 (by decide) ?_
    refine lv_icmp_le (tgt := 12) hx hb dA_matcher_7 (by decide) (fun c58 => ?_) (fun c58 => ?_)
    · replace hf := x_ip c58 hf
      refine lv_iload_n hx hb dA_matcher_12 rfl (lv_at hl 1 rfl) ?_
      refine x_callSN (As := [.int a1]) (rest := []) (st1 := [.int (fH_takenBy a1)]) C hw (cH_takenBy l E σ τ a1) kA_116 (by decide) rfl rfl hl.1 (lv_room (Nat.le_of_ble_eq_true rfl)) dA_matcher_13 ⟨by decide, by decide⟩ rfl (fun H locs hw => ?_)
      refine lv_istore_n (lv' := [(3, .int (fH_takenBy a1)), (0, .ref (E.2.2.1 0 0)), (1, .int a1), (2, .int a2)]) hx hb dA_matcher_16 rfl hl (by decide) rfl (fun ls hl => ?_)
      refine lv_aload_n hx hb dA_matcher_17 rfl (lv_at hl 1 rfl) ?_
      refine x_get C hw 0 0 4 (v := .ref (E.2.2.1 4 0)) at_0 rfl rfl ⟨by decide, by decide⟩ wA_29 rfl dA_matcher_18 ?_
      refine x_getN C hw 4 0 1 (v := .int (σ.1 4 0 1)) at_4 rfl rfl ⟨by decide, by decide⟩ wA_121 rfl dA_matcher_21 ?_
      refine lv_iload_n hx hb dA_matcher_24 rfl (lv_at hl 0 rfl) ?_
      refine lv_icmp_lt (tgt := 32) hx hb dA_matcher_25 (by decide) (fun c60 => ?_) (fun c60 => ?_)
      · replace hf := x_ip c60 hf
        refine lv_iconst (v := 0) hx hb dA_matcher_32 (by decide) ?_
        exact wA_matcher_33 C N σ a1 a2 (fH_takenBy a1) 0 res hf H locs ls hw (lv_sub hl [1, 2, 3, 0] rfl)
      · replace hf := x_in c60 hf
        refine lv_iconst (v := 1) hx hb dA_matcher_28 (by decide) ?_
        refine lv_goto (tgt := 33) hx hb dA_matcher_29 (by decide) ?_
        exact wA_matcher_33 C N σ a1 a2 (fH_takenBy a1) 1 res hf H locs ls hw (lv_sub hl [1, 2, 3, 0] rfl)
    · replace hf := x_in c58 hf
      refine lv_iconst (v := (-1)) hx hb dA_matcher_10 (by decide) ?_
      obtain rfl := Option.some.inj hf
      refine W.widen (k := 1) (n := 5) (by decide) (by decide) ?_
      exact x_iret C hw dA_matcher_11
-- StandIns isStandIn (I)Z
set_option maxRecDepth 100000 in
theorem dA_isStandIn_0 : decode bA_isStandIn 0 = .ok (.iload_n 1, 1) := by decide +kernel
set_option maxRecDepth 100000 in
theorem dA_isStandIn_1 : decode bA_isStandIn 1 = .ok (.aload_n 0, 1) := by decide +kernel
set_option maxRecDepth 100000 in
theorem dA_isStandIn_2 : decode bA_isStandIn 2 = .ok (.getfield 22, 3) := by decide +kernel
set_option maxRecDepth 100000 in
theorem dA_isStandIn_5 : decode bA_isStandIn 5 = .ok (.invokestatic 97, 3) := by decide +kernel
set_option maxRecDepth 100000 in
theorem dA_isStandIn_8 : decode bA_isStandIn 8 = .ok (.ireturn, 1) := by decide +kernel
def fA_isStandIn (σ : xS) (a1 : Int32) : Int32 :=
  fA_isBelow a1 (σ.1 0 0 3)
set_option maxHeartbeats 4000000 in
set_option maxRecDepth 100000 in
theorem cA_isStandIn (l : Launch) (E : xE) (σ : xS) (τ : yS) (a1 : Int32) : xM l E yA_isStandIn bA_isStandIn 2 (some .boolean) 1 0 0 [.ref (E.2.2.1 0 0), .int a1] σ τ (some (.int (fA_isStandIn σ a1))) σ τ := by
  refine x_met (by decide) (Nat.le_of_ble_eq_true rfl) (fun p e R s m args below meth c A ls H locs C hw hl => ?_)
  have hl : lv_has ls 2 [(0, .ref (E.2.2.1 0 0)), (1, .int a1)] := hl
  have hx := C.1
  have hb := C.2.1
  obtain ⟨res, hf⟩ : ∃ z, fA_isStandIn σ a1 = z := ⟨_, rfl⟩
  rw [hf]
  unfold fA_isStandIn at hf
  refine lv_iload_n hx hb dA_isStandIn_0 rfl (lv_at hl 1 rfl) ?_
  refine lv_aload_n hx hb dA_isStandIn_1 rfl (lv_at hl 0 rfl) ?_
  refine x_get C hw 0 0 3 (v := .int (σ.1 0 0 3)) at_0 rfl rfl ⟨by decide, by decide⟩ wA_22 rfl dA_isStandIn_2 ?_
  refine x_callS (As := [.int a1, .int (σ.1 0 0 3)]) (rest := []) (st1 := [.int (fA_isBelow a1 (σ.1 0 0 3))]) C hw (cA_isBelow l E σ τ a1 (σ.1 0 0 3)) kA_97 (by decide) rfl rfl hl.1 (lv_room (Nat.le_of_ble_eq_true rfl)) dA_isStandIn_5 ⟨by decide, by decide⟩ rfl (fun H locs hw => ?_)
  obtain rfl := hf
  exact x_zret C hw (zA_isBelow a1 (σ.1 0 0 3)) dA_isStandIn_8
theorem zA_isStandIn (σ : xS) (a1 : Int32) : narrow .boolean (.int (fA_isStandIn σ a1)) = .int (fA_isStandIn σ a1) := by
  unfold fA_isStandIn
  (repeat' split) <;> first | rfl | exact zA_isBelow _ _
-- StandIns hasNoRoomForCallOf (I)Z
set_option maxRecDepth 100000 in
theorem dA_hasNoRoomForCallOf_0 : decode bA_hasNoRoomForCallOf 0 = .ok (.aload_n 0, 1) := by decide +kernel
set_option maxRecDepth 100000 in
theorem dA_hasNoRoomForCallOf_1 : decode bA_hasNoRoomForCallOf 1 = .ok (.invokevirtual 147, 3) := by decide +kernel
set_option maxRecDepth 100000 in
theorem dA_hasNoRoomForCallOf_4 : decode bA_hasNoRoomForCallOf 4 = .ok (.ifCond .eq 34, 3) := by decide +kernel
set_option maxRecDepth 100000 in
theorem dA_hasNoRoomForCallOf_7 : decode bA_hasNoRoomForCallOf 7 = .ok (.aload_n 0, 1) := by decide +kernel
set_option maxRecDepth 100000 in
theorem dA_hasNoRoomForCallOf_8 : decode bA_hasNoRoomForCallOf 8 = .ok (.getfield 77, 3) := by decide +kernel
set_option maxRecDepth 100000 in
theorem dA_hasNoRoomForCallOf_11 : decode bA_hasNoRoomForCallOf 11 = .ok (.iconst 2, 1) := by decide +kernel
set_option maxRecDepth 100000 in
theorem dA_hasNoRoomForCallOf_12 : decode bA_hasNoRoomForCallOf 12 = .ok (.if_icmp .ne 24, 3) := by decide +kernel
set_option maxRecDepth 100000 in
theorem dA_hasNoRoomForCallOf_15 : decode bA_hasNoRoomForCallOf 15 = .ok (.iload_n 1, 1) := by decide +kernel
set_option maxRecDepth 100000 in
theorem dA_hasNoRoomForCallOf_16 : decode bA_hasNoRoomForCallOf 16 = .ok (.aload_n 0, 1) := by decide +kernel
set_option maxRecDepth 100000 in
theorem dA_hasNoRoomForCallOf_17 : decode bA_hasNoRoomForCallOf 17 = .ok (.getfield 80, 3) := by decide +kernel
set_option maxRecDepth 100000 in
theorem dA_hasNoRoomForCallOf_20 : decode bA_hasNoRoomForCallOf 20 = .ok (.if_icmp .ne 16, 3) := by decide +kernel
set_option maxRecDepth 100000 in
theorem dA_hasNoRoomForCallOf_23 : decode bA_hasNoRoomForCallOf 23 = .ok (.aload_n 0, 1) := by decide +kernel
set_option maxRecDepth 100000 in
theorem dA_hasNoRoomForCallOf_24 : decode bA_hasNoRoomForCallOf 24 = .ok (.getfield 53, 3) := by decide +kernel
set_option maxRecDepth 100000 in
theorem dA_hasNoRoomForCallOf_27 : decode bA_hasNoRoomForCallOf 27 = .ok (.bipush 16, 2) := by decide +kernel
set_option maxRecDepth 100000 in
theorem dA_hasNoRoomForCallOf_29 : decode bA_hasNoRoomForCallOf 29 = .ok (.if_icmp .lt 7, 3) := by decide +kernel
set_option maxRecDepth 100000 in
theorem dA_hasNoRoomForCallOf_32 : decode bA_hasNoRoomForCallOf 32 = .ok (.iconst 1, 1) := by decide +kernel
set_option maxRecDepth 100000 in
theorem dA_hasNoRoomForCallOf_33 : decode bA_hasNoRoomForCallOf 33 = .ok (.goto 4, 3) := by decide +kernel
set_option maxRecDepth 100000 in
theorem dA_hasNoRoomForCallOf_36 : decode bA_hasNoRoomForCallOf 36 = .ok (.iconst 0, 1) := by decide +kernel
set_option maxRecDepth 100000 in
theorem dA_hasNoRoomForCallOf_37 : decode bA_hasNoRoomForCallOf 37 = .ok (.ireturn, 1) := by decide +kernel
set_option maxRecDepth 100000 in
theorem dA_hasNoRoomForCallOf_38 : decode bA_hasNoRoomForCallOf 38 = .ok (.aload_n 0, 1) := by decide +kernel
set_option maxRecDepth 100000 in
theorem dA_hasNoRoomForCallOf_39 : decode bA_hasNoRoomForCallOf 39 = .ok (.getfield 43, 3) := by decide +kernel
set_option maxRecDepth 100000 in
theorem dA_hasNoRoomForCallOf_42 : decode bA_hasNoRoomForCallOf 42 = .ok (.getfield 225, 3) := by decide +kernel
set_option maxRecDepth 100000 in
theorem dA_hasNoRoomForCallOf_45 : decode bA_hasNoRoomForCallOf 45 = .ok (.bipush 40, 2) := by decide +kernel
set_option maxRecDepth 100000 in
theorem dA_hasNoRoomForCallOf_47 : decode bA_hasNoRoomForCallOf 47 = .ok (.if_icmp .lt 7, 3) := by decide +kernel
set_option maxRecDepth 100000 in
theorem dA_hasNoRoomForCallOf_50 : decode bA_hasNoRoomForCallOf 50 = .ok (.iconst 1, 1) := by decide +kernel
set_option maxRecDepth 100000 in
theorem dA_hasNoRoomForCallOf_51 : decode bA_hasNoRoomForCallOf 51 = .ok (.goto 4, 3) := by decide +kernel
set_option maxRecDepth 100000 in
theorem dA_hasNoRoomForCallOf_54 : decode bA_hasNoRoomForCallOf 54 = .ok (.iconst 0, 1) := by decide +kernel
set_option maxRecDepth 100000 in
theorem dA_hasNoRoomForCallOf_55 : decode bA_hasNoRoomForCallOf 55 = .ok (.ireturn, 1) := by decide +kernel
def fA_hasNoRoomForCallOf (σ : xS) (a1 : Int32) : Int32 :=
  if (fA_awaitsCall σ) = 0 then
  (if (σ.1 6 0 1) < 40 then
  (0)
  else
  (1))
  else
  (if (σ.1 0 0 12) = 2 then
  (if a1 = (σ.1 0 0 13) then
  (if (σ.1 0 0 8) < 16 then
  (0)
  else
  (1))
  else
  (0))
  else
  (0))
set_option maxHeartbeats 4000000 in
set_option maxRecDepth 100000 in
theorem cA_hasNoRoomForCallOf (l : Launch) (E : xE) (σ : xS) (τ : yS) (a1 : Int32) : xM l E yA_hasNoRoomForCallOf bA_hasNoRoomForCallOf 2 (some .boolean) 1 0 0 [.ref (E.2.2.1 0 0), .int a1] σ τ (some (.int (fA_hasNoRoomForCallOf σ a1))) σ τ := by
  refine x_met (by decide) (Nat.le_of_ble_eq_true rfl) (fun p e R s m args below meth c A ls H locs C hw hl => ?_)
  have hl : lv_has ls 2 [(0, .ref (E.2.2.1 0 0)), (1, .int a1)] := hl
  have hx := C.1
  have hb := C.2.1
  obtain ⟨res, hf⟩ : ∃ z, fA_hasNoRoomForCallOf σ a1 = z := ⟨_, rfl⟩
  rw [hf]
  unfold fA_hasNoRoomForCallOf at hf
  refine lv_aload_n hx hb dA_hasNoRoomForCallOf_0 rfl (lv_at hl 0 rfl) ?_
  refine x_callV (As := []) (rest := []) (st1 := [.int (fA_awaitsCall σ)]) C hw (cA_awaitsCall l E σ τ) kA_147 (x_recv C hw 0 0 at_0 rfl rfl) (by decide) rfl rfl hl.1 (lv_room (Nat.le_of_ble_eq_true rfl)) dA_hasNoRoomForCallOf_1 ⟨by decide, by decide⟩ rfl (fun H locs hw => ?_)
  refine lv_if_eq (tgt := 38) hx hb dA_hasNoRoomForCallOf_4 (by decide) (fun c2 => ?_) (fun c2 => ?_)
  · replace hf := x_ip c2 hf
    refine lv_aload_n hx hb dA_hasNoRoomForCallOf_38 rfl (lv_at hl 0 rfl) ?_
    refine x_get C hw 0 0 6 (v := .ref (E.2.2.1 6 0)) at_0 rfl rfl ⟨by decide, by decide⟩ wA_43 rfl dA_hasNoRoomForCallOf_39 ?_
    refine x_getN C hw 6 0 1 (v := .int (σ.1 6 0 1)) at_6 rfl rfl ⟨by decide, by decide⟩ wA_225 rfl dA_hasNoRoomForCallOf_42 ?_
    refine lv_bipush (v := 40) hx hb dA_hasNoRoomForCallOf_45 (by decide) ?_
    refine lv_icmp_lt (tgt := 54) hx hb dA_hasNoRoomForCallOf_47 (by decide) (fun c3 => ?_) (fun c3 => ?_)
    · replace hf := x_ip c3 hf
      refine lv_iconst (v := 0) hx hb dA_hasNoRoomForCallOf_54 (by decide) ?_
      obtain rfl := hf
      exact x_zret C hw (x_nz (v := 0) (Or.inl rfl)) dA_hasNoRoomForCallOf_55
    · replace hf := x_in c3 hf
      refine lv_iconst (v := 1) hx hb dA_hasNoRoomForCallOf_50 (by decide) ?_
      refine lv_goto (tgt := 55) hx hb dA_hasNoRoomForCallOf_51 (by decide) ?_
      obtain rfl := hf
      exact x_zret C hw (x_nz (v := 1) (Or.inr rfl)) dA_hasNoRoomForCallOf_55
  · replace hf := x_in c2 hf
    refine lv_aload_n hx hb dA_hasNoRoomForCallOf_7 rfl (lv_at hl 0 rfl) ?_
    refine x_get C hw 0 0 12 (v := .int (σ.1 0 0 12)) at_0 rfl rfl ⟨by decide, by decide⟩ wA_77 rfl dA_hasNoRoomForCallOf_8 ?_
    refine lv_iconst (v := 2) hx hb dA_hasNoRoomForCallOf_11 (by decide) ?_
    refine lv_icmp_ne (tgt := 36) hx hb dA_hasNoRoomForCallOf_12 (by decide) (fun c4 => ?_) (fun c4 => ?_)
    · replace hf := x_in c4 hf
      refine lv_iconst (v := 0) hx hb dA_hasNoRoomForCallOf_36 (by decide) ?_
      obtain rfl := hf
      exact x_zret C hw (x_nz (v := 0) (Or.inl rfl)) dA_hasNoRoomForCallOf_37
    · replace hf := x_ip c4 hf
      refine lv_iload_n hx hb dA_hasNoRoomForCallOf_15 rfl (lv_at hl 1 rfl) ?_
      refine lv_aload_n hx hb dA_hasNoRoomForCallOf_16 rfl (lv_at hl 0 rfl) ?_
      refine x_get C hw 0 0 13 (v := .int (σ.1 0 0 13)) at_0 rfl rfl ⟨by decide, by decide⟩ wA_80 rfl dA_hasNoRoomForCallOf_17 ?_
      refine lv_icmp_ne (tgt := 36) hx hb dA_hasNoRoomForCallOf_20 (by decide) (fun c5 => ?_) (fun c5 => ?_)
      · replace hf := x_in c5 hf
        refine lv_iconst (v := 0) hx hb dA_hasNoRoomForCallOf_36 (by decide) ?_
        obtain rfl := hf
        exact x_zret C hw (x_nz (v := 0) (Or.inl rfl)) dA_hasNoRoomForCallOf_37
      · replace hf := x_ip c5 hf
        refine lv_aload_n hx hb dA_hasNoRoomForCallOf_23 rfl (lv_at hl 0 rfl) ?_
        refine x_get C hw 0 0 8 (v := .int (σ.1 0 0 8)) at_0 rfl rfl ⟨by decide, by decide⟩ wA_53 rfl dA_hasNoRoomForCallOf_24 ?_
        refine lv_bipush (v := 16) hx hb dA_hasNoRoomForCallOf_27 (by decide) ?_
        refine lv_icmp_lt (tgt := 36) hx hb dA_hasNoRoomForCallOf_29 (by decide) (fun c6 => ?_) (fun c6 => ?_)
        · replace hf := x_ip c6 hf
          refine lv_iconst (v := 0) hx hb dA_hasNoRoomForCallOf_36 (by decide) ?_
          obtain rfl := hf
          exact x_zret C hw (x_nz (v := 0) (Or.inl rfl)) dA_hasNoRoomForCallOf_37
        · replace hf := x_in c6 hf
          refine lv_iconst (v := 1) hx hb dA_hasNoRoomForCallOf_32 (by decide) ?_
          refine lv_goto (tgt := 37) hx hb dA_hasNoRoomForCallOf_33 (by decide) ?_
          obtain rfl := hf
          exact x_zret C hw (x_nz (v := 1) (Or.inr rfl)) dA_hasNoRoomForCallOf_37
theorem zA_hasNoRoomForCallOf (σ : xS) (a1 : Int32) : narrow .boolean (.int (fA_hasNoRoomForCallOf σ a1)) = .int (fA_hasNoRoomForCallOf σ a1) := by
  unfold fA_hasNoRoomForCallOf
  (repeat' split) <;> first | rfl | exact zA_awaitsCall _
-- StandIns methodOf (II)LStandIns$Method;
set_option maxRecDepth 100000 in
theorem dA_methodOf_0 : decode bA_methodOf 0 = .ok (.aload_n 0, 1) := by decide +kernel
set_option maxRecDepth 100000 in
theorem dA_methodOf_1 : decode bA_methodOf 1 = .ok (.getfield 11, 3) := by decide +kernel
set_option maxRecDepth 100000 in
theorem dA_methodOf_4 : decode bA_methodOf 4 = .ok (.aload_n 0, 1) := by decide +kernel
set_option maxRecDepth 100000 in
theorem dA_methodOf_5 : decode bA_methodOf 5 = .ok (.getfield 15, 3) := by decide +kernel
set_option maxRecDepth 100000 in
theorem dA_methodOf_8 : decode bA_methodOf 8 = .ok (.iload_n 1, 1) := by decide +kernel
set_option maxRecDepth 100000 in
theorem dA_methodOf_9 : decode bA_methodOf 9 = .ok (.iaload, 1) := by decide +kernel
set_option maxRecDepth 100000 in
theorem dA_methodOf_10 : decode bA_methodOf 10 = .ok (.iconst 4, 1) := by decide +kernel
set_option maxRecDepth 100000 in
theorem dA_methodOf_11 : decode bA_methodOf 11 = .ok (.imul, 1) := by decide +kernel
set_option maxRecDepth 100000 in
theorem dA_methodOf_12 : decode bA_methodOf 12 = .ok (.iload_n 2, 1) := by decide +kernel
set_option maxRecDepth 100000 in
theorem dA_methodOf_13 : decode bA_methodOf 13 = .ok (.iadd, 1) := by decide +kernel
set_option maxRecDepth 100000 in
theorem dA_methodOf_14 : decode bA_methodOf 14 = .ok (.aaload, 1) := by decide +kernel
set_option maxRecDepth 100000 in
theorem dA_methodOf_15 : decode bA_methodOf 15 = .ok (.areturn, 1) := by decide +kernel
def fA_methodOf (σ : xS) (a1 : Int32) (a2 : Int32) : Option (Nat) :=
  if ¬ (a1 < 0 ∨ 6 ≤ a1.toNatClampNeg) then
  if ¬ ((((σ.1 2 0 a1.toNatClampNeg) * 4) + a2) < 0 ∨ 12 ≤ (((σ.1 2 0 a1.toNatClampNeg) * 4) + a2).toNatClampNeg) then
  some ((((σ.1 2 0 a1.toNatClampNeg) * 4) + a2).toNatClampNeg)
  else none
  else none
set_option maxHeartbeats 4000000 in
set_option maxRecDepth 100000 in
theorem cA_methodOf (l : Launch) (E : xE) (σ : xS) (τ : yS) (a1 : Int32) (a2 : Int32) (res : Nat) (hf : fA_methodOf σ a1 a2 = some res) : xM l E yA_methodOf bA_methodOf 3 (some (.object "StandIns$Method")) 0 0 0 [.ref (E.2.2.1 0 0), .int a1, .int a2] σ τ (some (.ref (E.2.2.1 14 res))) σ τ := by
  refine x_met (by decide) (Nat.le_of_ble_eq_true rfl) (fun p e R s m args below meth c A ls H locs C hw hl => ?_)
  have hl : lv_has ls 3 [(0, .ref (E.2.2.1 0 0)), (1, .int a1), (2, .int a2)] := hl
  have hx := C.1
  have hb := C.2.1
  unfold fA_methodOf at hf
  refine lv_aload_n hx hb dA_methodOf_0 rfl (lv_at hl 0 rfl) ?_
  refine x_get C hw 0 0 0 (v := .ref (E.2.2.1 1 0)) at_0 rfl rfl ⟨by decide, by decide⟩ wA_11 rfl dA_methodOf_1 ?_
  refine lv_aload_n hx hb dA_methodOf_4 rfl (lv_at hl 0 rfl) ?_
  refine x_get C hw 0 0 1 (v := .ref (E.2.2.1 2 0)) at_0 rfl rfl ⟨by decide, by decide⟩ wA_15 rfl dA_methodOf_5 ?_
  refine lv_iload_n hx hb dA_methodOf_8 rfl (lv_at hl 1 rfl) ?_
  obtain ⟨g1, hf⟩ := x_g hf
  refine x_ild C hw 2 0 at_2 rfl g1 dA_methodOf_9 ?_
  refine lv_iconst (v := 4) hx hb dA_methodOf_10 (by decide) ?_
  refine lv_imul hx hb dA_methodOf_11 ?_
  refine lv_iload_n hx hb dA_methodOf_12 rfl (lv_at hl 2 rfl) ?_
  refine lv_iadd hx hb dA_methodOf_13 ?_
  obtain ⟨g2, hf⟩ := x_g hf
  refine x_ald1 C hw g2 dA_methodOf_14 ?_
  have g3 := x_lt g2
  obtain rfl := Option.some.inj hf
  exact x_aret C hw (Or.inr ⟨_, rfl⟩) dA_methodOf_15
-- StandIns$Method canDo (II)Z
set_option maxRecDepth 100000 in
theorem dD_canDo_0 : decode bD_canDo 0 = .ok (.iload_n 1, 1) := by decide +kernel
set_option maxRecDepth 100000 in
theorem dD_canDo_1 : decode bD_canDo 1 = .ok (.iconst 2, 1) := by decide +kernel
set_option maxRecDepth 100000 in
theorem dD_canDo_2 : decode bD_canDo 2 = .ok (.if_icmp .ne 13, 3) := by decide +kernel
set_option maxRecDepth 100000 in
theorem dD_canDo_5 : decode bD_canDo 5 = .ok (.iload_n 2, 1) := by decide +kernel
set_option maxRecDepth 100000 in
theorem dD_canDo_6 : decode bD_canDo 6 = .ok (.aload_n 0, 1) := by decide +kernel
set_option maxRecDepth 100000 in
theorem dD_canDo_7 : decode bD_canDo 7 = .ok (.getfield 9, 3) := by decide +kernel
set_option maxRecDepth 100000 in
theorem dD_canDo_10 : decode bD_canDo 10 = .ok (.if_icmp .lt 5, 3) := by decide +kernel
set_option maxRecDepth 100000 in
theorem dD_canDo_13 : decode bD_canDo 13 = .ok (.iconst 0, 1) := by decide +kernel
set_option maxRecDepth 100000 in
theorem dD_canDo_14 : decode bD_canDo 14 = .ok (.ireturn, 1) := by decide +kernel
set_option maxRecDepth 100000 in
theorem dD_canDo_15 : decode bD_canDo 15 = .ok (.aload_n 0, 1) := by decide +kernel
set_option maxRecDepth 100000 in
theorem dD_canDo_16 : decode bD_canDo 16 = .ok (.getfield 15, 3) := by decide +kernel
set_option maxRecDepth 100000 in
theorem dD_canDo_19 : decode bD_canDo 19 = .ok (.ifCond .ne 8, 3) := by decide +kernel
set_option maxRecDepth 100000 in
theorem dD_canDo_22 : decode bD_canDo 22 = .ok (.iload_n 1, 1) := by decide +kernel
set_option maxRecDepth 100000 in
theorem dD_canDo_23 : decode bD_canDo 23 = .ok (.iconst 1, 1) := by decide +kernel
set_option maxRecDepth 100000 in
theorem dD_canDo_24 : decode bD_canDo 24 = .ok (.if_icmp .ne 7, 3) := by decide +kernel
set_option maxRecDepth 100000 in
theorem dD_canDo_27 : decode bD_canDo 27 = .ok (.iconst 1, 1) := by decide +kernel
set_option maxRecDepth 100000 in
theorem dD_canDo_28 : decode bD_canDo 28 = .ok (.goto 4, 3) := by decide +kernel
set_option maxRecDepth 100000 in
theorem dD_canDo_31 : decode bD_canDo 31 = .ok (.iconst 0, 1) := by decide +kernel
set_option maxRecDepth 100000 in
theorem dD_canDo_32 : decode bD_canDo 32 = .ok (.ireturn, 1) := by decide +kernel
def fD_canDo_27 (σ : xS) : Option (Int32) :=
  some 1
def fD_canDo_15 (σ : xS) (k0 : Nat) (a1 : Int32) : Option (Int32) :=
  if k0 < 12 then
  if (σ.1 14 k0 1) = 0 then
  (if a1 = 1 then
  (fD_canDo_27 σ)
  else
  (some 0))
  else
  (fD_canDo_27 σ)
  else none
def fD_canDo (σ : xS) (k0 : Nat) (a1 : Int32) (a2 : Int32) : Option (Int32) :=
  if a1 = 2 then
  (if k0 < 12 then
  if a2 < (σ.1 14 k0 0) then
  (fD_canDo_15 σ k0 a1)
  else
  (some 0)
  else none)
  else
  (fD_canDo_15 σ k0 a1)
set_option maxHeartbeats 4000000 in
set_option maxRecDepth 100000 in
theorem wD_canDo_27 {p : Program} {l : Launch} {e : Env} {R : Room} {s : State} {m : MethodId} {args : Array Value} {below : List Frame} {meth : Method} {c : Code} {E : xE} {A : Nat → Prop} {τ : yS} (C : xC p s m args meth c R E A bD_canDo 3 yD_canDo (some .boolean) 0 0 0) (σ : xS) (res : Int32) (hf : fD_canDo_27 σ = some res) (H : Heap) (locs : List Loc) (ls : Array Slot) (hw : xW E A s σ τ H locs) (hl : lv_has ls 3 []) : W p l e R s m args below meth c H locs 0 0 (MQ below (xQ E A (some (.int res)) σ τ) args s 0 0 A) (F0 m 27 ls []) := by
  have hx := C.1
  have hb := C.2.1
  unfold fD_canDo_27 at hf
  refine lv_iconst (v := 1) hx hb dD_canDo_27 (by decide) ?_
  refine lv_goto (tgt := 32) hx hb dD_canDo_28 (by decide) ?_
  obtain rfl := Option.some.inj hf
  exact x_zret C hw (x_nz (v := 1) (Or.inr rfl)) dD_canDo_32
set_option maxHeartbeats 4000000 in
set_option maxRecDepth 100000 in
theorem wD_canDo_15 {p : Program} {l : Launch} {e : Env} {R : Room} {s : State} {m : MethodId} {args : Array Value} {below : List Frame} {meth : Method} {c : Code} {E : xE} {A : Nat → Prop} {τ : yS} (C : xC p s m args meth c R E A bD_canDo 3 yD_canDo (some .boolean) 0 0 0) (σ : xS) (k0 : Nat) (a1 : Int32) (res : Int32) (hf : fD_canDo_15 σ k0 a1 = some res) (H : Heap) (locs : List Loc) (ls : Array Slot) (hw : xW E A s σ τ H locs) (hl : lv_has ls 3 [(0, .ref (E.2.2.1 14 k0)), (1, .int a1)]) : W p l e R s m args below meth c H locs 0 0 (MQ below (xQ E A (some (.int res)) σ τ) args s 0 0 A) (F0 m 15 ls []) := by
  have hx := C.1
  have hb := C.2.1
  unfold fD_canDo_15 at hf
  refine lv_aload_n hx hb dD_canDo_15 rfl (lv_at hl 0 rfl) ?_
  obtain ⟨g4, hf⟩ := x_g hf
  refine x_get C hw 14 k0 1 (v := .int (σ.1 14 k0 1)) (at_14 g4) rfl rfl ⟨by decide, by decide⟩ wD_15 rfl dD_canDo_16 ?_
  refine lv_if_ne (tgt := 27) hx hb dD_canDo_19 (by decide) (fun c5 => ?_) (fun c5 => ?_)
  · replace hf := x_in c5 hf
    exact wD_canDo_27 C σ res hf H locs ls hw (lv_sub hl [] rfl)
  · replace hf := x_ip c5 hf
    refine lv_iload_n hx hb dD_canDo_22 rfl (lv_at hl 1 rfl) ?_
    refine lv_iconst (v := 1) hx hb dD_canDo_23 (by decide) ?_
    refine lv_icmp_ne (tgt := 31) hx hb dD_canDo_24 (by decide) (fun c6 => ?_) (fun c6 => ?_)
    · replace hf := x_in c6 hf
      refine lv_iconst (v := 0) hx hb dD_canDo_31 (by decide) ?_
      obtain rfl := Option.some.inj hf
      exact x_zret C hw (x_nz (v := 0) (Or.inl rfl)) dD_canDo_32
    · replace hf := x_ip c6 hf
      exact wD_canDo_27 C σ res hf H locs ls hw (lv_sub hl [] rfl)
set_option maxHeartbeats 4000000 in
set_option maxRecDepth 100000 in
theorem cD_canDo (l : Launch) (E : xE) (σ : xS) (τ : yS) (k0 : Nat) (a1 : Int32) (a2 : Int32) (res : Int32) (hf : fD_canDo σ k0 a1 a2 = some res) : xM l E yD_canDo bD_canDo 3 (some .boolean) 0 0 0 [.ref (E.2.2.1 14 k0), .int a1, .int a2] σ τ (some (.int res)) σ τ := by
  refine x_met (by decide) (Nat.le_of_ble_eq_true rfl) (fun p e R s m args below meth c A ls H locs C hw hl => ?_)
  have hl : lv_has ls 3 [(0, .ref (E.2.2.1 14 k0)), (1, .int a1), (2, .int a2)] := hl
  have hx := C.1
  have hb := C.2.1
  unfold fD_canDo at hf
  refine lv_iload_n hx hb dD_canDo_0 rfl (lv_at hl 1 rfl) ?_
  refine lv_iconst (v := 2) hx hb dD_canDo_1 (by decide) ?_
  refine lv_icmp_ne (tgt := 15) hx hb dD_canDo_2 (by decide) (fun c7 => ?_) (fun c7 => ?_)
  · replace hf := x_in c7 hf
    exact wD_canDo_15 C σ k0 a1 res hf H locs ls hw (lv_sub hl [0, 1] rfl)
  · replace hf := x_ip c7 hf
    refine lv_iload_n hx hb dD_canDo_5 rfl (lv_at hl 2 rfl) ?_
    refine lv_aload_n hx hb dD_canDo_6 rfl (lv_at hl 0 rfl) ?_
    obtain ⟨g8, hf⟩ := x_g hf
    refine x_get C hw 14 k0 0 (v := .int (σ.1 14 k0 0)) (at_14 g8) rfl rfl ⟨by decide, by decide⟩ wD_9 rfl dD_canDo_7 ?_
    refine lv_icmp_lt (tgt := 15) hx hb dD_canDo_10 (by decide) (fun c9 => ?_) (fun c9 => ?_)
    · replace hf := x_ip c9 hf
      exact wD_canDo_15 C σ k0 a1 res hf H locs ls hw (lv_sub hl [0, 1] rfl)
    · replace hf := x_in c9 hf
      refine lv_iconst (v := 0) hx hb dD_canDo_13 (by decide) ?_
      obtain rfl := Option.some.inj hf
      exact x_zret C hw (x_nz (v := 0) (Or.inl rfl)) dD_canDo_14
-- StandIns$Answers allDoFor (LStandIns$Method;)Z
set_option maxRecDepth 100000 in
theorem dQ_allDoFor_0 : decode bQ_allDoFor 0 = .ok (.iconst 0, 1) := by decide +kernel
set_option maxRecDepth 100000 in
theorem dQ_allDoFor_1 : decode bQ_allDoFor 1 = .ok (.istore_n 2, 1) := by decide +kernel
set_option maxRecDepth 100000 in
theorem dQ_allDoFor_2 : decode bQ_allDoFor 2 = .ok (.iload_n 2, 1) := by decide +kernel
set_option maxRecDepth 100000 in
theorem dQ_allDoFor_3 : decode bQ_allDoFor 3 = .ok (.aload_n 0, 1) := by decide +kernel
set_option maxRecDepth 100000 in
theorem dQ_allDoFor_4 : decode bQ_allDoFor 4 = .ok (.getfield 18, 3) := by decide +kernel
set_option maxRecDepth 100000 in
theorem dQ_allDoFor_7 : decode bQ_allDoFor 7 = .ok (.if_icmp .ge 30, 3) := by decide +kernel
set_option maxRecDepth 100000 in
theorem dQ_allDoFor_10 : decode bQ_allDoFor 10 = .ok (.aload_n 1, 1) := by decide +kernel
set_option maxRecDepth 100000 in
theorem dQ_allDoFor_11 : decode bQ_allDoFor 11 = .ok (.aload_n 0, 1) := by decide +kernel
set_option maxRecDepth 100000 in
theorem dQ_allDoFor_12 : decode bQ_allDoFor 12 = .ok (.getfield 9, 3) := by decide +kernel
set_option maxRecDepth 100000 in
theorem dQ_allDoFor_15 : decode bQ_allDoFor 15 = .ok (.iload_n 2, 1) := by decide +kernel
set_option maxRecDepth 100000 in
theorem dQ_allDoFor_16 : decode bQ_allDoFor 16 = .ok (.iaload, 1) := by decide +kernel
set_option maxRecDepth 100000 in
theorem dQ_allDoFor_17 : decode bQ_allDoFor 17 = .ok (.aload_n 0, 1) := by decide +kernel
set_option maxRecDepth 100000 in
theorem dQ_allDoFor_18 : decode bQ_allDoFor 18 = .ok (.getfield 15, 3) := by decide +kernel
set_option maxRecDepth 100000 in
theorem dQ_allDoFor_21 : decode bQ_allDoFor 21 = .ok (.iload_n 2, 1) := by decide +kernel
set_option maxRecDepth 100000 in
theorem dQ_allDoFor_22 : decode bQ_allDoFor 22 = .ok (.iaload, 1) := by decide +kernel
set_option maxRecDepth 100000 in
theorem dQ_allDoFor_23 : decode bQ_allDoFor 23 = .ok (.invokevirtual 26, 3) := by decide +kernel
set_option maxRecDepth 100000 in
theorem dQ_allDoFor_26 : decode bQ_allDoFor 26 = .ok (.ifCond .ne 5, 3) := by decide +kernel
set_option maxRecDepth 100000 in
theorem dQ_allDoFor_29 : decode bQ_allDoFor 29 = .ok (.iconst 0, 1) := by decide +kernel
set_option maxRecDepth 100000 in
theorem dQ_allDoFor_30 : decode bQ_allDoFor 30 = .ok (.ireturn, 1) := by decide +kernel
set_option maxRecDepth 100000 in
theorem dQ_allDoFor_31 : decode bQ_allDoFor 31 = .ok (.iinc 2 1, 3) := by decide +kernel
set_option maxRecDepth 100000 in
theorem dQ_allDoFor_34 : decode bQ_allDoFor 34 = .ok (.goto (-32), 3) := by decide +kernel
set_option maxRecDepth 100000 in
theorem dQ_allDoFor_37 : decode bQ_allDoFor 37 = .ok (.iconst 1, 1) := by decide +kernel
set_option maxRecDepth 100000 in
theorem dQ_allDoFor_38 : decode bQ_allDoFor 38 = .ok (.ireturn, 1) := by decide +kernel
def fQ_allDoFor_2b (N : Nat) (rec2 : Nat → Nat → Int32 → Option (Int32)) (σ : xS) (k0 : Nat) (k1 : Nat) (a2 : Int32) : Option (Int32) :=
  if k0 < 17 then
  if (σ.1 18 k0 2) ≤ a2 then
  (some 1)
  else
  (if ¬ (a2 < 0 ∨ 4 ≤ a2.toNatClampNeg) then
  xp (fD_canDo σ k1 (σ.1 19 k0 a2.toNatClampNeg) (σ.1 20 k0 a2.toNatClampNeg)) fun r12 =>
  if k1 < 12 then
  if r12 = 0 then
  (some 0)
  else
  (rec2 k0 k1 (a2 + 1))
  else none
  else none)
  else none
def fQ_allDoFor_2 (N : Nat) (σ : xS) : Nat → Nat → Nat → Int32 → Option (Int32)
  | 0, _, _, _ => none
  | n + 1, k0, k1, a2 => fQ_allDoFor_2b N (fQ_allDoFor_2 N σ n) σ k0 k1 a2
def fQ_allDoFor (N : Nat) (σ : xS) (k0 : Nat) (k1 : Nat) : Option (Int32) :=
  fQ_allDoFor_2 N σ N k0 k1 0
set_option maxHeartbeats 4000000 in
set_option maxRecDepth 100000 in
theorem wQ_allDoFor_2b {p : Program} {l : Launch} {e : Env} {R : Room} {s : State} {m : MethodId} {args : Array Value} {below : List Frame} {meth : Method} {c : Code} {E : xE} {A : Nat → Prop} {τ : yS} (C : xC p s m args meth c R E A bQ_allDoFor 3 yQ_allDoFor (some .boolean) 1 0 0) (N : Nat) (σ : xS) (rec2 : Nat → Nat → Int32 → Option (Int32)) (hrec2 : ∀ (k0 : Nat) (k1 : Nat) (a2 : Int32) (res : Int32), rec2 k0 k1 a2 = some res → ∀ (H : Heap) (locs : List Loc) (ls : Array Slot), xW E A s σ τ H locs → lv_has ls 3 [(0, .ref (E.2.2.1 18 k0)), (1, .ref (E.2.2.1 14 k1)), (2, .int a2)] → W p l e R s m args below meth c H locs 0 0 (MQ below (xQ E A (some (.int res)) σ τ) args s 0 0 A) (F0 m 2 ls [])) (k0 : Nat) (k1 : Nat) (a2 : Int32) (res : Int32) (hf : fQ_allDoFor_2b N rec2 σ k0 k1 a2 = some res) (H : Heap) (locs : List Loc) (ls : Array Slot) (hw : xW E A s σ τ H locs) (hl : lv_has ls 3 [(0, .ref (E.2.2.1 18 k0)), (1, .ref (E.2.2.1 14 k1)), (2, .int a2)]) : W p l e R s m args below meth c H locs 0 0 (MQ below (xQ E A (some (.int res)) σ τ) args s 0 0 A) (F0 m 2 ls []) := by
  have hx := C.1
  have hb := C.2.1
  unfold fQ_allDoFor_2b at hf
  refine lv_iload_n hx hb dQ_allDoFor_2 rfl (lv_at hl 2 rfl) ?_
  refine lv_aload_n hx hb dQ_allDoFor_3 rfl (lv_at hl 0 rfl) ?_
  obtain ⟨g8, hf⟩ := x_g hf
  refine x_get C hw 18 k0 2 (v := .int (σ.1 18 k0 2)) (at_18 g8) rfl rfl ⟨by decide, by decide⟩ wQ_18 rfl dQ_allDoFor_4 ?_
  refine lv_icmp_ge (tgt := 37) hx hb dQ_allDoFor_7 (by decide) (fun c9 => ?_) (fun c9 => ?_)
  · replace hf := x_ip c9 hf
    refine lv_iconst (v := 1) hx hb dQ_allDoFor_37 (by decide) ?_
    obtain rfl := Option.some.inj hf
    exact x_zret C hw (x_nz (v := 1) (Or.inr rfl)) dQ_allDoFor_38
  · replace hf := x_in c9 hf
    refine lv_aload_n hx hb dQ_allDoFor_10 rfl (lv_at hl 1 rfl) ?_
    refine lv_aload_n hx hb dQ_allDoFor_11 rfl (lv_at hl 0 rfl) ?_
    refine x_get C hw 18 k0 0 (v := .ref (E.2.2.1 19 k0)) (at_18 g8) rfl rfl ⟨by decide, by decide⟩ wQ_9 rfl dQ_allDoFor_12 ?_
    refine lv_iload_n hx hb dQ_allDoFor_15 rfl (lv_at hl 2 rfl) ?_
    obtain ⟨g10, hf⟩ := x_g hf
    refine x_ild C hw 19 k0 (at_19 g8) rfl g10 dQ_allDoFor_16 ?_
    refine lv_aload_n hx hb dQ_allDoFor_17 rfl (lv_at hl 0 rfl) ?_
    refine x_get C hw 18 k0 1 (v := .ref (E.2.2.1 20 k0)) (at_18 g8) rfl rfl ⟨by decide, by decide⟩ wQ_15 rfl dQ_allDoFor_18 ?_
    refine lv_iload_n hx hb dQ_allDoFor_21 rfl (lv_at hl 2 rfl) ?_
    refine x_ild C hw 20 k0 (at_20 g8) rfl g10 dQ_allDoFor_22 ?_
    obtain ⟨r12, h11, hf⟩ := x_p hf
    obtain ⟨g13, hf⟩ := x_g hf
    refine x_callVN (As := [.int (σ.1 19 k0 a2.toNatClampNeg), .int (σ.1 20 k0 a2.toNatClampNeg)]) (rest := []) (st1 := [.int r12]) C hw (cD_canDo l E σ τ k1 (σ.1 19 k0 a2.toNatClampNeg) (σ.1 20 k0 a2.toNatClampNeg) r12 h11) kQ_26 (x_recv C hw 14 k1 (at_14 g13) rfl rfl) (by decide) rfl rfl hl.1 (lv_room (Nat.le_of_ble_eq_true rfl)) dQ_allDoFor_23 ⟨by decide, by decide⟩ rfl (fun H locs hw => ?_)
    refine lv_if_ne (tgt := 31) hx hb dQ_allDoFor_26 (by decide) (fun c14 => ?_) (fun c14 => ?_)
    · replace hf := x_in c14 hf
      refine lv_iinc (v := a2 + 1) (lv' := [(2, .int (a2 + 1)), (0, .ref (E.2.2.1 18 k0)), (1, .ref (E.2.2.1 14 k1))]) hx hb dQ_allDoFor_31 hl (k := 2) rfl rfl (by decide) rfl (fun ls hl => ?_)
      refine lv_goto (tgt := 2) hx hb dQ_allDoFor_34 (by decide) ?_
      exact hrec2 k0 k1 (a2 + 1) res hf H locs ls hw (lv_sub hl [1, 2, 0] rfl)
    · replace hf := x_ip c14 hf
      refine lv_iconst (v := 0) hx hb dQ_allDoFor_29 (by decide) ?_
      obtain rfl := Option.some.inj hf
      exact x_zret C hw (x_nz (v := 0) (Or.inl rfl)) dQ_allDoFor_30
set_option maxHeartbeats 4000000 in
set_option maxRecDepth 100000 in
theorem wQ_allDoFor_2 {p : Program} {l : Launch} {e : Env} {R : Room} {s : State} {m : MethodId} {args : Array Value} {below : List Frame} {meth : Method} {c : Code} {E : xE} {A : Nat → Prop} {τ : yS} (C : xC p s m args meth c R E A bQ_allDoFor 3 yQ_allDoFor (some .boolean) 1 0 0) (N : Nat) (σ : xS) (n : Nat) : ∀ (k0 : Nat) (k1 : Nat) (a2 : Int32) (res : Int32), fQ_allDoFor_2 N σ n k0 k1 a2 = some res → ∀ (H : Heap) (locs : List Loc) (ls : Array Slot), xW E A s σ τ H locs → lv_has ls 3 [(0, .ref (E.2.2.1 18 k0)), (1, .ref (E.2.2.1 14 k1)), (2, .int a2)] → W p l e R s m args below meth c H locs 0 0 (MQ below (xQ E A (some (.int res)) σ τ) args s 0 0 A) (F0 m 2 ls []) := by
  induction n with
  | zero => intro k0 k1 a2 res hf; cases hf
  | succ n ih =>
    intro k0 k1 a2 res hf H locs ls hw hl
    exact wQ_allDoFor_2b C N σ (fQ_allDoFor_2 N σ n) ih k0 k1 a2 res hf H locs ls hw hl
set_option maxHeartbeats 4000000 in
set_option maxRecDepth 100000 in
theorem cQ_allDoFor (l : Launch) (E : xE) (N : Nat) (σ : xS) (τ : yS) (k0 : Nat) (k1 : Nat) (res : Int32) (hf : fQ_allDoFor N σ k0 k1 = some res) : xM l E yQ_allDoFor bQ_allDoFor 3 (some .boolean) 1 0 0 [.ref (E.2.2.1 18 k0), .ref (E.2.2.1 14 k1)] σ τ (some (.int res)) σ τ := by
  refine x_met (by decide) (Nat.le_of_ble_eq_true rfl) (fun p e R s m args below meth c A ls H locs C hw hl => ?_)
  have hl : lv_has ls 3 [(0, .ref (E.2.2.1 18 k0)), (1, .ref (E.2.2.1 14 k1))] := hl
  have hx := C.1
  have hb := C.2.1
  unfold fQ_allDoFor at hf
  refine lv_iconst (v := 0) hx hb dQ_allDoFor_0 (by decide) ?_
  refine lv_istore_n (lv' := [(2, .int 0), (0, .ref (E.2.2.1 18 k0)), (1, .ref (E.2.2.1 14 k1))]) hx hb dQ_allDoFor_1 rfl hl (by decide) rfl (fun ls hl => ?_)
  exact wQ_allDoFor_2 C N σ N k0 k1 0 res hf H locs ls hw (lv_sub hl [1, 2, 0] rfl)
-- StandIns misuseOfCall (ILStandIns$Method;)I
set_option maxRecDepth 100000 in
theorem dA_misuseOfCall_0 : decode bA_misuseOfCall 0 = .ok (.aload_n 0, 1) := by decide +kernel
set_option maxRecDepth 100000 in
theorem dA_misuseOfCall_1 : decode bA_misuseOfCall 1 = .ok (.invokevirtual 147, 3) := by decide +kernel
set_option maxRecDepth 100000 in
theorem dA_misuseOfCall_4 : decode bA_misuseOfCall 4 = .ok (.ifCond .eq 11, 3) := by decide +kernel
set_option maxRecDepth 100000 in
theorem dA_misuseOfCall_7 : decode bA_misuseOfCall 7 = .ok (.iload_n 1, 1) := by decide +kernel
set_option maxRecDepth 100000 in
theorem dA_misuseOfCall_8 : decode bA_misuseOfCall 8 = .ok (.aload_n 0, 1) := by decide +kernel
set_option maxRecDepth 100000 in
theorem dA_misuseOfCall_9 : decode bA_misuseOfCall 9 = .ok (.getfield 80, 3) := by decide +kernel
set_option maxRecDepth 100000 in
theorem dA_misuseOfCall_12 : decode bA_misuseOfCall 12 = .ok (.if_icmp .ne 10, 3) := by decide +kernel
set_option maxRecDepth 100000 in
theorem dA_misuseOfCall_15 : decode bA_misuseOfCall 15 = .ok (.aload_n 0, 1) := by decide +kernel
set_option maxRecDepth 100000 in
theorem dA_misuseOfCall_16 : decode bA_misuseOfCall 16 = .ok (.invokevirtual 128, 3) := by decide +kernel
set_option maxRecDepth 100000 in
theorem dA_misuseOfCall_19 : decode bA_misuseOfCall 19 = .ok (.ifCond .eq 7, 3) := by decide +kernel
set_option maxRecDepth 100000 in
theorem dA_misuseOfCall_22 : decode bA_misuseOfCall 22 = .ok (.iconst 1, 1) := by decide +kernel
set_option maxRecDepth 100000 in
theorem dA_misuseOfCall_23 : decode bA_misuseOfCall 23 = .ok (.goto 4, 3) := by decide +kernel
set_option maxRecDepth 100000 in
theorem dA_misuseOfCall_26 : decode bA_misuseOfCall 26 = .ok (.iconst 0, 1) := by decide +kernel
set_option maxRecDepth 100000 in
theorem dA_misuseOfCall_27 : decode bA_misuseOfCall 27 = .ok (.istore_n 3, 1) := by decide +kernel
set_option maxRecDepth 100000 in
theorem dA_misuseOfCall_28 : decode bA_misuseOfCall 28 = .ok (.aload_n 0, 1) := by decide +kernel
set_option maxRecDepth 100000 in
theorem dA_misuseOfCall_29 : decode bA_misuseOfCall 29 = .ok (.getfield 29, 3) := by decide +kernel
set_option maxRecDepth 100000 in
theorem dA_misuseOfCall_32 : decode bA_misuseOfCall 32 = .ok (.getfield 121, 3) := by decide +kernel
set_option maxRecDepth 100000 in
theorem dA_misuseOfCall_35 : decode bA_misuseOfCall 35 = .ok (.ifCond .le 17, 3) := by decide +kernel
set_option maxRecDepth 100000 in
theorem dA_misuseOfCall_38 : decode bA_misuseOfCall 38 = .ok (.aload_n 0, 1) := by decide +kernel
set_option maxRecDepth 100000 in
theorem dA_misuseOfCall_39 : decode bA_misuseOfCall 39 = .ok (.getfield 29, 3) := by decide +kernel
set_option maxRecDepth 100000 in
theorem dA_misuseOfCall_42 : decode bA_misuseOfCall 42 = .ok (.getfield 121, 3) := by decide +kernel
set_option maxRecDepth 100000 in
theorem dA_misuseOfCall_45 : decode bA_misuseOfCall 45 = .ok (.aload_n 2, 1) := by decide +kernel
set_option maxRecDepth 100000 in
theorem dA_misuseOfCall_46 : decode bA_misuseOfCall 46 = .ok (.getfield 105, 3) := by decide +kernel
set_option maxRecDepth 100000 in
theorem dA_misuseOfCall_49 : decode bA_misuseOfCall 49 = .ok (.if_icmp .ne 22, 3) := by decide +kernel
set_option maxRecDepth 100000 in
theorem dA_misuseOfCall_52 : decode bA_misuseOfCall 52 = .ok (.aload_n 0, 1) := by decide +kernel
set_option maxRecDepth 100000 in
theorem dA_misuseOfCall_53 : decode bA_misuseOfCall 53 = .ok (.getfield 77, 3) := by decide +kernel
set_option maxRecDepth 100000 in
theorem dA_misuseOfCall_56 : decode bA_misuseOfCall 56 = .ok (.iconst 2, 1) := by decide +kernel
set_option maxRecDepth 100000 in
theorem dA_misuseOfCall_57 : decode bA_misuseOfCall 57 = .ok (.if_icmp .ne 18, 3) := by decide +kernel
set_option maxRecDepth 100000 in
theorem dA_misuseOfCall_60 : decode bA_misuseOfCall 60 = .ok (.aload_n 0, 1) := by decide +kernel
set_option maxRecDepth 100000 in
theorem dA_misuseOfCall_61 : decode bA_misuseOfCall 61 = .ok (.getfield 36, 3) := by decide +kernel
set_option maxRecDepth 100000 in
theorem dA_misuseOfCall_64 : decode bA_misuseOfCall 64 = .ok (.aload_n 2, 1) := by decide +kernel
set_option maxRecDepth 100000 in
theorem dA_misuseOfCall_65 : decode bA_misuseOfCall 65 = .ok (.invokevirtual 281, 3) := by decide +kernel
set_option maxRecDepth 100000 in
theorem dA_misuseOfCall_68 : decode bA_misuseOfCall 68 = .ok (.ifCond .ne 7, 3) := by decide +kernel
set_option maxRecDepth 100000 in
theorem dA_misuseOfCall_71 : decode bA_misuseOfCall 71 = .ok (.iconst 1, 1) := by decide +kernel
set_option maxRecDepth 100000 in
theorem dA_misuseOfCall_72 : decode bA_misuseOfCall 72 = .ok (.goto 4, 3) := by decide +kernel
set_option maxRecDepth 100000 in
theorem dA_misuseOfCall_75 : decode bA_misuseOfCall 75 = .ok (.iconst 0, 1) := by decide +kernel
set_option maxRecDepth 100000 in
theorem dA_misuseOfCall_76 : decode bA_misuseOfCall 76 = .ok (.istore 4, 2) := by decide +kernel
set_option maxRecDepth 100000 in
theorem dA_misuseOfCall_78 : decode bA_misuseOfCall 78 = .ok (.aload_n 0, 1) := by decide +kernel
set_option maxRecDepth 100000 in
theorem dA_misuseOfCall_79 : decode bA_misuseOfCall 79 = .ok (.iload_n 3, 1) := by decide +kernel
set_option maxRecDepth 100000 in
theorem dA_misuseOfCall_80 : decode bA_misuseOfCall 80 = .ok (.iconst 0, 1) := by decide +kernel
set_option maxRecDepth 100000 in
theorem dA_misuseOfCall_81 : decode bA_misuseOfCall 81 = .ok (.iload 4, 2) := by decide +kernel
set_option maxRecDepth 100000 in
theorem dA_misuseOfCall_83 : decode bA_misuseOfCall 83 = .ok (.invokevirtual 132, 3) := by decide +kernel
set_option maxRecDepth 100000 in
theorem dA_misuseOfCall_86 : decode bA_misuseOfCall 86 = .ok (.ireturn, 1) := by decide +kernel
def fA_misuseOfCall_76 (N : Nat) (σ : xS) (a3 : Int32) (t0 : Int32) : Option (Int32 × xS) :=
  xb (fA_misuseIf σ a3 0 t0) fun r15 s16 =>
  some (r15, s16)
def fA_misuseOfCall_75 (N : Nat) (σ : xS) (a3 : Int32) : Option (Int32 × xS) :=
  fA_misuseOfCall_76 N σ a3 0
def fA_misuseOfCall_71 (N : Nat) (σ : xS) (a3 : Int32) : Option (Int32 × xS) :=
  fA_misuseOfCall_76 N σ a3 1
def fA_misuseOfCall_52 (N : Nat) (σ : xS) (k2 : Nat) (a3 : Int32) : Option (Int32 × xS) :=
  if (σ.1 0 0 12) = 2 then
  (xp (fQ_allDoFor N σ 16 k2) fun r19 =>
  if r19 = 0 then
  (fA_misuseOfCall_71 N σ a3)
  else
  (fA_misuseOfCall_75 N σ a3))
  else
  (fA_misuseOfCall_75 N σ a3)
def fA_misuseOfCall_27 (N : Nat) (σ : xS) (k2 : Nat) (t0 : Int32) : Option (Int32 × xS) :=
  if (σ.1 4 0 1) ≤ 0 then
  (fA_misuseOfCall_52 N σ k2 t0)
  else
  (if k2 < 12 then
  if (σ.1 4 0 1) = (σ.1 14 k2 0) then
  (fA_misuseOfCall_52 N σ k2 t0)
  else
  (fA_misuseOfCall_71 N σ t0)
  else none)
def fA_misuseOfCall_22 (N : Nat) (σ : xS) (k2 : Nat) : Option (Int32 × xS) :=
  fA_misuseOfCall_27 N σ k2 1
def fA_misuseOfCall_15 (N : Nat) (σ : xS) (k2 : Nat) : Option (Int32 × xS) :=
  xp (fA_lacksAnswers σ) fun r25 =>
  if r25 = 0 then
  (fA_misuseOfCall_27 N σ k2 0)
  else
  (fA_misuseOfCall_22 N σ k2)
def fA_misuseOfCall (N : Nat) (σ : xS) (a1 : Int32) (k2 : Nat) : Option (Int32 × xS) :=
  if (fA_awaitsCall σ) = 0 then
  (fA_misuseOfCall_15 N σ k2)
  else
  (if a1 = (σ.1 0 0 13) then
  (fA_misuseOfCall_15 N σ k2)
  else
  (fA_misuseOfCall_22 N σ k2))
set_option maxHeartbeats 4000000 in
set_option maxRecDepth 100000 in
theorem wA_misuseOfCall_76 {p : Program} {l : Launch} {e : Env} {R : Room} {s : State} {m : MethodId} {args : Array Value} {below : List Frame} {meth : Method} {c : Code} {E : xE} {A : Nat → Prop} {τ : yS} (C : xC p s m args meth c R E A bA_misuseOfCall 5 yA_misuseOfCall (some .int) 4 0 0) (N : Nat) (σ : xS) (a3 : Int32) (t0 : Int32) (res : Int32 × xS) (hf : fA_misuseOfCall_76 N σ a3 t0 = some res) (H : Heap) (locs : List Loc) (ls : Array Slot) (hw : xW E A s σ τ H locs) (hl : lv_has ls 5 [(0, .ref (E.2.2.1 0 0)), (3, .int a3)]) : W p l e R s m args below meth c H locs 0 0 (MQ below (xQ E A (some (.int res.1)) res.2 τ) args s 0 0 A) (F0 m 76 ls [.int t0]) := by
  have hx := C.1
  have hb := C.2.1
  unfold fA_misuseOfCall_76 at hf
  refine lv_istore (lv' := [(4, .int t0), (0, .ref (E.2.2.1 0 0)), (3, .int a3)]) hx hb dA_misuseOfCall_76 hl (by decide) rfl (fun ls hl => ?_)
  refine lv_aload_n hx hb dA_misuseOfCall_78 rfl (lv_at hl 1 rfl) ?_
  refine lv_iload_n hx hb dA_misuseOfCall_79 rfl (lv_at hl 2 rfl) ?_
  refine lv_iconst (v := 0) hx hb dA_misuseOfCall_80 (by decide) ?_
  refine lv_iload hx hb dA_misuseOfCall_81 (lv_at hl 0 rfl) ?_
  obtain ⟨r15, s16, h14, hf⟩ := x_b hf
  refine x_callV (As := [.int a3, .int 0, .int t0]) (rest := []) (st1 := [.int r15]) C hw (cA_misuseIf l E σ τ a3 0 t0 (r15, s16) h14) kA_132 (x_recv C hw 0 0 at_0 rfl rfl) (by decide) rfl rfl hl.1 (lv_room (Nat.le_of_ble_eq_true rfl)) dA_misuseOfCall_83 ⟨by decide, by decide⟩ rfl (fun H locs hw => ?_)
  obtain rfl := Option.some.inj hf
  exact x_iret C hw dA_misuseOfCall_86
set_option maxHeartbeats 4000000 in
set_option maxRecDepth 100000 in
theorem wA_misuseOfCall_75 {p : Program} {l : Launch} {e : Env} {R : Room} {s : State} {m : MethodId} {args : Array Value} {below : List Frame} {meth : Method} {c : Code} {E : xE} {A : Nat → Prop} {τ : yS} (C : xC p s m args meth c R E A bA_misuseOfCall 5 yA_misuseOfCall (some .int) 4 0 0) (N : Nat) (σ : xS) (a3 : Int32) (res : Int32 × xS) (hf : fA_misuseOfCall_75 N σ a3 = some res) (H : Heap) (locs : List Loc) (ls : Array Slot) (hw : xW E A s σ τ H locs) (hl : lv_has ls 5 [(0, .ref (E.2.2.1 0 0)), (3, .int a3)]) : W p l e R s m args below meth c H locs 0 0 (MQ below (xQ E A (some (.int res.1)) res.2 τ) args s 0 0 A) (F0 m 75 ls []) := by
  have hx := C.1
  have hb := C.2.1
  unfold fA_misuseOfCall_75 at hf
  refine lv_iconst (v := 0) hx hb dA_misuseOfCall_75 (by decide) ?_
  exact wA_misuseOfCall_76 C N σ a3 0 res hf H locs ls hw (lv_sub hl [0, 1] rfl)
set_option maxHeartbeats 4000000 in
set_option maxRecDepth 100000 in
theorem wA_misuseOfCall_71 {p : Program} {l : Launch} {e : Env} {R : Room} {s : State} {m : MethodId} {args : Array Value} {below : List Frame} {meth : Method} {c : Code} {E : xE} {A : Nat → Prop} {τ : yS} (C : xC p s m args meth c R E A bA_misuseOfCall 5 yA_misuseOfCall (some .int) 4 0 0) (N : Nat) (σ : xS) (a3 : Int32) (res : Int32 × xS) (hf : fA_misuseOfCall_71 N σ a3 = some res) (H : Heap) (locs : List Loc) (ls : Array Slot) (hw : xW E A s σ τ H locs) (hl : lv_has ls 5 [(0, .ref (E.2.2.1 0 0)), (3, .int a3)]) : W p l e R s m args below meth c H locs 0 0 (MQ below (xQ E A (some (.int res.1)) res.2 τ) args s 0 0 A) (F0 m 71 ls []) := by
  have hx := C.1
  have hb := C.2.1
  unfold fA_misuseOfCall_71 at hf
  refine lv_iconst (v := 1) hx hb dA_misuseOfCall_71 (by decide) ?_
  refine lv_goto (tgt := 76) hx hb dA_misuseOfCall_72 (by decide) ?_
  exact wA_misuseOfCall_76 C N σ a3 1 res hf H locs ls hw (lv_sub hl [0, 1] rfl)
set_option maxHeartbeats 4000000 in
set_option maxRecDepth 100000 in
theorem wA_misuseOfCall_52 {p : Program} {l : Launch} {e : Env} {R : Room} {s : State} {m : MethodId} {args : Array Value} {below : List Frame} {meth : Method} {c : Code} {E : xE} {A : Nat → Prop} {τ : yS} (C : xC p s m args meth c R E A bA_misuseOfCall 5 yA_misuseOfCall (some .int) 4 0 0) (N : Nat) (σ : xS) (k2 : Nat) (a3 : Int32) (res : Int32 × xS) (hf : fA_misuseOfCall_52 N σ k2 a3 = some res) (H : Heap) (locs : List Loc) (ls : Array Slot) (hw : xW E A s σ τ H locs) (hl : lv_has ls 5 [(0, .ref (E.2.2.1 0 0)), (2, .ref (E.2.2.1 14 k2)), (3, .int a3)]) : W p l e R s m args below meth c H locs 0 0 (MQ below (xQ E A (some (.int res.1)) res.2 τ) args s 0 0 A) (F0 m 52 ls []) := by
  have hx := C.1
  have hb := C.2.1
  unfold fA_misuseOfCall_52 at hf
  refine lv_aload_n hx hb dA_misuseOfCall_52 rfl (lv_at hl 0 rfl) ?_
  refine x_get C hw 0 0 12 (v := .int (σ.1 0 0 12)) at_0 rfl rfl ⟨by decide, by decide⟩ wA_77 rfl dA_misuseOfCall_53 ?_
  refine lv_iconst (v := 2) hx hb dA_misuseOfCall_56 (by decide) ?_
  refine lv_icmp_ne (tgt := 75) hx hb dA_misuseOfCall_57 (by decide) (fun c17 => ?_) (fun c17 => ?_)
  · replace hf := x_in c17 hf
    exact wA_misuseOfCall_75 C N σ a3 res hf H locs ls hw (lv_sub hl [0, 2] rfl)
  · replace hf := x_ip c17 hf
    refine lv_aload_n hx hb dA_misuseOfCall_60 rfl (lv_at hl 0 rfl) ?_
    refine x_get C hw 0 0 5 (v := .ref (E.2.2.1 18 16)) at_0 rfl rfl ⟨by decide, by decide⟩ wA_36 rfl dA_misuseOfCall_61 ?_
    refine lv_aload_n hx hb dA_misuseOfCall_64 rfl (lv_at hl 1 rfl) ?_
    obtain ⟨r19, h18, hf⟩ := x_p hf
    refine x_callVN (As := [.ref (E.2.2.1 14 k2)]) (rest := []) (st1 := [.int r19]) C hw (cQ_allDoFor l E N σ τ 16 k2 r19 h18) kA_281 (x_recv C hw 18 16 (at_18 (by decide)) rfl rfl) (by decide) rfl rfl hl.1 (lv_room (Nat.le_of_ble_eq_true rfl)) dA_misuseOfCall_65 ⟨by decide, by decide⟩ rfl (fun H locs hw => ?_)
    refine lv_if_ne (tgt := 75) hx hb dA_misuseOfCall_68 (by decide) (fun c20 => ?_) (fun c20 => ?_)
    · replace hf := x_in c20 hf
      exact wA_misuseOfCall_75 C N σ a3 res hf H locs ls hw (lv_sub hl [0, 2] rfl)
    · replace hf := x_ip c20 hf
      exact wA_misuseOfCall_71 C N σ a3 res hf H locs ls hw (lv_sub hl [0, 2] rfl)
set_option maxHeartbeats 4000000 in
set_option maxRecDepth 100000 in
theorem wA_misuseOfCall_27 {p : Program} {l : Launch} {e : Env} {R : Room} {s : State} {m : MethodId} {args : Array Value} {below : List Frame} {meth : Method} {c : Code} {E : xE} {A : Nat → Prop} {τ : yS} (C : xC p s m args meth c R E A bA_misuseOfCall 5 yA_misuseOfCall (some .int) 4 0 0) (N : Nat) (σ : xS) (k2 : Nat) (t0 : Int32) (res : Int32 × xS) (hf : fA_misuseOfCall_27 N σ k2 t0 = some res) (H : Heap) (locs : List Loc) (ls : Array Slot) (hw : xW E A s σ τ H locs) (hl : lv_has ls 5 [(0, .ref (E.2.2.1 0 0)), (2, .ref (E.2.2.1 14 k2))]) : W p l e R s m args below meth c H locs 0 0 (MQ below (xQ E A (some (.int res.1)) res.2 τ) args s 0 0 A) (F0 m 27 ls [.int t0]) := by
  have hx := C.1
  have hb := C.2.1
  unfold fA_misuseOfCall_27 at hf
  refine lv_istore_n (lv' := [(3, .int t0), (0, .ref (E.2.2.1 0 0)), (2, .ref (E.2.2.1 14 k2))]) hx hb dA_misuseOfCall_27 rfl hl (by decide) rfl (fun ls hl => ?_)
  refine lv_aload_n hx hb dA_misuseOfCall_28 rfl (lv_at hl 1 rfl) ?_
  refine x_get C hw 0 0 4 (v := .ref (E.2.2.1 4 0)) at_0 rfl rfl ⟨by decide, by decide⟩ wA_29 rfl dA_misuseOfCall_29 ?_
  refine x_getN C hw 4 0 1 (v := .int (σ.1 4 0 1)) at_4 rfl rfl ⟨by decide, by decide⟩ wA_121 rfl dA_misuseOfCall_32 ?_
  refine lv_if_le (tgt := 52) hx hb dA_misuseOfCall_35 (by decide) (fun c21 => ?_) (fun c21 => ?_)
  · replace hf := x_ip c21 hf
    exact wA_misuseOfCall_52 C N σ k2 t0 res hf H locs ls hw (lv_sub hl [1, 2, 0] rfl)
  · replace hf := x_in c21 hf
    refine lv_aload_n hx hb dA_misuseOfCall_38 rfl (lv_at hl 1 rfl) ?_
    refine x_get C hw 0 0 4 (v := .ref (E.2.2.1 4 0)) at_0 rfl rfl ⟨by decide, by decide⟩ wA_29 rfl dA_misuseOfCall_39 ?_
    refine x_getN C hw 4 0 1 (v := .int (σ.1 4 0 1)) at_4 rfl rfl ⟨by decide, by decide⟩ wA_121 rfl dA_misuseOfCall_42 ?_
    refine lv_aload_n hx hb dA_misuseOfCall_45 rfl (lv_at hl 2 rfl) ?_
    obtain ⟨g22, hf⟩ := x_g hf
    refine x_getN C hw 14 k2 0 (v := .int (σ.1 14 k2 0)) (at_14 g22) rfl rfl ⟨by decide, by decide⟩ wA_105 rfl dA_misuseOfCall_46 ?_
    refine lv_icmp_ne (tgt := 71) hx hb dA_misuseOfCall_49 (by decide) (fun c23 => ?_) (fun c23 => ?_)
    · replace hf := x_in c23 hf
      exact wA_misuseOfCall_71 C N σ t0 res hf H locs ls hw (lv_sub hl [1, 0] rfl)
    · replace hf := x_ip c23 hf
      exact wA_misuseOfCall_52 C N σ k2 t0 res hf H locs ls hw (lv_sub hl [1, 2, 0] rfl)
set_option maxHeartbeats 4000000 in
set_option maxRecDepth 100000 in
theorem wA_misuseOfCall_22 {p : Program} {l : Launch} {e : Env} {R : Room} {s : State} {m : MethodId} {args : Array Value} {below : List Frame} {meth : Method} {c : Code} {E : xE} {A : Nat → Prop} {τ : yS} (C : xC p s m args meth c R E A bA_misuseOfCall 5 yA_misuseOfCall (some .int) 4 0 0) (N : Nat) (σ : xS) (k2 : Nat) (res : Int32 × xS) (hf : fA_misuseOfCall_22 N σ k2 = some res) (H : Heap) (locs : List Loc) (ls : Array Slot) (hw : xW E A s σ τ H locs) (hl : lv_has ls 5 [(0, .ref (E.2.2.1 0 0)), (2, .ref (E.2.2.1 14 k2))]) : W p l e R s m args below meth c H locs 0 0 (MQ below (xQ E A (some (.int res.1)) res.2 τ) args s 0 0 A) (F0 m 22 ls []) := by
  have hx := C.1
  have hb := C.2.1
  unfold fA_misuseOfCall_22 at hf
  refine lv_iconst (v := 1) hx hb dA_misuseOfCall_22 (by decide) ?_
  refine lv_goto (tgt := 27) hx hb dA_misuseOfCall_23 (by decide) ?_
  exact wA_misuseOfCall_27 C N σ k2 1 res hf H locs ls hw (lv_sub hl [0, 1] rfl)
set_option maxHeartbeats 4000000 in
set_option maxRecDepth 100000 in
theorem wA_misuseOfCall_15 {p : Program} {l : Launch} {e : Env} {R : Room} {s : State} {m : MethodId} {args : Array Value} {below : List Frame} {meth : Method} {c : Code} {E : xE} {A : Nat → Prop} {τ : yS} (C : xC p s m args meth c R E A bA_misuseOfCall 5 yA_misuseOfCall (some .int) 4 0 0) (N : Nat) (σ : xS) (k2 : Nat) (res : Int32 × xS) (hf : fA_misuseOfCall_15 N σ k2 = some res) (H : Heap) (locs : List Loc) (ls : Array Slot) (hw : xW E A s σ τ H locs) (hl : lv_has ls 5 [(0, .ref (E.2.2.1 0 0)), (2, .ref (E.2.2.1 14 k2))]) : W p l e R s m args below meth c H locs 0 0 (MQ below (xQ E A (some (.int res.1)) res.2 τ) args s 0 0 A) (F0 m 15 ls []) := by
  have hx := C.1
  have hb := C.2.1
  unfold fA_misuseOfCall_15 at hf
  refine lv_aload_n hx hb dA_misuseOfCall_15 rfl (lv_at hl 0 rfl) ?_
  obtain ⟨r25, h24, hf⟩ := x_p hf
  refine x_callV (As := []) (rest := []) (st1 := [.int r25]) C hw (cA_lacksAnswers l E σ τ r25 h24) kA_128 (x_recv C hw 0 0 at_0 rfl rfl) (by decide) rfl rfl hl.1 (lv_room (Nat.le_of_ble_eq_true rfl)) dA_misuseOfCall_16 ⟨by decide, by decide⟩ rfl (fun H locs hw => ?_)
  refine lv_if_eq (tgt := 26) hx hb dA_misuseOfCall_19 (by decide) (fun c26 => ?_) (fun c26 => ?_)
  · replace hf := x_ip c26 hf
    refine lv_iconst (v := 0) hx hb dA_misuseOfCall_26 (by decide) ?_
    exact wA_misuseOfCall_27 C N σ k2 0 res hf H locs ls hw (lv_sub hl [0, 1] rfl)
  · replace hf := x_in c26 hf
    exact wA_misuseOfCall_22 C N σ k2 res hf H locs ls hw (lv_sub hl [0, 1] rfl)
set_option maxHeartbeats 4000000 in
set_option maxRecDepth 100000 in
theorem cA_misuseOfCall (l : Launch) (E : xE) (N : Nat) (σ : xS) (τ : yS) (a1 : Int32) (k2 : Nat) (res : Int32 × xS) (hf : fA_misuseOfCall N σ a1 k2 = some res) : xM l E yA_misuseOfCall bA_misuseOfCall 5 (some .int) 4 0 0 [.ref (E.2.2.1 0 0), .int a1, .ref (E.2.2.1 14 k2)] σ τ (some (.int res.1)) res.2 τ := by
  refine x_met (by decide) (Nat.le_of_ble_eq_true rfl) (fun p e R s m args below meth c A ls H locs C hw hl => ?_)
  have hl : lv_has ls 5 [(0, .ref (E.2.2.1 0 0)), (1, .int a1), (2, .ref (E.2.2.1 14 k2))] := hl
  have hx := C.1
  have hb := C.2.1
  unfold fA_misuseOfCall at hf
  refine lv_aload_n hx hb dA_misuseOfCall_0 rfl (lv_at hl 0 rfl) ?_
  refine x_callV (As := []) (rest := []) (st1 := [.int (fA_awaitsCall σ)]) C hw (cA_awaitsCall l E σ τ) kA_147 (x_recv C hw 0 0 at_0 rfl rfl) (by decide) rfl rfl hl.1 (lv_room (Nat.le_of_ble_eq_true rfl)) dA_misuseOfCall_1 ⟨by decide, by decide⟩ rfl (fun H locs hw => ?_)
  refine lv_if_eq (tgt := 15) hx hb dA_misuseOfCall_4 (by decide) (fun c28 => ?_) (fun c28 => ?_)
  · replace hf := x_ip c28 hf
    exact wA_misuseOfCall_15 C N σ k2 res hf H locs ls hw (lv_sub hl [0, 2] rfl)
  · replace hf := x_in c28 hf
    refine lv_iload_n hx hb dA_misuseOfCall_7 rfl (lv_at hl 1 rfl) ?_
    refine lv_aload_n hx hb dA_misuseOfCall_8 rfl (lv_at hl 0 rfl) ?_
    refine x_get C hw 0 0 13 (v := .int (σ.1 0 0 13)) at_0 rfl rfl ⟨by decide, by decide⟩ wA_80 rfl dA_misuseOfCall_9 ?_
    refine lv_icmp_ne (tgt := 22) hx hb dA_misuseOfCall_12 (by decide) (fun c29 => ?_) (fun c29 => ?_)
    · replace hf := x_in c29 hf
      exact wA_misuseOfCall_22 C N σ k2 res hf H locs ls hw (lv_sub hl [0, 2] rfl)
    · replace hf := x_ip c29 hf
      exact wA_misuseOfCall_15 C N σ k2 res hf H locs ls hw (lv_sub hl [0, 2] rfl)
-- StandIns matcherOf (III)LStandIns$Matcher;
set_option maxRecDepth 100000 in
theorem dA_matcherOf_0 : decode bA_matcherOf 0 = .ok (.iload_n 1, 1) := by decide +kernel
set_option maxRecDepth 100000 in
theorem dA_matcherOf_1 : decode bA_matcherOf 1 = .ok (.iload_n 2, 1) := by decide +kernel
set_option maxRecDepth 100000 in
theorem dA_matcherOf_2 : decode bA_matcherOf 2 = .ok (.if_icmp .lt 5, 3) := by decide +kernel
set_option maxRecDepth 100000 in
theorem dA_matcherOf_5 : decode bA_matcherOf 5 = .ok (.aconst_null, 1) := by decide +kernel
set_option maxRecDepth 100000 in
theorem dA_matcherOf_6 : decode bA_matcherOf 6 = .ok (.areturn, 1) := by decide +kernel
set_option maxRecDepth 100000 in
theorem dA_matcherOf_7 : decode bA_matcherOf 7 = .ok (.iload_n 1, 1) := by decide +kernel
set_option maxRecDepth 100000 in
theorem dA_matcherOf_8 : decode bA_matcherOf 8 = .ok (.aload_n 0, 1) := by decide +kernel
set_option maxRecDepth 100000 in
theorem dA_matcherOf_9 : decode bA_matcherOf 9 = .ok (.getfield 29, 3) := by decide +kernel
set_option maxRecDepth 100000 in
theorem dA_matcherOf_12 : decode bA_matcherOf 12 = .ok (.getfield 121, 3) := by decide +kernel
set_option maxRecDepth 100000 in
theorem dA_matcherOf_15 : decode bA_matcherOf 15 = .ok (.if_icmp .ge 15, 3) := by decide +kernel
set_option maxRecDepth 100000 in
theorem dA_matcherOf_18 : decode bA_matcherOf 18 = .ok (.aload_n 0, 1) := by decide +kernel
set_option maxRecDepth 100000 in
theorem dA_matcherOf_19 : decode bA_matcherOf 19 = .ok (.getfield 29, 3) := by decide +kernel
set_option maxRecDepth 100000 in
theorem dA_matcherOf_22 : decode bA_matcherOf 22 = .ok (.getfield 303, 3) := by decide +kernel
set_option maxRecDepth 100000 in
theorem dA_matcherOf_25 : decode bA_matcherOf 25 = .ok (.iload_n 1, 1) := by decide +kernel
set_option maxRecDepth 100000 in
theorem dA_matcherOf_26 : decode bA_matcherOf 26 = .ok (.aaload, 1) := by decide +kernel
set_option maxRecDepth 100000 in
theorem dA_matcherOf_27 : decode bA_matcherOf 27 = .ok (.goto 14, 3) := by decide +kernel
set_option maxRecDepth 100000 in
theorem dA_matcherOf_30 : decode bA_matcherOf 30 = .ok (.new 117, 3) := by decide +kernel
set_option maxRecDepth 100000 in
theorem dA_matcherOf_33 : decode bA_matcherOf 33 = .ok (.dup, 1) := by decide +kernel
set_option maxRecDepth 100000 in
theorem dA_matcherOf_34 : decode bA_matcherOf 34 = .ok (.iconst 1, 1) := by decide +kernel
set_option maxRecDepth 100000 in
theorem dA_matcherOf_35 : decode bA_matcherOf 35 = .ok (.iload_n 3, 1) := by decide +kernel
set_option maxRecDepth 100000 in
theorem dA_matcherOf_36 : decode bA_matcherOf 36 = .ok (.aconst_null, 1) := by decide +kernel
set_option maxRecDepth 100000 in
theorem dA_matcherOf_37 : decode bA_matcherOf 37 = .ok (.aconst_null, 1) := by decide +kernel
set_option maxRecDepth 100000 in
theorem dA_matcherOf_38 : decode bA_matcherOf 38 = .ok (.invokespecial 140, 3) := by decide +kernel
set_option maxRecDepth 100000 in
theorem dA_matcherOf_41 : decode bA_matcherOf 41 = .ok (.areturn, 1) := by decide +kernel
def fA_matcherOf (σ : xS) (a1 : Int32) (a2 : Int32) (a3 : Int32) : Option (Option Nat × xS) :=
  if a1 < a2 then
  (if (σ.1 4 0 1) ≤ a1 then
  (xl (x_nw σ) fun s3 =>
  xp (fH_init s3 σ.2.2.2 1 a3 none none) fun s5 =>
  some (some σ.2.2.2, s5))
  else
  (if ¬ (a1 < 0 ∨ 6 ≤ a1.toNatClampNeg) then
  some (σ.2.1 5 0 a1.toNatClampNeg, σ)
  else none))
  else
  (some (none, σ))
set_option maxHeartbeats 4000000 in
set_option maxRecDepth 100000 in
theorem cA_matcherOf (l : Launch) (E : xE) (σ : xS) (τ : yS) (a1 : Int32) (a2 : Int32) (a3 : Int32) (res : Option Nat × xS) (hf : fA_matcherOf σ a1 a2 a3 = some res) : xM l E yA_matcherOf bA_matcherOf 4 (some (.object "StandIns$Matcher")) 2 1 5 [.ref (E.2.2.1 0 0), .int a1, .int a2, .int a3] σ τ (some (va_rf res.1)) res.2 τ := by
  refine x_met (by decide) (Nat.le_of_ble_eq_true rfl) (fun p e R s m args below meth c A ls H locs C hw hl => ?_)
  have hl : lv_has ls 4 [(0, .ref (E.2.2.1 0 0)), (1, .int a1), (2, .int a2), (3, .int a3)] := hl
  have hx := C.1
  have hb := C.2.1
  unfold fA_matcherOf at hf
  refine lv_iload_n hx hb dA_matcherOf_0 rfl (lv_at hl 1 rfl) ?_
  refine lv_iload_n hx hb dA_matcherOf_1 rfl (lv_at hl 2 rfl) ?_
  refine lv_icmp_lt (tgt := 7) hx hb dA_matcherOf_2 (by decide) (fun c1 => ?_) (fun c1 => ?_)
  · replace hf := x_ip c1 hf
    refine lv_iload_n hx hb dA_matcherOf_7 rfl (lv_at hl 1 rfl) ?_
    refine lv_aload_n hx hb dA_matcherOf_8 rfl (lv_at hl 0 rfl) ?_
    refine x_get C hw 0 0 4 (v := .ref (E.2.2.1 4 0)) at_0 rfl rfl ⟨by decide, by decide⟩ wA_29 rfl dA_matcherOf_9 ?_
    refine x_getN C hw 4 0 1 (v := .int (σ.1 4 0 1)) at_4 rfl rfl ⟨by decide, by decide⟩ wA_121 rfl dA_matcherOf_12 ?_
    refine lv_icmp_ge (tgt := 30) hx hb dA_matcherOf_15 (by decide) (fun c2 => ?_) (fun c2 => ?_)
    · replace hf := x_ip c2 hf
      refine x_new C hw wA_117 (by decide) (by decide) dA_matcherOf_30 (fun H hw => ?_)
      obtain ⟨s3, es3, hf⟩ := x_l hf
      rw [← es3] at hw
      refine lv_dup hx hb dA_matcherOf_33 rfl ?_
      refine lv_iconst (v := 1) hx hb dA_matcherOf_34 (by decide) ?_
      refine lv_iload_n hx hb dA_matcherOf_35 rfl (lv_at hl 3 rfl) ?_
      refine x_null hx hb dA_matcherOf_36 ?_
      refine x_null hx hb dA_matcherOf_37 ?_
      obtain ⟨s5, h4, hf⟩ := x_p hf
      refine x_callIN (As := [.int 1, .int a3, va_rf none, va_rf none]) (rest := [.ref σ.2.2.2]) (st1 := [.ref σ.2.2.2]) C hw (cH_init l E s3 τ σ.2.2.2 1 a3 none none s5 h4) kA_140 (by decide) rfl rfl hl.1 (lv_room (Nat.le_of_ble_eq_true rfl)) dA_matcherOf_38 ⟨by decide, by decide⟩ rfl (fun H locs hw => ?_)
      obtain rfl := Option.some.inj hf
      refine W.widen (k := 1) (n := 5) (by decide) (by decide) ?_
      exact x_aret C hw (va_rf_or _) dA_matcherOf_41
    · replace hf := x_in c2 hf
      refine lv_aload_n hx hb dA_matcherOf_18 rfl (lv_at hl 0 rfl) ?_
      refine x_get C hw 0 0 4 (v := .ref (E.2.2.1 4 0)) at_0 rfl rfl ⟨by decide, by decide⟩ wA_29 rfl dA_matcherOf_19 ?_
      refine x_getN C hw 4 0 0 (v := .ref (E.2.2.1 5 0)) at_4 rfl rfl ⟨by decide, by decide⟩ wA_303 rfl dA_matcherOf_22 ?_
      refine lv_iload_n hx hb dA_matcherOf_25 rfl (lv_at hl 1 rfl) ?_
      obtain ⟨g6, hf⟩ := x_g hf
      refine x_oald C hw g6 dA_matcherOf_26 ?_
      refine lv_goto (tgt := 41) hx hb dA_matcherOf_27 (by decide) ?_
      obtain rfl := Option.some.inj hf
      refine W.widen (k := 1) (n := 5) (by decide) (by decide) ?_
      exact x_aret C hw (va_rf_or _) dA_matcherOf_41
  · replace hf := x_in c1 hf
    refine x_null hx hb dA_matcherOf_5 ?_
    obtain rfl := Option.some.inj hf
    refine W.widen (k := 1) (n := 5) (by decide) (by decide) ?_
    exact x_aret C hw (va_rf_or _) dA_matcherOf_6
-- StandIns$Pattern copy (LStandIns$Pattern;)V
set_option maxRecDepth 100000 in
theorem dP_copy_0 : decode bP_copy 0 = .ok (.aload_n 0, 1) := by decide +kernel
set_option maxRecDepth 100000 in
theorem dP_copy_1 : decode bP_copy 1 = .ok (.aload_n 1, 1) := by decide +kernel
set_option maxRecDepth 100000 in
theorem dP_copy_2 : decode bP_copy 2 = .ok (.getfield 9, 3) := by decide +kernel
set_option maxRecDepth 100000 in
theorem dP_copy_5 : decode bP_copy 5 = .ok (.putfield 9, 3) := by decide +kernel
set_option maxRecDepth 100000 in
theorem dP_copy_8 : decode bP_copy 8 = .ok (.aload_n 0, 1) := by decide +kernel
set_option maxRecDepth 100000 in
theorem dP_copy_9 : decode bP_copy 9 = .ok (.aload_n 1, 1) := by decide +kernel
set_option maxRecDepth 100000 in
theorem dP_copy_10 : decode bP_copy 10 = .ok (.getfield 15, 3) := by decide +kernel
set_option maxRecDepth 100000 in
theorem dP_copy_13 : decode bP_copy 13 = .ok (.putfield 15, 3) := by decide +kernel
set_option maxRecDepth 100000 in
theorem dP_copy_16 : decode bP_copy 16 = .ok (.aload_n 0, 1) := by decide +kernel
set_option maxRecDepth 100000 in
theorem dP_copy_17 : decode bP_copy 17 = .ok (.aload_n 1, 1) := by decide +kernel
set_option maxRecDepth 100000 in
theorem dP_copy_18 : decode bP_copy 18 = .ok (.getfield 18, 3) := by decide +kernel
set_option maxRecDepth 100000 in
theorem dP_copy_21 : decode bP_copy 21 = .ok (.putfield 18, 3) := by decide +kernel
set_option maxRecDepth 100000 in
theorem dP_copy_24 : decode bP_copy 24 = .ok (.aload_n 0, 1) := by decide +kernel
set_option maxRecDepth 100000 in
theorem dP_copy_25 : decode bP_copy 25 = .ok (.aload_n 1, 1) := by decide +kernel
set_option maxRecDepth 100000 in
theorem dP_copy_26 : decode bP_copy 26 = .ok (.getfield 22, 3) := by decide +kernel
set_option maxRecDepth 100000 in
theorem dP_copy_29 : decode bP_copy 29 = .ok (.putfield 22, 3) := by decide +kernel
set_option maxRecDepth 100000 in
theorem dP_copy_32 : decode bP_copy 32 = .ok (.return_, 1) := by decide +kernel
def fP_copy (σ : xS) (k0 : Nat) (k1 : Nat) : Option (xS) :=
  if k1 < 17 then
  if k0 < 17 then
  xl (x_si σ 17 k0 0 (σ.1 17 k1 0)) fun s3 =>
  xl (x_si s3 17 k0 1 (s3.1 17 k1 1)) fun s4 =>
  xl (x_sp s4 17 k0 2 (s4.2.1 17 k1 2)) fun s5 =>
  xl (x_sp s5 17 k0 3 (s5.2.1 17 k1 3)) fun s6 =>
  some s6
  else none
  else none
set_option maxHeartbeats 4000000 in
set_option maxRecDepth 100000 in
theorem cP_copy (l : Launch) (E : xE) (σ : xS) (τ : yS) (k0 : Nat) (k1 : Nat) (res : xS) (hf : fP_copy σ k0 k1 = some res) : xM l E yP_copy bP_copy 2 none 0 0 0 [.ref (E.2.2.1 17 k0), .ref (E.2.2.1 17 k1)] σ τ none res τ := by
  refine x_met (by decide) (Nat.le_of_ble_eq_true rfl) (fun p e R s m args below meth c A ls H locs C hw hl => ?_)
  have hl : lv_has ls 2 [(0, .ref (E.2.2.1 17 k0)), (1, .ref (E.2.2.1 17 k1))] := hl
  have hx := C.1
  have hb := C.2.1
  unfold fP_copy at hf
  refine lv_aload_n hx hb dP_copy_0 rfl (lv_at hl 0 rfl) ?_
  refine lv_aload_n hx hb dP_copy_1 rfl (lv_at hl 1 rfl) ?_
  obtain ⟨g1, hf⟩ := x_g hf
  refine x_get C hw 17 k1 0 (v := .int (σ.1 17 k1 0)) (at_17 g1) rfl rfl ⟨by decide, by decide⟩ wP_9 rfl dP_copy_2 ?_
  obtain ⟨g2, hf⟩ := x_g hf
  refine x_puti C hw 17 k0 0 (at_17 g2) rfl rfl rfl ⟨rfl, rfl⟩ ⟨by decide, by decide⟩ (Nat.le_of_ble_eq_true rfl) wP_9 dP_copy_5 (fun H locs hw => ?_)
  obtain ⟨s3, es3, hf⟩ := x_l hf
  rw [← es3] at hw
  refine lv_aload_n hx hb dP_copy_8 rfl (lv_at hl 0 rfl) ?_
  refine lv_aload_n hx hb dP_copy_9 rfl (lv_at hl 1 rfl) ?_
  refine x_get C hw 17 k1 1 (v := .int (s3.1 17 k1 1)) (at_17 g1) rfl rfl ⟨by decide, by decide⟩ wP_15 rfl dP_copy_10 ?_
  refine x_puti C hw 17 k0 1 (at_17 g2) rfl rfl rfl ⟨rfl, rfl⟩ ⟨by decide, by decide⟩ (Nat.le_of_ble_eq_true rfl) wP_15 dP_copy_13 (fun H locs hw => ?_)
  obtain ⟨s4, es4, hf⟩ := x_l hf
  rw [← es4] at hw
  refine lv_aload_n hx hb dP_copy_16 rfl (lv_at hl 0 rfl) ?_
  refine lv_aload_n hx hb dP_copy_17 rfl (lv_at hl 1 rfl) ?_
  refine x_get C hw 17 k1 2 (v := va_rf (s4.2.1 17 k1 2)) (at_17 g1) rfl rfl ⟨by decide, by decide⟩ wP_18 rfl dP_copy_18 ?_
  refine x_puto C hw 17 k0 2 (at_17 g2) rfl rfl rfl ⟨rfl, rfl⟩ ⟨by decide, by decide⟩ (Nat.le_of_ble_eq_true rfl) wP_18 dP_copy_21 (fun H locs hw => ?_)
  obtain ⟨s5, es5, hf⟩ := x_l hf
  rw [← es5] at hw
  refine lv_aload_n hx hb dP_copy_24 rfl (lv_at hl 0 rfl) ?_
  refine lv_aload_n hx hb dP_copy_25 rfl (lv_at hl 1 rfl) ?_
  refine x_get C hw 17 k1 3 (v := va_rf (s5.2.1 17 k1 3)) (at_17 g1) rfl rfl ⟨by decide, by decide⟩ wP_22 rfl dP_copy_26 ?_
  refine x_puto C hw 17 k0 3 (at_17 g2) rfl rfl rfl ⟨rfl, rfl⟩ ⟨by decide, by decide⟩ (Nat.le_of_ble_eq_true rfl) wP_22 dP_copy_29 (fun H locs hw => ?_)
  obtain ⟨s6, es6, hf⟩ := x_l hf
  rw [← es6] at hw
  obtain rfl := Option.some.inj hf
  exact x_vret C hw dP_copy_32
-- StandIns beginTelling ()V
set_option maxRecDepth 100000 in
theorem dA_beginTelling_0 : decode bA_beginTelling 0 = .ok (.aload_n 0, 1) := by decide +kernel
set_option maxRecDepth 100000 in
theorem dA_beginTelling_1 : decode bA_beginTelling 1 = .ok (.getfield 49, 3) := by decide +kernel
set_option maxRecDepth 100000 in
theorem dA_beginTelling_4 : decode bA_beginTelling 4 = .ok (.aload_n 0, 1) := by decide +kernel
set_option maxRecDepth 100000 in
theorem dA_beginTelling_5 : decode bA_beginTelling 5 = .ok (.getfield 53, 3) := by decide +kernel
set_option maxRecDepth 100000 in
theorem dA_beginTelling_8 : decode bA_beginTelling 8 = .ok (.aaload, 1) := by decide +kernel
set_option maxRecDepth 100000 in
theorem dA_beginTelling_9 : decode bA_beginTelling 9 = .ok (.getfield 249, 3) := by decide +kernel
set_option maxRecDepth 100000 in
theorem dA_beginTelling_12 : decode bA_beginTelling 12 = .ok (.aload_n 0, 1) := by decide +kernel
set_option maxRecDepth 100000 in
theorem dA_beginTelling_13 : decode bA_beginTelling 13 = .ok (.getfield 73, 3) := by decide +kernel
set_option maxRecDepth 100000 in
theorem dA_beginTelling_16 : decode bA_beginTelling 16 = .ok (.invokevirtual 291, 3) := by decide +kernel
set_option maxRecDepth 100000 in
theorem dA_beginTelling_19 : decode bA_beginTelling 19 = .ok (.aload_n 0, 1) := by decide +kernel
set_option maxRecDepth 100000 in
theorem dA_beginTelling_20 : decode bA_beginTelling 20 = .ok (.dup, 1) := by decide +kernel
set_option maxRecDepth 100000 in
theorem dA_beginTelling_21 : decode bA_beginTelling 21 = .ok (.getfield 53, 3) := by decide +kernel
set_option maxRecDepth 100000 in
theorem dA_beginTelling_24 : decode bA_beginTelling 24 = .ok (.iconst 1, 1) := by decide +kernel
set_option maxRecDepth 100000 in
theorem dA_beginTelling_25 : decode bA_beginTelling 25 = .ok (.iadd, 1) := by decide +kernel
set_option maxRecDepth 100000 in
theorem dA_beginTelling_26 : decode bA_beginTelling 26 = .ok (.putfield 53, 3) := by decide +kernel
set_option maxRecDepth 100000 in
theorem dA_beginTelling_29 : decode bA_beginTelling 29 = .ok (.return_, 1) := by decide +kernel
def fA_beginTelling (σ : xS) : Option (xS) :=
  if ¬ ((σ.1 0 0 8) < 0 ∨ 16 ≤ (σ.1 0 0 8).toNatClampNeg) then
  xp (fP_copy σ ((σ.1 0 0 8).toNatClampNeg) 16) fun s4 =>
  if ((σ.1 0 0 8).toNatClampNeg) < 17 then
  xl (x_si s4 0 0 8 ((s4.1 0 0 8) + 1)) fun s6 =>
  some s6
  else none
  else none
set_option maxHeartbeats 4000000 in
set_option maxRecDepth 100000 in
theorem cA_beginTelling (l : Launch) (E : xE) (σ : xS) (τ : yS) (res : xS) (hf : fA_beginTelling σ = some res) : xM l E yA_beginTelling bA_beginTelling 1 none 1 0 0 [.ref (E.2.2.1 0 0)] σ τ none res τ := by
  refine x_met (by decide) (Nat.le_of_ble_eq_true rfl) (fun p e R s m args below meth c A ls H locs C hw hl => ?_)
  have hl : lv_has ls 1 [(0, .ref (E.2.2.1 0 0))] := hl
  have hx := C.1
  have hb := C.2.1
  unfold fA_beginTelling at hf
  refine lv_aload_n hx hb dA_beginTelling_0 rfl (lv_at hl 0 rfl) ?_
  refine x_get C hw 0 0 7 (v := .ref (E.2.2.1 8 0)) at_0 rfl rfl ⟨by decide, by decide⟩ wA_49 rfl dA_beginTelling_1 ?_
  refine lv_aload_n hx hb dA_beginTelling_4 rfl (lv_at hl 0 rfl) ?_
  refine x_get C hw 0 0 8 (v := .int (σ.1 0 0 8)) at_0 rfl rfl ⟨by decide, by decide⟩ wA_53 rfl dA_beginTelling_5 ?_
  obtain ⟨g1, hf⟩ := x_g hf
  refine x_ald8 C hw g1 dA_beginTelling_8 ?_
  have g2 := x_lt g1
  refine x_getN C hw 16 ((σ.1 0 0 8).toNatClampNeg) 0 (v := .ref (E.2.2.1 17 ((σ.1 0 0 8).toNatClampNeg))) (at_16 g2) rfl rfl ⟨by decide, by decide⟩ wA_249 rfl dA_beginTelling_9 ?_
  refine lv_aload_n hx hb dA_beginTelling_12 rfl (lv_at hl 0 rfl) ?_
  refine x_get C hw 0 0 11 (v := .ref (E.2.2.1 17 16)) at_0 rfl rfl ⟨by decide, by decide⟩ wA_73 rfl dA_beginTelling_13 ?_
  obtain ⟨s4, h3, hf⟩ := x_p hf
  obtain ⟨g5, hf⟩ := x_g hf
  refine x_callVN (As := [.ref (E.2.2.1 17 16)]) (rest := []) (st1 := []) C hw (cP_copy l E σ τ ((σ.1 0 0 8).toNatClampNeg) 16 s4 h3) kA_291 (x_recv C hw 17 ((σ.1 0 0 8).toNatClampNeg) (at_17 g5) rfl rfl) (by decide) rfl rfl hl.1 (lv_room (Nat.le_of_ble_eq_true rfl)) dA_beginTelling_16 ⟨by decide, by decide⟩ rfl (fun H locs hw => ?_)
  refine lv_aload_n hx hb dA_beginTelling_19 rfl (lv_at hl 0 rfl) ?_
  refine lv_dup hx hb dA_beginTelling_20 rfl ?_
  refine x_get C hw 0 0 8 (v := .int (s4.1 0 0 8)) at_0 rfl rfl ⟨by decide, by decide⟩ wA_53 rfl dA_beginTelling_21 ?_
  refine lv_iconst (v := 1) hx hb dA_beginTelling_24 (by decide) ?_
  refine lv_iadd hx hb dA_beginTelling_25 ?_
  refine x_puti C hw 0 0 8 at_0 rfl rfl rfl ⟨rfl, rfl⟩ ⟨by decide, by decide⟩ (Nat.le_of_ble_eq_true rfl) wA_53 dA_beginTelling_26 (fun H locs hw => ?_)
  obtain ⟨s6, es6, hf⟩ := x_l hf
  rw [← es6] at hw
  obtain rfl := Option.some.inj hf
  exact x_vret C hw dA_beginTelling_29
-- StandIns$Answers add (II)V
set_option maxRecDepth 100000 in
theorem dQ_add_0 : decode bQ_add 0 = .ok (.aload_n 0, 1) := by decide +kernel
set_option maxRecDepth 100000 in
theorem dQ_add_1 : decode bQ_add 1 = .ok (.getfield 18, 3) := by decide +kernel
set_option maxRecDepth 100000 in
theorem dQ_add_4 : decode bQ_add 4 = .ok (.iconst 4, 1) := by decide +kernel
set_option maxRecDepth 100000 in
theorem dQ_add_5 : decode bQ_add 5 = .ok (.if_icmp .ge 33, 3) := by decide +kernel
set_option maxRecDepth 100000 in
theorem dQ_add_8 : decode bQ_add 8 = .ok (.aload_n 0, 1) := by decide +kernel
set_option maxRecDepth 100000 in
theorem dQ_add_9 : decode bQ_add 9 = .ok (.getfield 9, 3) := by decide +kernel
set_option maxRecDepth 100000 in
theorem dQ_add_12 : decode bQ_add 12 = .ok (.aload_n 0, 1) := by decide +kernel
set_option maxRecDepth 100000 in
theorem dQ_add_13 : decode bQ_add 13 = .ok (.getfield 18, 3) := by decide +kernel
set_option maxRecDepth 100000 in
theorem dQ_add_16 : decode bQ_add 16 = .ok (.iload_n 1, 1) := by decide +kernel
set_option maxRecDepth 100000 in
theorem dQ_add_17 : decode bQ_add 17 = .ok (.iastore, 1) := by decide +kernel
set_option maxRecDepth 100000 in
theorem dQ_add_18 : decode bQ_add 18 = .ok (.aload_n 0, 1) := by decide +kernel
set_option maxRecDepth 100000 in
theorem dQ_add_19 : decode bQ_add 19 = .ok (.getfield 15, 3) := by decide +kernel
set_option maxRecDepth 100000 in
theorem dQ_add_22 : decode bQ_add 22 = .ok (.aload_n 0, 1) := by decide +kernel
set_option maxRecDepth 100000 in
theorem dQ_add_23 : decode bQ_add 23 = .ok (.getfield 18, 3) := by decide +kernel
set_option maxRecDepth 100000 in
theorem dQ_add_26 : decode bQ_add 26 = .ok (.iload_n 2, 1) := by decide +kernel
set_option maxRecDepth 100000 in
theorem dQ_add_27 : decode bQ_add 27 = .ok (.iastore, 1) := by decide +kernel
set_option maxRecDepth 100000 in
theorem dQ_add_28 : decode bQ_add 28 = .ok (.aload_n 0, 1) := by decide +kernel
set_option maxRecDepth 100000 in
theorem dQ_add_29 : decode bQ_add 29 = .ok (.dup, 1) := by decide +kernel
set_option maxRecDepth 100000 in
theorem dQ_add_30 : decode bQ_add 30 = .ok (.getfield 18, 3) := by decide +kernel
set_option maxRecDepth 100000 in
theorem dQ_add_33 : decode bQ_add 33 = .ok (.iconst 1, 1) := by decide +kernel
set_option maxRecDepth 100000 in
theorem dQ_add_34 : decode bQ_add 34 = .ok (.iadd, 1) := by decide +kernel
set_option maxRecDepth 100000 in
theorem dQ_add_35 : decode bQ_add 35 = .ok (.putfield 18, 3) := by decide +kernel
set_option maxRecDepth 100000 in
theorem dQ_add_38 : decode bQ_add 38 = .ok (.return_, 1) := by decide +kernel
def fQ_add (σ : xS) (k0 : Nat) (a1 : Int32) (a2 : Int32) : Option (xS) :=
  if k0 < 17 then
  if 4 ≤ (σ.1 18 k0 2) then
  (some σ)
  else
  (if ¬ ((σ.1 18 k0 2) < 0 ∨ 4 ≤ (σ.1 18 k0 2).toNatClampNeg) then
  xl (x_si σ 19 k0 ((σ.1 18 k0 2).toNatClampNeg) a1) fun s4 =>
  if ¬ ((s4.1 18 k0 2) < 0 ∨ 4 ≤ (s4.1 18 k0 2).toNatClampNeg) then
  xl (x_si s4 20 k0 ((s4.1 18 k0 2).toNatClampNeg) a2) fun s6 =>
  xl (x_si s6 18 k0 2 ((s6.1 18 k0 2) + 1)) fun s7 =>
  some s7
  else none
  else none)
  else none
set_option maxHeartbeats 4000000 in
set_option maxRecDepth 100000 in
theorem cQ_add (l : Launch) (E : xE) (σ : xS) (τ : yS) (k0 : Nat) (a1 : Int32) (a2 : Int32) (res : xS) (hf : fQ_add σ k0 a1 a2 = some res) : xM l E yQ_add bQ_add 3 none 0 0 0 [.ref (E.2.2.1 18 k0), .int a1, .int a2] σ τ none res τ := by
  refine x_met (by decide) (Nat.le_of_ble_eq_true rfl) (fun p e R s m args below meth c A ls H locs C hw hl => ?_)
  have hl : lv_has ls 3 [(0, .ref (E.2.2.1 18 k0)), (1, .int a1), (2, .int a2)] := hl
  have hx := C.1
  have hb := C.2.1
  unfold fQ_add at hf
  refine lv_aload_n hx hb dQ_add_0 rfl (lv_at hl 0 rfl) ?_
  obtain ⟨g1, hf⟩ := x_g hf
  refine x_get C hw 18 k0 2 (v := .int (σ.1 18 k0 2)) (at_18 g1) rfl rfl ⟨by decide, by decide⟩ wQ_18 rfl dQ_add_1 ?_
  refine lv_iconst (v := 4) hx hb dQ_add_4 (by decide) ?_
  refine lv_icmp_ge (tgt := 38) hx hb dQ_add_5 (by decide) (fun c2 => ?_) (fun c2 => ?_)
  · replace hf := x_ip c2 hf
    obtain rfl := Option.some.inj hf
    exact x_vret C hw dQ_add_38
  · replace hf := x_in c2 hf
    refine lv_aload_n hx hb dQ_add_8 rfl (lv_at hl 0 rfl) ?_
    refine x_get C hw 18 k0 0 (v := .ref (E.2.2.1 19 k0)) (at_18 g1) rfl rfl ⟨by decide, by decide⟩ wQ_9 rfl dQ_add_9 ?_
    refine lv_aload_n hx hb dQ_add_12 rfl (lv_at hl 0 rfl) ?_
    refine x_get C hw 18 k0 2 (v := .int (σ.1 18 k0 2)) (at_18 g1) rfl rfl ⟨by decide, by decide⟩ wQ_18 rfl dQ_add_13 ?_
    refine lv_iload_n hx hb dQ_add_16 rfl (lv_at hl 1 rfl) ?_
    obtain ⟨g3, hf⟩ := x_g hf
    refine x_ist C hw 19 k0 (at_19 g1) rfl rfl g3 dQ_add_17 (fun H locs hw => ?_)
    obtain ⟨s4, es4, hf⟩ := x_l hf
    rw [← es4] at hw
    refine lv_aload_n hx hb dQ_add_18 rfl (lv_at hl 0 rfl) ?_
    refine x_get C hw 18 k0 1 (v := .ref (E.2.2.1 20 k0)) (at_18 g1) rfl rfl ⟨by decide, by decide⟩ wQ_15 rfl dQ_add_19 ?_
    refine lv_aload_n hx hb dQ_add_22 rfl (lv_at hl 0 rfl) ?_
    refine x_get C hw 18 k0 2 (v := .int (s4.1 18 k0 2)) (at_18 g1) rfl rfl ⟨by decide, by decide⟩ wQ_18 rfl dQ_add_23 ?_
    refine lv_iload_n hx hb dQ_add_26 rfl (lv_at hl 2 rfl) ?_
    obtain ⟨g5, hf⟩ := x_g hf
    refine x_ist C hw 20 k0 (at_20 g1) rfl rfl g5 dQ_add_27 (fun H locs hw => ?_)
    obtain ⟨s6, es6, hf⟩ := x_l hf
    rw [← es6] at hw
    refine lv_aload_n hx hb dQ_add_28 rfl (lv_at hl 0 rfl) ?_
    refine lv_dup hx hb dQ_add_29 rfl ?_
    refine x_get C hw 18 k0 2 (v := .int (s6.1 18 k0 2)) (at_18 g1) rfl rfl ⟨by decide, by decide⟩ wQ_18 rfl dQ_add_30 ?_
    refine lv_iconst (v := 1) hx hb dQ_add_33 (by decide) ?_
    refine lv_iadd hx hb dQ_add_34 ?_
    refine x_puti C hw 18 k0 2 (at_18 g1) rfl rfl rfl ⟨rfl, rfl⟩ ⟨by decide, by decide⟩ (Nat.le_of_ble_eq_true rfl) wQ_18 dQ_add_35 (fun H locs hw => ?_)
    obtain ⟨s7, es7, hf⟩ := x_l hf
    rw [← es7] at hw
    obtain rfl := Option.some.inj hf
    exact x_vret C hw dQ_add_38
-- StandIns$Answers takeAllOf (LStandIns$Answers;)V
set_option maxRecDepth 100000 in
theorem dQ_takeAllOf_0 : decode bQ_takeAllOf 0 = .ok (.iconst 0, 1) := by decide +kernel
set_option maxRecDepth 100000 in
theorem dQ_takeAllOf_1 : decode bQ_takeAllOf 1 = .ok (.istore_n 2, 1) := by decide +kernel
set_option maxRecDepth 100000 in
theorem dQ_takeAllOf_2 : decode bQ_takeAllOf 2 = .ok (.iload_n 2, 1) := by decide +kernel
set_option maxRecDepth 100000 in
theorem dQ_takeAllOf_3 : decode bQ_takeAllOf 3 = .ok (.aload_n 1, 1) := by decide +kernel
set_option maxRecDepth 100000 in
theorem dQ_takeAllOf_4 : decode bQ_takeAllOf 4 = .ok (.getfield 18, 3) := by decide +kernel
set_option maxRecDepth 100000 in
theorem dQ_takeAllOf_7 : decode bQ_takeAllOf 7 = .ok (.if_icmp .ge 25, 3) := by decide +kernel
set_option maxRecDepth 100000 in
theorem dQ_takeAllOf_10 : decode bQ_takeAllOf 10 = .ok (.aload_n 0, 1) := by decide +kernel
set_option maxRecDepth 100000 in
theorem dQ_takeAllOf_11 : decode bQ_takeAllOf 11 = .ok (.aload_n 1, 1) := by decide +kernel
set_option maxRecDepth 100000 in
theorem dQ_takeAllOf_12 : decode bQ_takeAllOf 12 = .ok (.getfield 9, 3) := by decide +kernel
set_option maxRecDepth 100000 in
theorem dQ_takeAllOf_15 : decode bQ_takeAllOf 15 = .ok (.iload_n 2, 1) := by decide +kernel
set_option maxRecDepth 100000 in
theorem dQ_takeAllOf_16 : decode bQ_takeAllOf 16 = .ok (.iaload, 1) := by decide +kernel
set_option maxRecDepth 100000 in
theorem dQ_takeAllOf_17 : decode bQ_takeAllOf 17 = .ok (.aload_n 1, 1) := by decide +kernel
set_option maxRecDepth 100000 in
theorem dQ_takeAllOf_18 : decode bQ_takeAllOf 18 = .ok (.getfield 15, 3) := by decide +kernel
set_option maxRecDepth 100000 in
theorem dQ_takeAllOf_21 : decode bQ_takeAllOf 21 = .ok (.iload_n 2, 1) := by decide +kernel
set_option maxRecDepth 100000 in
theorem dQ_takeAllOf_22 : decode bQ_takeAllOf 22 = .ok (.iaload, 1) := by decide +kernel
set_option maxRecDepth 100000 in
theorem dQ_takeAllOf_23 : decode bQ_takeAllOf 23 = .ok (.invokevirtual 22, 3) := by decide +kernel
set_option maxRecDepth 100000 in
theorem dQ_takeAllOf_26 : decode bQ_takeAllOf 26 = .ok (.iinc 2 1, 3) := by decide +kernel
set_option maxRecDepth 100000 in
theorem dQ_takeAllOf_29 : decode bQ_takeAllOf 29 = .ok (.goto (-27), 3) := by decide +kernel
set_option maxRecDepth 100000 in
theorem dQ_takeAllOf_32 : decode bQ_takeAllOf 32 = .ok (.aload_n 1, 1) := by decide +kernel
set_option maxRecDepth 100000 in
theorem dQ_takeAllOf_33 : decode bQ_takeAllOf 33 = .ok (.iconst 0, 1) := by decide +kernel
set_option maxRecDepth 100000 in
theorem dQ_takeAllOf_34 : decode bQ_takeAllOf 34 = .ok (.putfield 18, 3) := by decide +kernel
set_option maxRecDepth 100000 in
theorem dQ_takeAllOf_37 : decode bQ_takeAllOf 37 = .ok (.return_, 1) := by decide +kernel
def fQ_takeAllOf_2b (N : Nat) (rec2 : xS → Nat → Nat → Int32 → Option (xS)) (σ : xS) (k0 : Nat) (k1 : Nat) (a2 : Int32) : Option (xS) :=
  if k1 < 17 then
  if (σ.1 18 k1 2) ≤ a2 then
  (xl (x_si σ 18 k1 2 0) fun s10 =>
  some s10)
  else
  (if ¬ (a2 < 0 ∨ 4 ≤ a2.toNatClampNeg) then
  xp (fQ_add σ k0 (σ.1 19 k1 a2.toNatClampNeg) (σ.1 20 k1 a2.toNatClampNeg)) fun s13 =>
  if k0 < 17 then
  rec2 s13 k0 k1 (a2 + 1)
  else none
  else none)
  else none
def fQ_takeAllOf_2 (N : Nat) : Nat → xS → Nat → Nat → Int32 → Option (xS)
  | 0, _, _, _, _ => none
  | n + 1, σ, k0, k1, a2 => fQ_takeAllOf_2b N (fQ_takeAllOf_2 N n) σ k0 k1 a2
def fQ_takeAllOf (N : Nat) (σ : xS) (k0 : Nat) (k1 : Nat) : Option (xS) :=
  fQ_takeAllOf_2 N N σ k0 k1 0
set_option maxHeartbeats 4000000 in
set_option maxRecDepth 100000 in
theorem wQ_takeAllOf_2b {p : Program} {l : Launch} {e : Env} {R : Room} {s : State} {m : MethodId} {args : Array Value} {below : List Frame} {meth : Method} {c : Code} {E : xE} {A : Nat → Prop} {τ : yS} (C : xC p s m args meth c R E A bQ_takeAllOf 3 yQ_takeAllOf none 1 0 0) (N : Nat) (σ : xS) (rec2 : xS → Nat → Nat → Int32 → Option (xS)) (hrec2 : ∀ (σ : xS) (k0 : Nat) (k1 : Nat) (a2 : Int32) (res : xS), rec2 σ k0 k1 a2 = some res → ∀ (H : Heap) (locs : List Loc) (ls : Array Slot), xW E A s σ τ H locs → lv_has ls 3 [(0, .ref (E.2.2.1 18 k0)), (1, .ref (E.2.2.1 18 k1)), (2, .int a2)] → W p l e R s m args below meth c H locs 0 0 (MQ below (xQ E A none res τ) args s 0 0 A) (F0 m 2 ls [])) (k0 : Nat) (k1 : Nat) (a2 : Int32) (res : xS) (hf : fQ_takeAllOf_2b N rec2 σ k0 k1 a2 = some res) (H : Heap) (locs : List Loc) (ls : Array Slot) (hw : xW E A s σ τ H locs) (hl : lv_has ls 3 [(0, .ref (E.2.2.1 18 k0)), (1, .ref (E.2.2.1 18 k1)), (2, .int a2)]) : W p l e R s m args below meth c H locs 0 0 (MQ below (xQ E A none res τ) args s 0 0 A) (F0 m 2 ls []) := by
  have hx := C.1
  have hb := C.2.1
  unfold fQ_takeAllOf_2b at hf
  refine lv_iload_n hx hb dQ_takeAllOf_2 rfl (lv_at hl 2 rfl) ?_
  refine lv_aload_n hx hb dQ_takeAllOf_3 rfl (lv_at hl 1 rfl) ?_
  obtain ⟨g8, hf⟩ := x_g hf
  refine x_get C hw 18 k1 2 (v := .int (σ.1 18 k1 2)) (at_18 g8) rfl rfl ⟨by decide, by decide⟩ wQ_18 rfl dQ_takeAllOf_4 ?_
  refine lv_icmp_ge (tgt := 32) hx hb dQ_takeAllOf_7 (by decide) (fun c9 => ?_) (fun c9 => ?_)
  · replace hf := x_ip c9 hf
    refine lv_aload_n hx hb dQ_takeAllOf_32 rfl (lv_at hl 1 rfl) ?_
    refine lv_iconst (v := 0) hx hb dQ_takeAllOf_33 (by decide) ?_
    refine x_puti C hw 18 k1 2 (at_18 g8) rfl rfl rfl ⟨rfl, rfl⟩ ⟨by decide, by decide⟩ (Nat.le_of_ble_eq_true rfl) wQ_18 dQ_takeAllOf_34 (fun H locs hw => ?_)
    obtain ⟨s10, es10, hf⟩ := x_l hf
    rw [← es10] at hw
    obtain rfl := Option.some.inj hf
    exact x_vret C hw dQ_takeAllOf_37
  · replace hf := x_in c9 hf
    refine lv_aload_n hx hb dQ_takeAllOf_10 rfl (lv_at hl 0 rfl) ?_
    refine lv_aload_n hx hb dQ_takeAllOf_11 rfl (lv_at hl 1 rfl) ?_
    refine x_get C hw 18 k1 0 (v := .ref (E.2.2.1 19 k1)) (at_18 g8) rfl rfl ⟨by decide, by decide⟩ wQ_9 rfl dQ_takeAllOf_12 ?_
    refine lv_iload_n hx hb dQ_takeAllOf_15 rfl (lv_at hl 2 rfl) ?_
    obtain ⟨g11, hf⟩ := x_g hf
    refine x_ild C hw 19 k1 (at_19 g8) rfl g11 dQ_takeAllOf_16 ?_
    refine lv_aload_n hx hb dQ_takeAllOf_17 rfl (lv_at hl 1 rfl) ?_
    refine x_get C hw 18 k1 1 (v := .ref (E.2.2.1 20 k1)) (at_18 g8) rfl rfl ⟨by decide, by decide⟩ wQ_15 rfl dQ_takeAllOf_18 ?_
    refine lv_iload_n hx hb dQ_takeAllOf_21 rfl (lv_at hl 2 rfl) ?_
    refine x_ild C hw 20 k1 (at_20 g8) rfl g11 dQ_takeAllOf_22 ?_
    obtain ⟨s13, h12, hf⟩ := x_p hf
    obtain ⟨g14, hf⟩ := x_g hf
    refine x_callV (As := [.int (σ.1 19 k1 a2.toNatClampNeg), .int (σ.1 20 k1 a2.toNatClampNeg)]) (rest := []) (st1 := []) C hw (cQ_add l E σ τ k0 (σ.1 19 k1 a2.toNatClampNeg) (σ.1 20 k1 a2.toNatClampNeg) s13 h12) kQ_22 (x_recv C hw 18 k0 (at_18 g14) rfl rfl) (by decide) rfl rfl hl.1 (lv_room (Nat.le_of_ble_eq_true rfl)) dQ_takeAllOf_23 ⟨by decide, by decide⟩ rfl (fun H locs hw => ?_)
    refine lv_iinc (v := a2 + 1) (lv' := [(2, .int (a2 + 1)), (0, .ref (E.2.2.1 18 k0)), (1, .ref (E.2.2.1 18 k1))]) hx hb dQ_takeAllOf_26 hl (k := 2) rfl rfl (by decide) rfl (fun ls hl => ?_)
    refine lv_goto (tgt := 2) hx hb dQ_takeAllOf_29 (by decide) ?_
    exact hrec2 s13 k0 k1 (a2 + 1) res hf H locs ls hw (lv_sub hl [1, 2, 0] rfl)
set_option maxHeartbeats 4000000 in
set_option maxRecDepth 100000 in
theorem wQ_takeAllOf_2 {p : Program} {l : Launch} {e : Env} {R : Room} {s : State} {m : MethodId} {args : Array Value} {below : List Frame} {meth : Method} {c : Code} {E : xE} {A : Nat → Prop} {τ : yS} (C : xC p s m args meth c R E A bQ_takeAllOf 3 yQ_takeAllOf none 1 0 0) (N : Nat) (n : Nat) : ∀ (σ : xS) (k0 : Nat) (k1 : Nat) (a2 : Int32) (res : xS), fQ_takeAllOf_2 N n σ k0 k1 a2 = some res → ∀ (H : Heap) (locs : List Loc) (ls : Array Slot), xW E A s σ τ H locs → lv_has ls 3 [(0, .ref (E.2.2.1 18 k0)), (1, .ref (E.2.2.1 18 k1)), (2, .int a2)] → W p l e R s m args below meth c H locs 0 0 (MQ below (xQ E A none res τ) args s 0 0 A) (F0 m 2 ls []) := by
  induction n with
  | zero => intro σ k0 k1 a2 res hf; cases hf
  | succ n ih =>
    intro σ k0 k1 a2 res hf H locs ls hw hl
    exact wQ_takeAllOf_2b C N σ (fQ_takeAllOf_2 N n) ih k0 k1 a2 res hf H locs ls hw hl
set_option maxHeartbeats 4000000 in
set_option maxRecDepth 100000 in
theorem cQ_takeAllOf (l : Launch) (E : xE) (N : Nat) (σ : xS) (τ : yS) (k0 : Nat) (k1 : Nat) (res : xS) (hf : fQ_takeAllOf N σ k0 k1 = some res) : xM l E yQ_takeAllOf bQ_takeAllOf 3 none 1 0 0 [.ref (E.2.2.1 18 k0), .ref (E.2.2.1 18 k1)] σ τ none res τ := by
  refine x_met (by decide) (Nat.le_of_ble_eq_true rfl) (fun p e R s m args below meth c A ls H locs C hw hl => ?_)
  have hl : lv_has ls 3 [(0, .ref (E.2.2.1 18 k0)), (1, .ref (E.2.2.1 18 k1))] := hl
  have hx := C.1
  have hb := C.2.1
  unfold fQ_takeAllOf at hf
  refine lv_iconst (v := 0) hx hb dQ_takeAllOf_0 (by decide) ?_
  refine lv_istore_n (lv' := [(2, .int 0), (0, .ref (E.2.2.1 18 k0)), (1, .ref (E.2.2.1 18 k1))]) hx hb dQ_takeAllOf_1 rfl hl (by decide) rfl (fun ls hl => ?_)
  exact wQ_takeAllOf_2 C N N σ k0 k1 0 res hf H locs ls hw (lv_sub hl [1, 2, 0] rfl)
-- StandIns tellPrepared ()J
set_option maxRecDepth 100000 in
theorem dA_tellPrepared_0 : decode bA_tellPrepared 0 = .ok (.aload_n 0, 1) := by decide +kernel
set_option maxRecDepth 100000 in
theorem dA_tellPrepared_1 : decode bA_tellPrepared 1 = .ok (.invokevirtual 201, 3) := by decide +kernel
set_option maxRecDepth 100000 in
theorem dA_tellPrepared_4 : decode bA_tellPrepared 4 = .ok (.aload_n 0, 1) := by decide +kernel
set_option maxRecDepth 100000 in
theorem dA_tellPrepared_5 : decode bA_tellPrepared 5 = .ok (.invokevirtual 207, 3) := by decide +kernel
set_option maxRecDepth 100000 in
theorem dA_tellPrepared_8 : decode bA_tellPrepared 8 = .ok (.getfield 211, 3) := by decide +kernel
set_option maxRecDepth 100000 in
theorem dA_tellPrepared_11 : decode bA_tellPrepared 11 = .ok (.aload_n 0, 1) := by decide +kernel
set_option maxRecDepth 100000 in
theorem dA_tellPrepared_12 : decode bA_tellPrepared 12 = .ok (.getfield 36, 3) := by decide +kernel
set_option maxRecDepth 100000 in
theorem dA_tellPrepared_15 : decode bA_tellPrepared 15 = .ok (.invokevirtual 295, 3) := by decide +kernel
set_option maxRecDepth 100000 in
theorem dA_tellPrepared_18 : decode bA_tellPrepared 18 = .ok (.aload_n 0, 1) := by decide +kernel
set_option maxRecDepth 100000 in
theorem dA_tellPrepared_19 : decode bA_tellPrepared 19 = .ok (.iconst 0, 1) := by decide +kernel
set_option maxRecDepth 100000 in
theorem dA_tellPrepared_20 : decode bA_tellPrepared 20 = .ok (.invokevirtual 112, 3) := by decide +kernel
set_option maxRecDepth 100000 in
theorem dA_tellPrepared_23 : decode bA_tellPrepared 23 = .ok (.i2l, 1) := by decide +kernel
set_option maxRecDepth 100000 in
theorem dA_tellPrepared_24 : decode bA_tellPrepared 24 = .ok (.lreturn, 1) := by decide +kernel
def fA_tellPrepared (N : Nat) (σ : xS) : Option (Int64 × xS) :=
  xp (fA_beginTelling σ) fun s2 =>
  xp (fA_latestTelling s2) fun r4 =>
  if r4 < 16 then
  xp (fQ_takeAllOf N s2 r4 16) fun s7 =>
  if r4 < 17 then
  xl (fA_idleWith s7 0) fun s10 =>
  some (s10.1.toInt64, s10.2)
  else none
  else none
set_option maxHeartbeats 4000000 in
set_option maxRecDepth 100000 in
theorem cA_tellPrepared (l : Launch) (E : xE) (N : Nat) (σ : xS) (τ : yS) (res : Int64 × xS) (hf : fA_tellPrepared N σ = some res) : xM l E yA_tellPrepared bA_tellPrepared 1 (some .long) 2 0 0 [.ref (E.2.2.1 0 0)] σ τ (some (.long res.1)) res.2 τ := by
  refine x_met (by decide) (Nat.le_of_ble_eq_true rfl) (fun p e R s m args below meth c A ls H locs C hw hl => ?_)
  have hl : lv_has ls 1 [(0, .ref (E.2.2.1 0 0))] := hl
  have hx := C.1
  have hb := C.2.1
  unfold fA_tellPrepared at hf
  refine lv_aload_n hx hb dA_tellPrepared_0 rfl (lv_at hl 0 rfl) ?_
  obtain ⟨s2, h1, hf⟩ := x_p hf
  refine x_callV (As := []) (rest := []) (st1 := []) C hw (cA_beginTelling l E σ τ s2 h1) kA_201 (x_recv C hw 0 0 at_0 rfl rfl) (by decide) rfl rfl hl.1 (lv_room (Nat.le_of_ble_eq_true rfl)) dA_tellPrepared_1 ⟨by decide, by decide⟩ rfl (fun H locs hw => ?_)
  refine lv_aload_n hx hb dA_tellPrepared_4 rfl (lv_at hl 0 rfl) ?_
  obtain ⟨r4, h3, hf⟩ := x_p hf
  refine x_callV (As := []) (rest := []) (st1 := [.ref (E.2.2.1 16 r4)]) C hw (cA_latestTelling l E s2 τ r4 h3) kA_207 (x_recv C hw 0 0 at_0 rfl rfl) (by decide) rfl rfl hl.1 (lv_room (Nat.le_of_ble_eq_true rfl)) dA_tellPrepared_5 ⟨by decide, by decide⟩ rfl (fun H locs hw => ?_)
  obtain ⟨g5, hf⟩ := x_g hf
  refine x_getN C hw 16 r4 1 (v := .ref (E.2.2.1 18 r4)) (at_16 g5) rfl rfl ⟨by decide, by decide⟩ wA_211 rfl dA_tellPrepared_8 ?_
  refine lv_aload_n hx hb dA_tellPrepared_11 rfl (lv_at hl 0 rfl) ?_
  refine x_get C hw 0 0 5 (v := .ref (E.2.2.1 18 16)) at_0 rfl rfl ⟨by decide, by decide⟩ wA_36 rfl dA_tellPrepared_12 ?_
  obtain ⟨s7, h6, hf⟩ := x_p hf
  obtain ⟨g8, hf⟩ := x_g hf
  refine x_callVN (As := [.ref (E.2.2.1 18 16)]) (rest := []) (st1 := []) C hw (cQ_takeAllOf l E N s2 τ r4 16 s7 h6) kA_295 (x_recv C hw 18 r4 (at_18 g8) rfl rfl) (by decide) rfl rfl hl.1 (lv_room (Nat.le_of_ble_eq_true rfl)) dA_tellPrepared_15 ⟨by decide, by decide⟩ rfl (fun H locs hw => ?_)
  refine lv_aload_n hx hb dA_tellPrepared_18 rfl (lv_at hl 0 rfl) ?_
  refine lv_iconst (v := 0) hx hb dA_tellPrepared_19 (by decide) ?_
  obtain ⟨s10, h9, hf⟩ := x_l hf
  refine x_callV (As := [.int 0]) (rest := []) (st1 := [.int s10.1]) C hw (cA_idleWith l E s7 τ 0 s10 h9.symm) kA_112 (x_recv C hw 0 0 at_0 rfl rfl) (by decide) rfl rfl hl.1 (lv_room (Nat.le_of_ble_eq_true rfl)) dA_tellPrepared_20 ⟨by decide, by decide⟩ rfl (fun H locs hw => ?_)
  refine lv_i2l hx hb dA_tellPrepared_23 rfl ?_
  obtain rfl := Option.some.inj hf
  exact x_lret C hw dA_tellPrepared_24
